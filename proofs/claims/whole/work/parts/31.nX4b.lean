theorem dX4_pass_16 : decode cX4_pass 16 = .ok (.iconst 1, 1) := by decide +kernel
theorem dX4_pass_17 : decode cX4_pass 17 = .ok (.invokevirtual 36, 3) := by decide +kernel
theorem dX4_pass_20 : decode cX4_pass 20 = .ok (.ireturn, 1) := by decide +kernel
theorem dX4_pass_21 : decode cX4_pass 21 = .ok (.aload_n 0, 1) := by decide +kernel
theorem dX4_pass_22 : decode cX4_pass 22 = .ok (.invokevirtual 44, 3) := by decide +kernel
theorem dX4_pass_25 : decode cX4_pass 25 = .ok (.aload_n 0, 1) := by decide +kernel
theorem dX4_pass_26 : decode cX4_pass 26 = .ok (.iload_n 1, 1) := by decide +kernel
theorem dX4_pass_27 : decode cX4_pass 27 = .ok (.invokevirtual 128, 3) := by decide +kernel
theorem dX4_pass_30 : decode cX4_pass 30 = .ok (.ireturn, 1) := by decide +kernel
theorem dX4_leastOf_0 : decode cX4_leastOf 0 = .ok (.iload_n 0, 1) := by decide +kernel
theorem dX4_leastOf_1 : decode cX4_leastOf 1 = .ok (.iconst 2, 1) := by decide +kernel
theorem dX4_leastOf_2 : decode cX4_leastOf 2 = .ok (.if_icmp .ne 7, 3) := by decide +kernel
theorem dX4_leastOf_5 : decode cX4_leastOf 5 = .ok (.iconst 1, 1) := by decide +kernel
theorem dX4_leastOf_6 : decode cX4_leastOf 6 = .ok (.goto 4, 3) := by decide +kernel
theorem dX4_leastOf_9 : decode cX4_leastOf 9 = .ok (.iconst 0, 1) := by decide +kernel
theorem dX4_leastOf_10 : decode cX4_leastOf 10 = .ok (.ireturn, 1) := by decide +kernel
theorem dX4_mostOf_0 : decode cX4_mostOf 0 = .ok (.iload_n 0, 1) := by decide +kernel
theorem dX4_mostOf_1 : decode cX4_mostOf 1 = .ok (.ifCond .ne 8, 3) := by decide +kernel
theorem dX4_mostOf_4 : decode cX4_mostOf 4 = .ok (.bipush 9, 2) := by decide +kernel
theorem dX4_mostOf_6 : decode cX4_mostOf 6 = .ok (.goto 15, 3) := by decide +kernel
theorem dX4_mostOf_9 : decode cX4_mostOf 9 = .ok (.iload_n 0, 1) := by decide +kernel
theorem dX4_mostOf_10 : decode cX4_mostOf 10 = .ok (.iconst 1, 1) := by decide +kernel
theorem dX4_mostOf_11 : decode cX4_mostOf 11 = .ok (.if_icmp .ne 8, 3) := by decide +kernel
theorem dX4_mostOf_14 : decode cX4_mostOf 14 = .ok (.bipush 50, 2) := by decide +kernel
theorem dX4_mostOf_16 : decode cX4_mostOf 16 = .ok (.goto 5, 3) := by decide +kernel
theorem dX4_mostOf_19 : decode cX4_mostOf 19 = .ok (.bipush 30, 2) := by decide +kernel
theorem dX4_mostOf_21 : decode cX4_mostOf 21 = .ok (.ireturn, 1) := by decide +kernel
set_option maxRecDepth 20000 in
theorem ggX4_set_X4_within : GoodIn wsX4_set wsX4_within := goodIn_r _ [6] (by decide +kernel) (by decide +kernel)
set_option maxRecDepth 20000 in
theorem gX4_set_X4_within : GoodIn wsX4_set (va_wsS RX4 29 yX4_within wsX4_within) := goodIn_app (goodIn_of _ (by decide +kernel)) ggX4_set_X4_within
set_option maxRecDepth 20000 in
theorem ggX4_set_X4_fails : GoodIn wsX4_set wsX4_fails := goodIn_r _ [10, 1, 23, 24, 25, 26, 27, 28, 29, 30, 31, 32, 33, 34, 35, 36, 37] (by decide +kernel) (by decide +kernel)
set_option maxRecDepth 20000 in
theorem gX4_set_X4_fails : GoodIn wsX4_set (wsV RX4 36 RX4 yX4_fails wsX4_fails) := goodIn_app (goodIn_of _ (by decide +kernel)) ggX4_set_X4_fails
set_option maxRecDepth 20000 in
theorem ggX4_set_X4_leastOf : GoodIn wsX4_set wsX4_leastOf := goodIn_r _ [13] (by decide +kernel) (by decide +kernel)
set_option maxRecDepth 20000 in
theorem gX4_set_X4_leastOf : GoodIn wsX4_set (va_wsS RX4 131 yX4_leastOf wsX4_leastOf) := goodIn_app (goodIn_of _ (by decide +kernel)) ggX4_set_X4_leastOf
set_option maxRecDepth 20000 in
theorem ggX4_set_X4_mostOf : GoodIn wsX4_set wsX4_mostOf := goodIn_r _ [16] (by decide +kernel) (by decide +kernel)
set_option maxRecDepth 20000 in
theorem gX4_set_X4_mostOf : GoodIn wsX4_set (va_wsS RX4 134 yX4_mostOf wsX4_mostOf) := goodIn_app (goodIn_of _ (by decide +kernel)) ggX4_set_X4_mostOf
set_option maxRecDepth 20000 in
theorem ggX4_set_X4_save : GoodIn wsX4_set wsX4_save := goodIn_r _ [20, 21, 22, 2, 23, 24, 25, 26, 27, 28, 29, 30, 31, 32, 33, 34, 35, 36, 37] (by decide +kernel) (by decide +kernel)
set_option maxRecDepth 20000 in
theorem gX4_set_X4_save : GoodIn wsX4_set (wsV RX4 44 RX4 yX4_save wsX4_save) := goodIn_app (goodIn_of _ (by decide +kernel)) ggX4_set_X4_save
theorem dX4_set_0 : decode cX4_set 0 = .ok (.aload_n 0, 1) := by decide +kernel
theorem dX4_set_1 : decode cX4_set 1 = .ok (.iconst 0, 1) := by decide +kernel
theorem dX4_set_2 : decode cX4_set 2 = .ok (.putfield 25, 3) := by decide +kernel
theorem dX4_set_5 : decode cX4_set 5 = .ok (.iload_n 1, 1) := by decide +kernel
theorem dX4_set_6 : decode cX4_set 6 = .ok (.iconst 0, 1) := by decide +kernel
theorem dX4_set_7 : decode cX4_set 7 = .ok (.iconst 2, 1) := by decide +kernel
theorem dX4_set_8 : decode cX4_set 8 = .ok (.invokestatic 29, 3) := by decide +kernel
theorem dX4_set_11 : decode cX4_set 11 = .ok (.ifCond .ne 9, 3) := by decide +kernel
theorem dX4_set_14 : decode cX4_set 14 = .ok (.aload_n 0, 1) := by decide +kernel
theorem dX4_set_15 : decode cX4_set 15 = .ok (.iconst 1, 1) := by decide +kernel
theorem dX4_set_16 : decode cX4_set 16 = .ok (.invokevirtual 36, 3) := by decide +kernel
theorem dX4_set_19 : decode cX4_set 19 = .ok (.ireturn, 1) := by decide +kernel
theorem dX4_set_20 : decode cX4_set 20 = .ok (.iload_n 2, 1) := by decide +kernel
theorem dX4_set_21 : decode cX4_set 21 = .ok (.iload_n 1, 1) := by decide +kernel
theorem dX4_set_22 : decode cX4_set 22 = .ok (.invokestatic 131, 3) := by decide +kernel
theorem dX4_set_25 : decode cX4_set 25 = .ok (.iload_n 1, 1) := by decide +kernel
theorem dX4_set_26 : decode cX4_set 26 = .ok (.invokestatic 134, 3) := by decide +kernel
theorem dX4_set_29 : decode cX4_set 29 = .ok (.invokestatic 29, 3) := by decide +kernel
theorem dX4_set_32 : decode cX4_set 32 = .ok (.ifCond .ne 9, 3) := by decide +kernel
theorem dX4_set_35 : decode cX4_set 35 = .ok (.aload_n 0, 1) := by decide +kernel
theorem dX4_set_36 : decode cX4_set 36 = .ok (.iconst 2, 1) := by decide +kernel
theorem dX4_set_37 : decode cX4_set 37 = .ok (.invokevirtual 36, 3) := by decide +kernel
theorem dX4_set_40 : decode cX4_set 40 = .ok (.ireturn, 1) := by decide +kernel
theorem dX4_set_41 : decode cX4_set 41 = .ok (.aload_n 0, 1) := by decide +kernel
theorem dX4_set_42 : decode cX4_set 42 = .ok (.invokevirtual 44, 3) := by decide +kernel
theorem dX4_set_45 : decode cX4_set 45 = .ok (.aload_n 0, 1) := by decide +kernel
theorem dX4_set_46 : decode cX4_set 46 = .ok (.getfield 7, 3) := by decide +kernel
theorem dX4_set_49 : decode cX4_set 49 = .ok (.iconst 2, 1) := by decide +kernel
theorem dX4_set_50 : decode cX4_set 50 = .ok (.iload_n 1, 1) := by decide +kernel
theorem dX4_set_51 : decode cX4_set 51 = .ok (.iadd, 1) := by decide +kernel
theorem dX4_set_52 : decode cX4_set 52 = .ok (.iaload, 1) := by decide +kernel
theorem dX4_set_53 : decode cX4_set 53 = .ok (.istore_n 3, 1) := by decide +kernel
theorem dX4_set_54 : decode cX4_set 54 = .ok (.aload_n 0, 1) := by decide +kernel
theorem dX4_set_55 : decode cX4_set 55 = .ok (.getfield 7, 3) := by decide +kernel
theorem dX4_set_58 : decode cX4_set 58 = .ok (.iconst 2, 1) := by decide +kernel
theorem dX4_set_59 : decode cX4_set 59 = .ok (.iload_n 1, 1) := by decide +kernel
theorem dX4_set_60 : decode cX4_set 60 = .ok (.iadd, 1) := by decide +kernel
theorem dX4_set_61 : decode cX4_set 61 = .ok (.iload_n 2, 1) := by decide +kernel
theorem dX4_set_62 : decode cX4_set 62 = .ok (.iastore, 1) := by decide +kernel
theorem dX4_set_63 : decode cX4_set 63 = .ok (.iload_n 3, 1) := by decide +kernel
theorem dX4_set_64 : decode cX4_set 64 = .ok (.ireturn, 1) := by decide +kernel
set_option maxRecDepth 20000 in
theorem ggX4_append_X4_within : GoodIn wsX4_append wsX4_within := goodIn_r _ [7] (by decide +kernel) (by decide +kernel)
set_option maxRecDepth 20000 in
theorem gX4_append_X4_within : GoodIn wsX4_append (va_wsS RX4 29 yX4_within wsX4_within) := goodIn_app (goodIn_of _ (by decide +kernel)) ggX4_append_X4_within
set_option maxRecDepth 20000 in
theorem ggX4_append_X4_fails : GoodIn wsX4_append wsX4_fails := goodIn_r _ [11, 1, 12, 13, 14, 15, 16, 17, 18, 19, 20, 21, 22, 23, 24, 25, 26] (by decide +kernel) (by decide +kernel)
set_option maxRecDepth 20000 in
theorem gX4_append_X4_fails : GoodIn wsX4_append (wsV RX4 36 RX4 yX4_fails wsX4_fails) := goodIn_app (goodIn_of _ (by decide +kernel)) ggX4_append_X4_fails
theorem dX4_append_0 : decode cX4_append 0 = .ok (.aload_n 0, 1) := by decide +kernel
theorem dX4_append_1 : decode cX4_append 1 = .ok (.iconst 0, 1) := by decide +kernel
theorem dX4_append_2 : decode cX4_append 2 = .ok (.putfield 25, 3) := by decide +kernel
theorem dX4_append_5 : decode cX4_append 5 = .ok (.iload_n 1, 1) := by decide +kernel
theorem dX4_append_6 : decode cX4_append 6 = .ok (.bipush 33, 2) := by decide +kernel
theorem dX4_append_8 : decode cX4_append 8 = .ok (.bipush 126, 2) := by decide +kernel
theorem dX4_append_10 : decode cX4_append 10 = .ok (.invokestatic 29, 3) := by decide +kernel
theorem dX4_append_13 : decode cX4_append 13 = .ok (.ifCond .ne 9, 3) := by decide +kernel
theorem dX4_append_16 : decode cX4_append 16 = .ok (.aload_n 0, 1) := by decide +kernel
theorem dX4_append_17 : decode cX4_append 17 = .ok (.iconst 1, 1) := by decide +kernel
theorem dX4_append_18 : decode cX4_append 18 = .ok (.invokevirtual 36, 3) := by decide +kernel
theorem dX4_append_21 : decode cX4_append 21 = .ok (.ireturn, 1) := by decide +kernel
theorem dX4_append_22 : decode cX4_append 22 = .ok (.aload_n 0, 1) := by decide +kernel
theorem dX4_append_23 : decode cX4_append 23 = .ok (.getfield 137, 3) := by decide +kernel
theorem dX4_append_26 : decode cX4_append 26 = .ok (.bipush 60, 2) := by decide +kernel
theorem dX4_append_28 : decode cX4_append 28 = .ok (.if_icmp .ne 9, 3) := by decide +kernel
theorem dX4_append_31 : decode cX4_append 31 = .ok (.aload_n 0, 1) := by decide +kernel
theorem dX4_append_32 : decode cX4_append 32 = .ok (.iconst 2, 1) := by decide +kernel
theorem dX4_append_33 : decode cX4_append 33 = .ok (.invokevirtual 36, 3) := by decide +kernel
theorem dX4_append_36 : decode cX4_append 36 = .ok (.ireturn, 1) := by decide +kernel
theorem dX4_append_37 : decode cX4_append 37 = .ok (.aload_n 0, 1) := by decide +kernel
theorem dX4_append_38 : decode cX4_append 38 = .ok (.getfield 22, 3) := by decide +kernel
theorem dX4_append_41 : decode cX4_append 41 = .ok (.aload_n 0, 1) := by decide +kernel
theorem dX4_append_42 : decode cX4_append 42 = .ok (.getfield 137, 3) := by decide +kernel
theorem dX4_append_45 : decode cX4_append 45 = .ok (.iload_n 1, 1) := by decide +kernel
theorem dX4_append_46 : decode cX4_append 46 = .ok (.iastore, 1) := by decide +kernel
theorem dX4_append_47 : decode cX4_append 47 = .ok (.aload_n 0, 1) := by decide +kernel
theorem dX4_append_48 : decode cX4_append 48 = .ok (.dup, 1) := by decide +kernel
theorem dX4_append_49 : decode cX4_append 49 = .ok (.getfield 137, 3) := by decide +kernel
theorem dX4_append_52 : decode cX4_append 52 = .ok (.iconst 1, 1) := by decide +kernel
theorem dX4_append_53 : decode cX4_append 53 = .ok (.iadd, 1) := by decide +kernel
theorem dX4_append_54 : decode cX4_append 54 = .ok (.putfield 137, 3) := by decide +kernel
theorem dX4_append_57 : decode cX4_append 57 = .ok (.aload_n 0, 1) := by decide +kernel
theorem dX4_append_58 : decode cX4_append 58 = .ok (.getfield 137, 3) := by decide +kernel
theorem dX4_append_61 : decode cX4_append 61 = .ok (.ireturn, 1) := by decide +kernel
theorem dX4_clearBuffer_0 : decode cX4_clearBuffer 0 = .ok (.aload_n 0, 1) := by decide +kernel
theorem dX4_clearBuffer_1 : decode cX4_clearBuffer 1 = .ok (.iconst 0, 1) := by decide +kernel
theorem dX4_clearBuffer_2 : decode cX4_clearBuffer 2 = .ok (.putfield 25, 3) := by decide +kernel
theorem dX4_clearBuffer_5 : decode cX4_clearBuffer 5 = .ok (.aload_n 0, 1) := by decide +kernel
theorem dX4_clearBuffer_6 : decode cX4_clearBuffer 6 = .ok (.getfield 137, 3) := by decide +kernel
theorem dX4_clearBuffer_9 : decode cX4_clearBuffer 9 = .ok (.istore_n 1, 1) := by decide +kernel
theorem dX4_clearBuffer_10 : decode cX4_clearBuffer 10 = .ok (.aload_n 0, 1) := by decide +kernel
theorem dX4_clearBuffer_11 : decode cX4_clearBuffer 11 = .ok (.iconst 0, 1) := by decide +kernel
theorem dX4_clearBuffer_12 : decode cX4_clearBuffer 12 = .ok (.putfield 137, 3) := by decide +kernel
theorem dX4_clearBuffer_15 : decode cX4_clearBuffer 15 = .ok (.iload_n 1, 1) := by decide +kernel
theorem dX4_clearBuffer_16 : decode cX4_clearBuffer 16 = .ok (.ireturn, 1) := by decide +kernel
theorem dX4_next_0 : decode cX4_next 0 = .ok (.aload_n 0, 1) := by decide +kernel
theorem dX4_next_1 : decode cX4_next 1 = .ok (.getfield 140, 3) := by decide +kernel
theorem dX4_next_4 : decode cX4_next 4 = .ok (.aload_n 0, 1) := by decide +kernel
theorem dX4_next_5 : decode cX4_next 5 = .ok (.getfield 137, 3) := by decide +kernel
theorem dX4_next_8 : decode cX4_next 8 = .ok (.if_icmp .ge 15, 3) := by decide +kernel
theorem dX4_next_11 : decode cX4_next 11 = .ok (.aload_n 0, 1) := by decide +kernel
theorem dX4_next_12 : decode cX4_next 12 = .ok (.getfield 22, 3) := by decide +kernel
theorem dX4_next_15 : decode cX4_next 15 = .ok (.aload_n 0, 1) := by decide +kernel
theorem dX4_next_16 : decode cX4_next 16 = .ok (.getfield 140, 3) := by decide +kernel
theorem dX4_next_19 : decode cX4_next 19 = .ok (.iaload, 1) := by decide +kernel
theorem dX4_next_20 : decode cX4_next 20 = .ok (.goto 4, 3) := by decide +kernel
theorem dX4_next_23 : decode cX4_next 23 = .ok (.iconst 0, 1) := by decide +kernel
theorem dX4_next_24 : decode cX4_next 24 = .ok (.ireturn, 1) := by decide +kernel
set_option maxRecDepth 20000 in
theorem ggX4_takes_X4_next : GoodIn wsX4_takes wsX4_next := goodIn_r _ [6, 1, 7, 8, 9, 10, 11, 12, 13, 14, 15, 16, 17, 18, 19, 20, 21, 22, 23] (by decide +kernel) (by decide +kernel)
set_option maxRecDepth 20000 in
theorem gX4_takes_X4_next : GoodIn wsX4_takes (wsV RX4 143 RX4 yX4_next wsX4_next) := goodIn_app (goodIn_of _ (by decide +kernel)) ggX4_takes_X4_next
theorem dX4_takes_0 : decode cX4_takes 0 = .ok (.aload_n 0, 1) := by decide +kernel
theorem dX4_takes_1 : decode cX4_takes 1 = .ok (.invokevirtual 143, 3) := by decide +kernel
theorem dX4_takes_4 : decode cX4_takes 4 = .ok (.iload_n 1, 1) := by decide +kernel
theorem dX4_takes_5 : decode cX4_takes 5 = .ok (.if_icmp .ne 7, 3) := by decide +kernel
theorem dX4_takes_8 : decode cX4_takes 8 = .ok (.iconst 1, 1) := by decide +kernel
theorem dX4_takes_9 : decode cX4_takes 9 = .ok (.goto 4, 3) := by decide +kernel
theorem dX4_takes_12 : decode cX4_takes 12 = .ok (.iconst 0, 1) := by decide +kernel
theorem dX4_takes_13 : decode cX4_takes 13 = .ok (.istore_n 2, 1) := by decide +kernel
theorem dX4_takes_14 : decode cX4_takes 14 = .ok (.aload_n 0, 1) := by decide +kernel
theorem dX4_takes_15 : decode cX4_takes 15 = .ok (.dup, 1) := by decide +kernel
theorem dX4_takes_16 : decode cX4_takes 16 = .ok (.getfield 140, 3) := by decide +kernel
theorem dX4_takes_19 : decode cX4_takes 19 = .ok (.iload_n 2, 1) := by decide +kernel
theorem dX4_takes_20 : decode cX4_takes 20 = .ok (.ifCond .eq 7, 3) := by decide +kernel
theorem dX4_takes_23 : decode cX4_takes 23 = .ok (.iconst 1, 1) := by decide +kernel
theorem dX4_takes_24 : decode cX4_takes 24 = .ok (.goto 4, 3) := by decide +kernel
theorem dX4_takes_27 : decode cX4_takes 27 = .ok (.iconst 0, 1) := by decide +kernel
theorem dX4_takes_28 : decode cX4_takes 28 = .ok (.iadd, 1) := by decide +kernel
theorem dX4_takes_29 : decode cX4_takes 29 = .ok (.putfield 140, 3) := by decide +kernel
theorem dX4_takes_32 : decode cX4_takes 32 = .ok (.iload_n 2, 1) := by decide +kernel
theorem dX4_takes_33 : decode cX4_takes 33 = .ok (.ireturn, 1) := by decide +kernel
set_option maxRecDepth 20000 in
theorem ggX4_takeDigit_X4_next : GoodIn wsX4_takeDigit wsX4_next := goodIn_r _ [6, 1, 7, 8, 12, 13, 14, 15, 16, 17, 18, 19, 20, 21, 22, 23, 24, 25, 26] (by decide +kernel) (by decide +kernel)
set_option maxRecDepth 20000 in
theorem gX4_takeDigit_X4_next : GoodIn wsX4_takeDigit (wsV RX4 143 RX4 yX4_next wsX4_next) := goodIn_app (goodIn_of _ (by decide +kernel)) ggX4_takeDigit_X4_next
set_option maxRecDepth 20000 in
theorem ggX4_takeDigit_X4_within : GoodIn wsX4_takeDigit wsX4_within := goodIn_r _ [11] (by decide +kernel) (by decide +kernel)
set_option maxRecDepth 20000 in
theorem gX4_takeDigit_X4_within : GoodIn wsX4_takeDigit (va_wsS RX4 29 yX4_within wsX4_within) := goodIn_app (goodIn_of _ (by decide +kernel)) ggX4_takeDigit_X4_within
theorem dX4_takeDigit_0 : decode cX4_takeDigit 0 = .ok (.aload_n 0, 1) := by decide +kernel
theorem dX4_takeDigit_1 : decode cX4_takeDigit 1 = .ok (.invokevirtual 143, 3) := by decide +kernel
theorem dX4_takeDigit_4 : decode cX4_takeDigit 4 = .ok (.bipush 48, 2) := by decide +kernel
theorem dX4_takeDigit_6 : decode cX4_takeDigit 6 = .ok (.isub, 1) := by decide +kernel
theorem dX4_takeDigit_7 : decode cX4_takeDigit 7 = .ok (.istore_n 2, 1) := by decide +kernel
theorem dX4_takeDigit_8 : decode cX4_takeDigit 8 = .ok (.iload_n 2, 1) := by decide +kernel
theorem dX4_takeDigit_9 : decode cX4_takeDigit 9 = .ok (.iconst 0, 1) := by decide +kernel
theorem dX4_takeDigit_10 : decode cX4_takeDigit 10 = .ok (.iload_n 1, 1) := by decide +kernel
theorem dX4_takeDigit_11 : decode cX4_takeDigit 11 = .ok (.invokestatic 29, 3) := by decide +kernel
theorem dX4_takeDigit_14 : decode cX4_takeDigit 14 = .ok (.istore_n 3, 1) := by decide +kernel
theorem dX4_takeDigit_15 : decode cX4_takeDigit 15 = .ok (.aload_n 0, 1) := by decide +kernel
theorem dX4_takeDigit_16 : decode cX4_takeDigit 16 = .ok (.dup, 1) := by decide +kernel
theorem dX4_takeDigit_17 : decode cX4_takeDigit 17 = .ok (.getfield 140, 3) := by decide +kernel
theorem dX4_takeDigit_20 : decode cX4_takeDigit 20 = .ok (.iload_n 3, 1) := by decide +kernel
theorem dX4_takeDigit_21 : decode cX4_takeDigit 21 = .ok (.ifCond .eq 7, 3) := by decide +kernel
theorem dX4_takeDigit_24 : decode cX4_takeDigit 24 = .ok (.iconst 1, 1) := by decide +kernel
theorem dX4_takeDigit_25 : decode cX4_takeDigit 25 = .ok (.goto 4, 3) := by decide +kernel
theorem dX4_takeDigit_28 : decode cX4_takeDigit 28 = .ok (.iconst 0, 1) := by decide +kernel
theorem dX4_takeDigit_29 : decode cX4_takeDigit 29 = .ok (.iadd, 1) := by decide +kernel
theorem dX4_takeDigit_30 : decode cX4_takeDigit 30 = .ok (.putfield 140, 3) := by decide +kernel
theorem dX4_takeDigit_33 : decode cX4_takeDigit 33 = .ok (.iload_n 3, 1) := by decide +kernel
theorem dX4_takeDigit_34 : decode cX4_takeDigit 34 = .ok (.ifCond .eq 7, 3) := by decide +kernel
theorem dX4_takeDigit_37 : decode cX4_takeDigit 37 = .ok (.iload_n 2, 1) := by decide +kernel
theorem dX4_takeDigit_38 : decode cX4_takeDigit 38 = .ok (.goto 4, 3) := by decide +kernel
theorem dX4_takeDigit_41 : decode cX4_takeDigit 41 = .ok (.iconst (-1), 1) := by decide +kernel
theorem dX4_takeDigit_42 : decode cX4_takeDigit 42 = .ok (.ireturn, 1) := by decide +kernel
set_option maxRecDepth 20000 in
theorem ggX4_readsWork_X4_takeDigit : GoodIn wsX4_readsWork wsX4_takeDigit := goodIn_r _ [8, 9, 10, 11, 12, 7, 13, 14, 15, 16, 17, 18, 23, 24, 25, 26, 27, 28, 29, 30, 31, 32, 33, 34, 35, 36, 37] (by decide +kernel) (by decide +kernel)
set_option maxRecDepth 20000 in
theorem gX4_readsWork_X4_takeDigit : GoodIn wsX4_readsWork (wsV RX4 146 RX4 yX4_takeDigit wsX4_takeDigit) := goodIn_app (goodIn_of _ (by decide +kernel)) ggX4_readsWork_X4_takeDigit
set_option maxRecDepth 20000 in
theorem ggX4_readsWork_X4_takes : GoodIn wsX4_readsWork wsX4_takes := goodIn_r _ [22, 9, 10, 11, 12, 7, 13, 14, 15, 23, 24, 25, 26, 27, 28, 29, 30, 31, 32, 33, 34, 35, 36, 37] (by decide +kernel) (by decide +kernel)
set_option maxRecDepth 20000 in
theorem gX4_readsWork_X4_takes : GoodIn wsX4_readsWork (wsV RX4 152 RX4 yX4_takes wsX4_takes) := goodIn_app (goodIn_of _ (by decide +kernel)) ggX4_readsWork_X4_takes
theorem dX4_readsWork_0 : decode cX4_readsWork 0 = .ok (.aload_n 0, 1) := by decide +kernel
theorem dX4_readsWork_1 : decode cX4_readsWork 1 = .ok (.aload_n 0, 1) := by decide +kernel
theorem dX4_readsWork_2 : decode cX4_readsWork 2 = .ok (.iconst 5, 1) := by decide +kernel
theorem dX4_readsWork_3 : decode cX4_readsWork 3 = .ok (.invokevirtual 146, 3) := by decide +kernel
theorem dX4_readsWork_6 : decode cX4_readsWork 6 = .ok (.putfield 149, 3) := by decide +kernel
theorem dX4_readsWork_9 : decode cX4_readsWork 9 = .ok (.aload_n 0, 1) := by decide +kernel
theorem dX4_readsWork_10 : decode cX4_readsWork 10 = .ok (.getfield 149, 3) := by decide +kernel
theorem dX4_readsWork_13 : decode cX4_readsWork 13 = .ok (.iconst (-1), 1) := by decide +kernel
theorem dX4_readsWork_14 : decode cX4_readsWork 14 = .ok (.if_icmp .eq 12, 3) := by decide +kernel
theorem dX4_readsWork_17 : decode cX4_readsWork 17 = .ok (.aload_n 0, 1) := by decide +kernel
theorem dX4_readsWork_18 : decode cX4_readsWork 18 = .ok (.bipush 62, 2) := by decide +kernel
theorem dX4_readsWork_20 : decode cX4_readsWork 20 = .ok (.invokevirtual 152, 3) := by decide +kernel
theorem dX4_readsWork_23 : decode cX4_readsWork 23 = .ok (.ifCond .ne 5, 3) := by decide +kernel
theorem dX4_readsWork_26 : decode cX4_readsWork 26 = .ok (.iconst 0, 1) := by decide +kernel
theorem dX4_readsWork_27 : decode cX4_readsWork 27 = .ok (.ireturn, 1) := by decide +kernel
theorem dX4_readsWork_28 : decode cX4_readsWork 28 = .ok (.aload_n 0, 1) := by decide +kernel
theorem dX4_readsWork_29 : decode cX4_readsWork 29 = .ok (.aload_n 0, 1) := by decide +kernel
theorem dX4_readsWork_30 : decode cX4_readsWork 30 = .ok (.iconst 4, 1) := by decide +kernel
theorem dX4_readsWork_31 : decode cX4_readsWork 31 = .ok (.invokevirtual 146, 3) := by decide +kernel
theorem dX4_readsWork_34 : decode cX4_readsWork 34 = .ok (.putfield 155, 3) := by decide +kernel
theorem dX4_readsWork_37 : decode cX4_readsWork 37 = .ok (.aload_n 0, 1) := by decide +kernel
theorem dX4_readsWork_38 : decode cX4_readsWork 38 = .ok (.getfield 155, 3) := by decide +kernel
theorem dX4_readsWork_41 : decode cX4_readsWork 41 = .ok (.iconst (-1), 1) := by decide +kernel
theorem dX4_readsWork_42 : decode cX4_readsWork 42 = .ok (.if_icmp .eq 12, 3) := by decide +kernel
theorem dX4_readsWork_45 : decode cX4_readsWork 45 = .ok (.aload_n 0, 1) := by decide +kernel
theorem dX4_readsWork_46 : decode cX4_readsWork 46 = .ok (.bipush 47, 2) := by decide +kernel
theorem dX4_readsWork_48 : decode cX4_readsWork 48 = .ok (.invokevirtual 152, 3) := by decide +kernel
theorem dX4_readsWork_51 : decode cX4_readsWork 51 = .ok (.ifCond .ne 5, 3) := by decide +kernel
theorem dX4_readsWork_54 : decode cX4_readsWork 54 = .ok (.iconst 0, 1) := by decide +kernel
theorem dX4_readsWork_55 : decode cX4_readsWork 55 = .ok (.ireturn, 1) := by decide +kernel
theorem dX4_readsWork_56 : decode cX4_readsWork 56 = .ok (.aload_n 0, 1) := by decide +kernel
theorem dX4_readsWork_57 : decode cX4_readsWork 57 = .ok (.aload_n 0, 1) := by decide +kernel
theorem dX4_readsWork_58 : decode cX4_readsWork 58 = .ok (.iconst 3, 1) := by decide +kernel
theorem dX4_readsWork_59 : decode cX4_readsWork 59 = .ok (.invokevirtual 146, 3) := by decide +kernel
theorem dX4_readsWork_62 : decode cX4_readsWork 62 = .ok (.putfield 158, 3) := by decide +kernel
theorem dX4_readsWork_65 : decode cX4_readsWork 65 = .ok (.aload_n 0, 1) := by decide +kernel
theorem dX4_readsWork_66 : decode cX4_readsWork 66 = .ok (.getfield 158, 3) := by decide +kernel
theorem dX4_readsWork_69 : decode cX4_readsWork 69 = .ok (.iconst (-1), 1) := by decide +kernel
theorem dX4_readsWork_70 : decode cX4_readsWork 70 = .ok (.if_icmp .eq 7, 3) := by decide +kernel
theorem dX4_readsWork_73 : decode cX4_readsWork 73 = .ok (.iconst 1, 1) := by decide +kernel
theorem dX4_readsWork_74 : decode cX4_readsWork 74 = .ok (.goto 4, 3) := by decide +kernel
theorem dX4_readsWork_77 : decode cX4_readsWork 77 = .ok (.iconst 0, 1) := by decide +kernel
theorem dX4_readsWork_78 : decode cX4_readsWork 78 = .ok (.ireturn, 1) := by decide +kernel
set_option maxRecDepth 20000 in
theorem ggX4_readsDays_X4_next : GoodIn wsX4_readsDays wsX4_next := goodIn_r _ [6, 7, 8, 9, 17, 18, 19, 20, 21, 22, 23, 24, 25, 26, 27, 28, 29, 30, 31] (by decide +kernel) (by decide +kernel)
set_option maxRecDepth 20000 in
theorem gX4_readsDays_X4_next : GoodIn wsX4_readsDays (wsV RX4 143 RX4 yX4_next wsX4_next) := goodIn_app (goodIn_of _ (by decide +kernel)) ggX4_readsDays_X4_next
set_option maxRecDepth 20000 in
theorem ggX4_readsDays_X4_within : GoodIn wsX4_readsDays wsX4_within := goodIn_r _ [12] (by decide +kernel) (by decide +kernel)
set_option maxRecDepth 20000 in
theorem gX4_readsDays_X4_within : GoodIn wsX4_readsDays (va_wsS RX4 29 yX4_within wsX4_within) := goodIn_app (goodIn_of _ (by decide +kernel)) ggX4_readsDays_X4_within
set_option maxRecDepth 20000 in
theorem ggX4_readsDays_X4_takeDigit : GoodIn wsX4_readsDays wsX4_takeDigit := goodIn_r _ [16, 7, 2, 3, 4, 5, 6, 8, 9, 10, 11, 12, 17, 18, 19, 20, 21, 22, 23, 24, 25, 26, 27, 28, 29, 30, 31] (by decide +kernel) (by decide +kernel)
set_option maxRecDepth 20000 in
theorem gX4_readsDays_X4_takeDigit : GoodIn wsX4_readsDays (wsV RX4 146 RX4 yX4_takeDigit wsX4_takeDigit) := goodIn_app (goodIn_of _ (by decide +kernel)) ggX4_readsDays_X4_takeDigit
theorem dX4_readsDays_0 : decode cX4_readsDays 0 = .ok (.aload_n 0, 1) := by decide +kernel
theorem dX4_readsDays_1 : decode cX4_readsDays 1 = .ok (.invokevirtual 143, 3) := by decide +kernel
theorem dX4_readsDays_4 : decode cX4_readsDays 4 = .ok (.bipush 49, 2) := by decide +kernel
theorem dX4_readsDays_6 : decode cX4_readsDays 6 = .ok (.bipush 57, 2) := by decide +kernel
theorem dX4_readsDays_8 : decode cX4_readsDays 8 = .ok (.invokestatic 29, 3) := by decide +kernel
theorem dX4_readsDays_11 : decode cX4_readsDays 11 = .ok (.ifCond .ne 5, 3) := by decide +kernel
theorem dX4_readsDays_14 : decode cX4_readsDays 14 = .ok (.iconst 0, 1) := by decide +kernel
theorem dX4_readsDays_15 : decode cX4_readsDays 15 = .ok (.ireturn, 1) := by decide +kernel
theorem dX4_readsDays_16 : decode cX4_readsDays 16 = .ok (.aload_n 0, 1) := by decide +kernel
theorem dX4_readsDays_17 : decode cX4_readsDays 17 = .ok (.aload_n 0, 1) := by decide +kernel
theorem dX4_readsDays_18 : decode cX4_readsDays 18 = .ok (.bipush 9, 2) := by decide +kernel
theorem dX4_readsDays_20 : decode cX4_readsDays 20 = .ok (.invokevirtual 146, 3) := by decide +kernel
theorem dX4_readsDays_23 : decode cX4_readsDays 23 = .ok (.putfield 149, 3) := by decide +kernel
theorem dX4_readsDays_26 : decode cX4_readsDays 26 = .ok (.aload_n 0, 1) := by decide +kernel
theorem dX4_readsDays_27 : decode cX4_readsDays 27 = .ok (.invokevirtual 143, 3) := by decide +kernel
theorem dX4_readsDays_30 : decode cX4_readsDays 30 = .ok (.bipush 48, 2) := by decide +kernel
theorem dX4_readsDays_32 : decode cX4_readsDays 32 = .ok (.isub, 1) := by decide +kernel
theorem dX4_readsDays_33 : decode cX4_readsDays 33 = .ok (.istore_n 1, 1) := by decide +kernel
theorem dX4_readsDays_34 : decode cX4_readsDays 34 = .ok (.iload_n 1, 1) := by decide +kernel
theorem dX4_readsDays_35 : decode cX4_readsDays 35 = .ok (.iconst 0, 1) := by decide +kernel
theorem dX4_readsDays_36 : decode cX4_readsDays 36 = .ok (.bipush 9, 2) := by decide +kernel
theorem dX4_readsDays_38 : decode cX4_readsDays 38 = .ok (.invokestatic 29, 3) := by decide +kernel
theorem dX4_readsDays_41 : decode cX4_readsDays 41 = .ok (.ifCond .eq 35, 3) := by decide +kernel
theorem dX4_readsDays_44 : decode cX4_readsDays 44 = .ok (.bipush 10, 2) := by decide +kernel
theorem dX4_readsDays_46 : decode cX4_readsDays 46 = .ok (.aload_n 0, 1) := by decide +kernel
theorem dX4_readsDays_47 : decode cX4_readsDays 47 = .ok (.getfield 149, 3) := by decide +kernel
theorem dX4_readsDays_50 : decode cX4_readsDays 50 = .ok (.imul, 1) := by decide +kernel
theorem dX4_readsDays_51 : decode cX4_readsDays 51 = .ok (.iload_n 1, 1) := by decide +kernel
theorem dX4_readsDays_52 : decode cX4_readsDays 52 = .ok (.iadd, 1) := by decide +kernel
theorem dX4_readsDays_53 : decode cX4_readsDays 53 = .ok (.bipush 60, 2) := by decide +kernel
theorem dX4_readsDays_55 : decode cX4_readsDays 55 = .ok (.if_icmp .gt 21, 3) := by decide +kernel
theorem dX4_readsDays_58 : decode cX4_readsDays 58 = .ok (.aload_n 0, 1) := by decide +kernel
theorem dX4_readsDays_59 : decode cX4_readsDays 59 = .ok (.bipush 10, 2) := by decide +kernel
theorem dX4_readsDays_61 : decode cX4_readsDays 61 = .ok (.aload_n 0, 1) := by decide +kernel
theorem dX4_readsDays_62 : decode cX4_readsDays 62 = .ok (.getfield 149, 3) := by decide +kernel
theorem dX4_readsDays_65 : decode cX4_readsDays 65 = .ok (.imul, 1) := by decide +kernel
theorem dX4_readsDays_66 : decode cX4_readsDays 66 = .ok (.aload_n 0, 1) := by decide +kernel
theorem dX4_readsDays_67 : decode cX4_readsDays 67 = .ok (.bipush 9, 2) := by decide +kernel
theorem dX4_readsDays_69 : decode cX4_readsDays 69 = .ok (.invokevirtual 146, 3) := by decide +kernel
theorem dX4_readsDays_72 : decode cX4_readsDays 72 = .ok (.iadd, 1) := by decide +kernel
theorem dX4_readsDays_73 : decode cX4_readsDays 73 = .ok (.putfield 149, 3) := by decide +kernel
theorem dX4_readsDays_76 : decode cX4_readsDays 76 = .ok (.iconst 1, 1) := by decide +kernel
theorem dX4_readsDays_77 : decode cX4_readsDays 77 = .ok (.ireturn, 1) := by decide +kernel
set_option maxRecDepth 20000 in
theorem ggX4_readsPart_X4_next : GoodIn wsX4_readsPart wsX4_next := goodIn_r _ [8, 2, 9, 10, 32, 33, 34, 35, 36, 37, 38, 39, 40, 41, 42, 43, 44, 45, 46] (by decide +kernel) (by decide +kernel)
set_option maxRecDepth 20000 in
theorem gX4_readsPart_X4_next : GoodIn wsX4_readsPart (wsV RX4 143 RX4 yX4_next wsX4_next) := goodIn_app (goodIn_of _ (by decide +kernel)) ggX4_readsPart_X4_next
set_option maxRecDepth 20000 in
theorem ggX4_readsPart_X4_takeDigit : GoodIn wsX4_readsPart wsX4_takeDigit := goodIn_r _ [14, 2, 4, 5, 6, 7, 8, 9, 10, 15, 16, 17, 32, 33, 34, 35, 36, 37, 38, 39, 40, 41, 42, 43, 44, 45, 46] (by decide +kernel) (by decide +kernel)
set_option maxRecDepth 20000 in
theorem gX4_readsPart_X4_takeDigit : GoodIn wsX4_readsPart (wsV RX4 146 RX4 yX4_takeDigit wsX4_takeDigit) := goodIn_app (goodIn_of _ (by decide +kernel)) ggX4_readsPart_X4_takeDigit
set_option maxRecDepth 20000 in
theorem ggX4_readsPart_X4_readsWork : GoodIn wsX4_readsPart wsX4_readsWork := goodIn_r _ [21, 3, 22, 23, 11, 12, 13, 7, 14, 2, 4, 5, 6, 8, 9, 10, 15, 16, 17, 24, 25, 26, 27, 32, 33, 34, 35, 36, 37, 38, 39, 40, 41, 42, 43, 44, 45, 46] (by decide +kernel) (by decide +kernel)
set_option maxRecDepth 20000 in
theorem gX4_readsPart_X4_readsWork : GoodIn wsX4_readsPart (wsV RX4 164 RX4 yX4_readsWork wsX4_readsWork) := goodIn_app (goodIn_of _ (by decide +kernel)) ggX4_readsPart_X4_readsWork
set_option maxRecDepth 20000 in
theorem ggX4_readsPart_X4_readsDays : GoodIn wsX4_readsPart wsX4_readsDays := goodIn_r _ [31, 3, 4, 5, 6, 7, 8, 2, 9, 10, 15, 16, 17, 11, 12, 13, 14, 32, 33, 34, 35, 36, 37, 38, 39, 40, 41, 42, 43, 44, 45, 46] (by decide +kernel) (by decide +kernel)
set_option maxRecDepth 20000 in
theorem gX4_readsPart_X4_readsDays : GoodIn wsX4_readsPart (wsV RX4 168 RX4 yX4_readsDays wsX4_readsDays) := goodIn_app (goodIn_of _ (by decide +kernel)) ggX4_readsPart_X4_readsDays
theorem dX4_readsPart_0 : decode cX4_readsPart 0 = .ok (.aload_n 0, 1) := by decide +kernel
theorem dX4_readsPart_1 : decode cX4_readsPart 1 = .ok (.aload_n 0, 1) := by decide +kernel
theorem dX4_readsPart_2 : decode cX4_readsPart 2 = .ok (.invokevirtual 143, 3) := by decide +kernel
theorem dX4_readsPart_5 : decode cX4_readsPart 5 = .ok (.putfield 161, 3) := by decide +kernel
theorem dX4_readsPart_8 : decode cX4_readsPart 8 = .ok (.aload_n 0, 1) := by decide +kernel
theorem dX4_readsPart_9 : decode cX4_readsPart 9 = .ok (.getfield 161, 3) := by decide +kernel
theorem dX4_readsPart_12 : decode cX4_readsPart 12 = .ok (.bipush 99, 2) := by decide +kernel
theorem dX4_readsPart_14 : decode cX4_readsPart 14 = .ok (.if_icmp .eq 32, 3) := by decide +kernel
theorem dX4_readsPart_17 : decode cX4_readsPart 17 = .ok (.aload_n 0, 1) := by decide +kernel
theorem dX4_readsPart_18 : decode cX4_readsPart 18 = .ok (.getfield 161, 3) := by decide +kernel
theorem dX4_readsPart_21 : decode cX4_readsPart 21 = .ok (.bipush 114, 2) := by decide +kernel
theorem dX4_readsPart_23 : decode cX4_readsPart 23 = .ok (.if_icmp .eq 23, 3) := by decide +kernel
theorem dX4_readsPart_26 : decode cX4_readsPart 26 = .ok (.aload_n 0, 1) := by decide +kernel
theorem dX4_readsPart_27 : decode cX4_readsPart 27 = .ok (.getfield 161, 3) := by decide +kernel
theorem dX4_readsPart_30 : decode cX4_readsPart 30 = .ok (.bipush 43, 2) := by decide +kernel
theorem dX4_readsPart_32 : decode cX4_readsPart 32 = .ok (.if_icmp .eq 14, 3) := by decide +kernel
theorem dX4_readsPart_35 : decode cX4_readsPart 35 = .ok (.aload_n 0, 1) := by decide +kernel
theorem dX4_readsPart_36 : decode cX4_readsPart 36 = .ok (.getfield 161, 3) := by decide +kernel
theorem dX4_readsPart_39 : decode cX4_readsPart 39 = .ok (.bipush 42, 2) := by decide +kernel
theorem dX4_readsPart_41 : decode cX4_readsPart 41 = .ok (.if_icmp .eq 5, 3) := by decide +kernel
theorem dX4_readsPart_44 : decode cX4_readsPart 44 = .ok (.iconst 0, 1) := by decide +kernel
theorem dX4_readsPart_45 : decode cX4_readsPart 45 = .ok (.ireturn, 1) := by decide +kernel
theorem dX4_readsPart_46 : decode cX4_readsPart 46 = .ok (.aload_n 0, 1) := by decide +kernel
theorem dX4_readsPart_47 : decode cX4_readsPart 47 = .ok (.dup, 1) := by decide +kernel
theorem dX4_readsPart_48 : decode cX4_readsPart 48 = .ok (.getfield 140, 3) := by decide +kernel
theorem dX4_readsPart_51 : decode cX4_readsPart 51 = .ok (.iconst 1, 1) := by decide +kernel
theorem dX4_readsPart_52 : decode cX4_readsPart 52 = .ok (.iadd, 1) := by decide +kernel
theorem dX4_readsPart_53 : decode cX4_readsPart 53 = .ok (.putfield 140, 3) := by decide +kernel
theorem dX4_readsPart_56 : decode cX4_readsPart 56 = .ok (.aload_n 0, 1) := by decide +kernel
theorem dX4_readsPart_57 : decode cX4_readsPart 57 = .ok (.getfield 161, 3) := by decide +kernel
theorem dX4_readsPart_60 : decode cX4_readsPart 60 = .ok (.bipush 114, 2) := by decide +kernel
theorem dX4_readsPart_62 : decode cX4_readsPart 62 = .ok (.if_icmp .ne 26, 3) := by decide +kernel
theorem dX4_readsPart_65 : decode cX4_readsPart 65 = .ok (.aload_n 0, 1) := by decide +kernel
theorem dX4_readsPart_66 : decode cX4_readsPart 66 = .ok (.aload_n 0, 1) := by decide +kernel
theorem dX4_readsPart_67 : decode cX4_readsPart 67 = .ok (.iconst 5, 1) := by decide +kernel
theorem dX4_readsPart_68 : decode cX4_readsPart 68 = .ok (.invokevirtual 146, 3) := by decide +kernel
theorem dX4_readsPart_71 : decode cX4_readsPart 71 = .ok (.putfield 149, 3) := by decide +kernel
theorem dX4_readsPart_74 : decode cX4_readsPart 74 = .ok (.aload_n 0, 1) := by decide +kernel
theorem dX4_readsPart_75 : decode cX4_readsPart 75 = .ok (.getfield 149, 3) := by decide +kernel
theorem dX4_readsPart_78 : decode cX4_readsPart 78 = .ok (.iconst (-1), 1) := by decide +kernel
theorem dX4_readsPart_79 : decode cX4_readsPart 79 = .ok (.if_icmp .eq 7, 3) := by decide +kernel
theorem dX4_readsPart_82 : decode cX4_readsPart 82 = .ok (.iconst 1, 1) := by decide +kernel
theorem dX4_readsPart_83 : decode cX4_readsPart 83 = .ok (.goto 4, 3) := by decide +kernel
theorem dX4_readsPart_86 : decode cX4_readsPart 86 = .ok (.iconst 0, 1) := by decide +kernel
theorem dX4_readsPart_87 : decode cX4_readsPart 87 = .ok (.ireturn, 1) := by decide +kernel
theorem dX4_readsPart_88 : decode cX4_readsPart 88 = .ok (.aload_n 0, 1) := by decide +kernel
theorem dX4_readsPart_89 : decode cX4_readsPart 89 = .ok (.getfield 161, 3) := by decide +kernel
theorem dX4_readsPart_92 : decode cX4_readsPart 92 = .ok (.bipush 99, 2) := by decide +kernel
theorem dX4_readsPart_94 : decode cX4_readsPart 94 = .ok (.if_icmp .ne 10, 3) := by decide +kernel
theorem dX4_readsPart_97 : decode cX4_readsPart 97 = .ok (.aload_n 0, 1) := by decide +kernel
theorem dX4_readsPart_98 : decode cX4_readsPart 98 = .ok (.invokevirtual 164, 3) := by decide +kernel
theorem dX4_readsPart_101 : decode cX4_readsPart 101 = .ok (.goto 24, 3) := by decide +kernel
theorem dX4_readsPart_104 : decode cX4_readsPart 104 = .ok (.aload_n 0, 1) := by decide +kernel
theorem dX4_readsPart_105 : decode cX4_readsPart 105 = .ok (.getfield 161, 3) := by decide +kernel
theorem dX4_readsPart_108 : decode cX4_readsPart 108 = .ok (.bipush 42, 2) := by decide +kernel
theorem dX4_readsPart_110 : decode cX4_readsPart 110 = .ok (.if_icmp .eq 10, 3) := by decide +kernel
theorem dX4_readsPart_113 : decode cX4_readsPart 113 = .ok (.aload_n 0, 1) := by decide +kernel
theorem dX4_readsPart_114 : decode cX4_readsPart 114 = .ok (.invokevirtual 168, 3) := by decide +kernel
theorem dX4_readsPart_117 : decode cX4_readsPart 117 = .ok (.ifCond .eq 7, 3) := by decide +kernel
theorem dX4_readsPart_120 : decode cX4_readsPart 120 = .ok (.iconst 1, 1) := by decide +kernel
theorem dX4_readsPart_121 : decode cX4_readsPart 121 = .ok (.goto 4, 3) := by decide +kernel
theorem dX4_readsPart_124 : decode cX4_readsPart 124 = .ok (.iconst 0, 1) := by decide +kernel
theorem dX4_readsPart_125 : decode cX4_readsPart 125 = .ok (.ireturn, 1) := by decide +kernel
set_option maxRecDepth 20000 in
theorem ggX4_findError_X4_readsPart : GoodIn wsX4_findError wsX4_readsPart := goodIn_r _ [7, 8, 1, 9, 10, 11, 12, 6, 13, 2, 14, 15, 16, 17, 18, 19, 20, 21, 22, 23, 24, 25, 26, 27, 28, 29, 30, 31, 32, 33, 34, 35, 36, 37, 38, 39, 40, 41, 42, 43, 44, 45, 46, 47, 48, 49, 50] (by decide +kernel) (by decide +kernel)
set_option maxRecDepth 20000 in
theorem gX4_findError_X4_readsPart : GoodIn wsX4_findError (wsV RX4 171 RX4 yX4_readsPart wsX4_readsPart) := goodIn_app (goodIn_of _ (by decide +kernel)) ggX4_findError_X4_readsPart
set_option maxRecDepth 20000 in
theorem ggX4_findError_X4_takes : GoodIn wsX4_findError wsX4_takes := goodIn_r _ [31, 1, 10, 11, 12, 6, 13, 2, 14, 36, 37, 38, 39, 40, 41, 42, 43, 44, 45, 46, 47, 48, 49, 50] (by decide +kernel) (by decide +kernel)
set_option maxRecDepth 20000 in
theorem gX4_findError_X4_takes : GoodIn wsX4_findError (wsV RX4 152 RX4 yX4_takes wsX4_takes) := goodIn_app (goodIn_of _ (by decide +kernel)) ggX4_findError_X4_takes
theorem dX4_findError_0 : decode cX4_findError 0 = .ok (.aload_n 0, 1) := by decide +kernel
theorem dX4_findError_1 : decode cX4_findError 1 = .ok (.iconst 0, 1) := by decide +kernel
theorem dX4_findError_2 : decode cX4_findError 2 = .ok (.putfield 140, 3) := by decide +kernel
theorem dX4_findError_5 : decode cX4_findError 5 = .ok (.aload_n 0, 1) := by decide +kernel
theorem dX4_findError_6 : decode cX4_findError 6 = .ok (.invokevirtual 171, 3) := by decide +kernel
theorem dX4_findError_9 : decode cX4_findError 9 = .ok (.ifCond .eq 30, 3) := by decide +kernel
theorem dX4_findError_12 : decode cX4_findError 12 = .ok (.aload_n 0, 1) := by decide +kernel
theorem dX4_findError_13 : decode cX4_findError 13 = .ok (.getfield 140, 3) := by decide +kernel
theorem dX4_findError_16 : decode cX4_findError 16 = .ok (.aload_n 0, 1) := by decide +kernel
theorem dX4_findError_17 : decode cX4_findError 17 = .ok (.getfield 137, 3) := by decide +kernel
theorem dX4_findError_20 : decode cX4_findError 20 = .ok (.if_icmp .ne 5, 3) := by decide +kernel
theorem dX4_findError_23 : decode cX4_findError 23 = .ok (.iconst (-1), 1) := by decide +kernel
theorem dX4_findError_24 : decode cX4_findError 24 = .ok (.ireturn, 1) := by decide +kernel
theorem dX4_findError_25 : decode cX4_findError 25 = .ok (.aload_n 0, 1) := by decide +kernel
theorem dX4_findError_26 : decode cX4_findError 26 = .ok (.bipush 59, 2) := by decide +kernel
theorem dX4_findError_28 : decode cX4_findError 28 = .ok (.invokevirtual 152, 3) := by decide +kernel
theorem dX4_findError_31 : decode cX4_findError 31 = .ok (.ifCond .ne (-26), 3) := by decide +kernel
theorem dX4_findError_34 : decode cX4_findError 34 = .ok (.aload_n 0, 1) := by decide +kernel
theorem dX4_findError_35 : decode cX4_findError 35 = .ok (.getfield 140, 3) := by decide +kernel
theorem dX4_findError_38 : decode cX4_findError 38 = .ok (.ireturn, 1) := by decide +kernel
theorem dX4_findError_39 : decode cX4_findError 39 = .ok (.aload_n 0, 1) := by decide +kernel
theorem dX4_findError_40 : decode cX4_findError 40 = .ok (.getfield 140, 3) := by decide +kernel
theorem dX4_findError_43 : decode cX4_findError 43 = .ok (.ireturn, 1) := by decide +kernel
set_option maxRecDepth 20000 in
theorem ggX4_firstError_X4_findError : GoodIn wsX4_firstError wsX4_findError := goodIn_r _ [7, 8, 2, 9, 10, 11, 6, 12, 13, 14, 15, 16, 17, 18, 19, 20, 21, 22, 23, 24, 25, 26, 27, 28, 29, 30, 31, 32, 33, 34, 35, 36, 37, 38, 39, 40, 41, 42, 43, 44, 45, 46, 47, 48, 49, 50, 51, 52, 53, 54, 55] (by decide +kernel) (by decide +kernel)
set_option maxRecDepth 20000 in
theorem gX4_firstError_X4_findError : GoodIn wsX4_firstError (wsV RX4 174 RX4 yX4_findError wsX4_findError) := goodIn_app (goodIn_of _ (by decide +kernel)) ggX4_firstError_X4_findError
theorem dX4_firstError_0 : decode cX4_firstError 0 = .ok (.aload_n 0, 1) := by decide +kernel
theorem dX4_firstError_1 : decode cX4_firstError 1 = .ok (.iconst 0, 1) := by decide +kernel
theorem dX4_firstError_2 : decode cX4_firstError 2 = .ok (.putfield 25, 3) := by decide +kernel
theorem dX4_firstError_5 : decode cX4_firstError 5 = .ok (.aload_n 0, 1) := by decide +kernel
theorem dX4_firstError_6 : decode cX4_firstError 6 = .ok (.invokevirtual 174, 3) := by decide +kernel
theorem dX4_firstError_9 : decode cX4_firstError 9 = .ok (.istore_n 1, 1) := by decide +kernel
theorem dX4_firstError_10 : decode cX4_firstError 10 = .ok (.iload_n 1, 1) := by decide +kernel
theorem dX4_firstError_11 : decode cX4_firstError 11 = .ok (.iconst (-1), 1) := by decide +kernel
theorem dX4_firstError_12 : decode cX4_firstError 12 = .ok (.if_icmp .ne 10, 3) := by decide +kernel
theorem dX4_firstError_15 : decode cX4_firstError 15 = .ok (.aload_n 0, 1) := by decide +kernel
theorem dX4_firstError_16 : decode cX4_firstError 16 = .ok (.getfield 137, 3) := by decide +kernel
theorem dX4_firstError_19 : decode cX4_firstError 19 = .ok (.goto 4, 3) := by decide +kernel
theorem dX4_firstError_22 : decode cX4_firstError 22 = .ok (.iload_n 1, 1) := by decide +kernel
theorem dX4_firstError_23 : decode cX4_firstError 23 = .ok (.ireturn, 1) := by decide +kernel
set_option maxRecDepth 20000 in
theorem ggX4_doesPart_X4_reason : GoodIn wsX4_doesPart wsX4_reason := goodIn_r _ [9, 10, 11, 12, 13, 8, 14, 15, 16, 17, 18, 19, 20, 21, 22, 76, 77, 78, 79, 80, 81, 82, 83, 84, 85, 86, 87, 88, 89, 90] (by decide +kernel) (by decide +kernel)
set_option maxRecDepth 20000 in
theorem gX4_doesPart_X4_reason : GoodIn wsX4_doesPart (wsV RX4 119 RX4 yX4_reason wsX4_reason) := goodIn_app (goodIn_of _ (by decide +kernel)) ggX4_doesPart_X4_reason
set_option maxRecDepth 20000 in
theorem ggX4_doesPart_X4_setToWork : GoodIn wsX4_doesPart wsX4_setToWork := goodIn_r _ [26, 10, 76, 77, 78, 79, 80, 81, 82, 83, 84, 85, 86, 87, 88, 89, 90] (by decide +kernel) (by decide +kernel)
set_option maxRecDepth 20000 in
theorem gX4_doesPart_X4_setToWork : GoodIn wsX4_doesPart (wsV RX4 106 RX4 yX4_setToWork wsX4_setToWork) := goodIn_app (goodIn_of _ (by decide +kernel)) ggX4_doesPart_X4_setToWork
set_option maxRecDepth 20000 in
theorem ggX4_doesPart_X4_passes : GoodIn wsX4_doesPart wsX4_passes := goodIn_r _ [30, 31, 32, 33, 8, 34, 10, 35, 36, 37, 38, 39, 40, 41, 42, 43, 44, 45, 46, 47, 48, 49, 50, 51, 52, 53, 54, 55, 56, 57, 58, 59, 60, 61, 62, 63, 64, 65, 66, 67, 68, 69, 70, 71, 76, 77, 78, 79, 80, 81, 82, 83, 84, 85, 86, 87, 88, 89, 90] (by decide +kernel) (by decide +kernel)
set_option maxRecDepth 20000 in
theorem gX4_doesPart_X4_passes : GoodIn wsX4_doesPart (wsV RX4 128 RX4 yX4_passes wsX4_passes) := goodIn_app (goodIn_of _ (by decide +kernel)) ggX4_doesPart_X4_passes
set_option maxRecDepth 20000 in
theorem ggX4_doesPart_X4_turnSnow : GoodIn wsX4_doesPart wsX4_turnSnow := goodIn_r _ [75, 10, 23, 24, 25, 8, 26, 76, 77, 78, 79, 80, 81, 82, 83, 84, 85, 86, 87, 88, 89, 90] (by decide +kernel) (by decide +kernel)
set_option maxRecDepth 20000 in
theorem gX4_doesPart_X4_turnSnow : GoodIn wsX4_doesPart (wsV RX4 125 RX4 yX4_turnSnow wsX4_turnSnow) := goodIn_app (goodIn_of _ (by decide +kernel)) ggX4_doesPart_X4_turnSnow
theorem dX4_doesPart_0 : decode cX4_doesPart 0 = .ok (.aload_n 0, 1) := by decide +kernel
theorem dX4_doesPart_1 : decode cX4_doesPart 1 = .ok (.getfield 161, 3) := by decide +kernel
theorem dX4_doesPart_4 : decode cX4_doesPart 4 = .ok (.lookupswitch 100 #[(43, 83), (99, 36), (114, 71)], 36) := by decide +kernel
theorem dX4_doesPart_40 : decode cX4_doesPart 40 = .ok (.aload_n 0, 1) := by decide +kernel
theorem dX4_doesPart_41 : decode cX4_doesPart 41 = .ok (.aload_n 0, 1) := by decide +kernel
theorem dX4_doesPart_42 : decode cX4_doesPart 42 = .ok (.getfield 155, 3) := by decide +kernel
theorem dX4_doesPart_45 : decode cX4_doesPart 45 = .ok (.aload_n 0, 1) := by decide +kernel
theorem dX4_doesPart_46 : decode cX4_doesPart 46 = .ok (.getfield 158, 3) := by decide +kernel
theorem dX4_doesPart_49 : decode cX4_doesPart 49 = .ok (.invokevirtual 119, 3) := by decide +kernel
theorem dX4_doesPart_52 : decode cX4_doesPart 52 = .ok (.ifCond .eq 5, 3) := by decide +kernel
theorem dX4_doesPart_55 : decode cX4_doesPart 55 = .ok (.iconst 0, 1) := by decide +kernel
theorem dX4_doesPart_56 : decode cX4_doesPart 56 = .ok (.ireturn, 1) := by decide +kernel
theorem dX4_doesPart_57 : decode cX4_doesPart 57 = .ok (.aload_n 0, 1) := by decide +kernel
theorem dX4_doesPart_58 : decode cX4_doesPart 58 = .ok (.aload_n 0, 1) := by decide +kernel
theorem dX4_doesPart_59 : decode cX4_doesPart 59 = .ok (.getfield 149, 3) := by decide +kernel
theorem dX4_doesPart_62 : decode cX4_doesPart 62 = .ok (.aload_n 0, 1) := by decide +kernel
theorem dX4_doesPart_63 : decode cX4_doesPart 63 = .ok (.getfield 155, 3) := by decide +kernel
theorem dX4_doesPart_66 : decode cX4_doesPart 66 = .ok (.aload_n 0, 1) := by decide +kernel
theorem dX4_doesPart_67 : decode cX4_doesPart 67 = .ok (.getfield 158, 3) := by decide +kernel
theorem dX4_doesPart_70 : decode cX4_doesPart 70 = .ok (.invokevirtual 106, 3) := by decide +kernel
theorem dX4_doesPart_73 : decode cX4_doesPart 73 = .ok (.iconst 1, 1) := by decide +kernel
theorem dX4_doesPart_74 : decode cX4_doesPart 74 = .ok (.ireturn, 1) := by decide +kernel
theorem dX4_doesPart_75 : decode cX4_doesPart 75 = .ok (.aload_n 0, 1) := by decide +kernel
theorem dX4_doesPart_76 : decode cX4_doesPart 76 = .ok (.aload_n 0, 1) := by decide +kernel
theorem dX4_doesPart_77 : decode cX4_doesPart 77 = .ok (.getfield 149, 3) := by decide +kernel
theorem dX4_doesPart_80 : decode cX4_doesPart 80 = .ok (.iconst (-1), 1) := by decide +kernel
theorem dX4_doesPart_81 : decode cX4_doesPart 81 = .ok (.iconst (-1), 1) := by decide +kernel
theorem dX4_doesPart_82 : decode cX4_doesPart 82 = .ok (.invokevirtual 106, 3) := by decide +kernel
theorem dX4_doesPart_85 : decode cX4_doesPart 85 = .ok (.iconst 1, 1) := by decide +kernel
theorem dX4_doesPart_86 : decode cX4_doesPart 86 = .ok (.ireturn, 1) := by decide +kernel
theorem dX4_doesPart_87 : decode cX4_doesPart 87 = .ok (.aload_n 0, 1) := by decide +kernel
theorem dX4_doesPart_88 : decode cX4_doesPart 88 = .ok (.aload_n 0, 1) := by decide +kernel
theorem dX4_doesPart_89 : decode cX4_doesPart 89 = .ok (.getfield 149, 3) := by decide +kernel
theorem dX4_doesPart_92 : decode cX4_doesPart 92 = .ok (.invokevirtual 128, 3) := by decide +kernel
theorem dX4_doesPart_95 : decode cX4_doesPart 95 = .ok (.ifCond .lt 7, 3) := by decide +kernel
theorem dX4_doesPart_98 : decode cX4_doesPart 98 = .ok (.iconst 1, 1) := by decide +kernel
theorem dX4_doesPart_99 : decode cX4_doesPart 99 = .ok (.goto 4, 3) := by decide +kernel
theorem dX4_doesPart_102 : decode cX4_doesPart 102 = .ok (.iconst 0, 1) := by decide +kernel
theorem dX4_doesPart_103 : decode cX4_doesPart 103 = .ok (.ireturn, 1) := by decide +kernel
theorem dX4_doesPart_104 : decode cX4_doesPart 104 = .ok (.aload_n 0, 1) := by decide +kernel
theorem dX4_doesPart_105 : decode cX4_doesPart 105 = .ok (.invokevirtual 125, 3) := by decide +kernel
theorem dX4_doesPart_108 : decode cX4_doesPart 108 = .ok (.ifCond .lt 7, 3) := by decide +kernel
theorem dX4_doesPart_111 : decode cX4_doesPart 111 = .ok (.iconst 1, 1) := by decide +kernel
theorem dX4_doesPart_112 : decode cX4_doesPart 112 = .ok (.goto 4, 3) := by decide +kernel
theorem dX4_doesPart_115 : decode cX4_doesPart 115 = .ok (.iconst 0, 1) := by decide +kernel
theorem dX4_doesPart_116 : decode cX4_doesPart 116 = .ok (.ireturn, 1) := by decide +kernel
set_option maxRecDepth 20000 in
theorem ggX4_play_X4_findError : GoodIn wsX4_play wsX4_findError := goodIn_r _ [8, 2, 3, 9, 10, 11, 7, 12, 13, 14, 15, 16, 17, 18, 19, 20, 21, 22, 23, 24, 25, 26, 27, 28, 29, 30, 31, 32, 33, 34, 35, 36, 37, 38, 39, 40, 125, 126, 127, 128, 129, 130, 131, 132, 133, 134, 135, 136, 137, 138, 139] (by decide +kernel) (by decide +kernel)
set_option maxRecDepth 20000 in
theorem gX4_play_X4_findError : GoodIn wsX4_play (wsV RX4 174 RX4 yX4_findError wsX4_findError) := goodIn_app (goodIn_of _ (by decide +kernel)) ggX4_play_X4_findError
set_option maxRecDepth 20000 in
theorem ggX4_play_X4_fails : GoodIn wsX4_play wsX4_fails := goodIn_r _ [44, 1, 125, 126, 127, 128, 129, 130, 131, 132, 133, 134, 135, 136, 137, 138, 139] (by decide +kernel) (by decide +kernel)
set_option maxRecDepth 20000 in
theorem gX4_play_X4_fails : GoodIn wsX4_play (wsV RX4 36 RX4 yX4_fails wsX4_fails) := goodIn_app (goodIn_of _ (by decide +kernel)) ggX4_play_X4_fails
set_option maxRecDepth 20000 in
theorem ggX4_play_X4_save : GoodIn wsX4_play wsX4_save := goodIn_r _ [48, 49, 50, 51, 125, 126, 127, 128, 129, 130, 131, 132, 133, 134, 135, 136, 137, 138, 139] (by decide +kernel) (by decide +kernel)
set_option maxRecDepth 20000 in
theorem gX4_play_X4_save : GoodIn wsX4_play (wsV RX4 44 RX4 yX4_save wsX4_save) := goodIn_app (goodIn_of _ (by decide +kernel)) ggX4_play_X4_save
set_option maxRecDepth 20000 in
theorem ggX4_play_X4_readsPart : GoodIn wsX4_play wsX4_readsPart := goodIn_r _ [12, 13, 2, 14, 15, 16, 17, 7, 18, 3, 19, 20, 21, 22, 23, 24, 25, 26, 27, 28, 29, 30, 31, 32, 33, 34, 35, 36, 37, 38, 39, 40, 125, 126, 127, 128, 129, 130, 131, 132, 133, 134, 135, 136, 137, 138, 139] (by decide +kernel) (by decide +kernel)
set_option maxRecDepth 20000 in
theorem gX4_play_X4_readsPart : GoodIn wsX4_play (wsV RX4 171 RX4 yX4_readsPart wsX4_readsPart) := goodIn_app (goodIn_of _ (by decide +kernel)) ggX4_play_X4_readsPart
set_option maxRecDepth 20000 in
theorem ggX4_play_X4_doesPart : GoodIn wsX4_play wsX4_doesPart := goodIn_r _ [55, 13, 31, 32, 14, 56, 57, 58, 7, 59, 51, 60, 61, 62, 63, 64, 65, 66, 67, 68, 69, 70, 71, 72, 73, 74, 75, 76, 77, 78, 79, 80, 81, 82, 83, 84, 85, 86, 87, 88, 89, 90, 91, 92, 93, 94, 95, 96, 97, 98, 99, 100, 101, 102, 103, 104, 105, 106, 107, 108, 109, 110, 111, 112, 113, 114, 115, 116, 117, 118, 119, 120, 121, 122, 123, 124, 125, 126, 127, 128, 129, 130, 131, 132, 133, 134, 135, 136, 137, 138, 139] (by decide +kernel) (by decide +kernel)
set_option maxRecDepth 20000 in
theorem gX4_play_X4_doesPart : GoodIn wsX4_play (wsV RX4 177 RX4 yX4_doesPart wsX4_doesPart) := goodIn_app (goodIn_of _ (by decide +kernel)) ggX4_play_X4_doesPart
theorem dX4_play_0 : decode cX4_play 0 = .ok (.aload_n 0, 1) := by decide +kernel
theorem dX4_play_1 : decode cX4_play 1 = .ok (.iconst 0, 1) := by decide +kernel
theorem dX4_play_2 : decode cX4_play 2 = .ok (.putfield 25, 3) := by decide +kernel
theorem dX4_play_5 : decode cX4_play 5 = .ok (.aload_n 0, 1) := by decide +kernel
theorem dX4_play_6 : decode cX4_play 6 = .ok (.invokevirtual 174, 3) := by decide +kernel
theorem dX4_play_9 : decode cX4_play 9 = .ok (.iconst (-1), 1) := by decide +kernel
theorem dX4_play_10 : decode cX4_play 10 = .ok (.if_icmp .eq 9, 3) := by decide +kernel
theorem dX4_play_13 : decode cX4_play 13 = .ok (.aload_n 0, 1) := by decide +kernel
theorem dX4_play_14 : decode cX4_play 14 = .ok (.iconst 1, 1) := by decide +kernel
theorem dX4_play_15 : decode cX4_play 15 = .ok (.invokevirtual 36, 3) := by decide +kernel
theorem dX4_play_18 : decode cX4_play 18 = .ok (.ireturn, 1) := by decide +kernel
theorem dX4_play_19 : decode cX4_play 19 = .ok (.aload_n 0, 1) := by decide +kernel
theorem dX4_play_20 : decode cX4_play 20 = .ok (.invokevirtual 44, 3) := by decide +kernel
theorem dX4_play_23 : decode cX4_play 23 = .ok (.aload_n 0, 1) := by decide +kernel
theorem dX4_play_24 : decode cX4_play 24 = .ok (.iconst 0, 1) := by decide +kernel
theorem dX4_play_25 : decode cX4_play 25 = .ok (.putfield 140, 3) := by decide +kernel
theorem dX4_play_28 : decode cX4_play 28 = .ok (.iconst 0, 1) := by decide +kernel
theorem dX4_play_29 : decode cX4_play 29 = .ok (.istore_n 1, 1) := by decide +kernel
theorem dX4_play_30 : decode cX4_play 30 = .ok (.iconst 1, 1) := by decide +kernel
theorem dX4_play_31 : decode cX4_play 31 = .ok (.istore_n 2, 1) := by decide +kernel
theorem dX4_play_32 : decode cX4_play 32 = .ok (.iload_n 2, 1) := by decide +kernel
theorem dX4_play_33 : decode cX4_play 33 = .ok (.ifCond .eq 59, 3) := by decide +kernel
theorem dX4_play_36 : decode cX4_play 36 = .ok (.aload_n 0, 1) := by decide +kernel
theorem dX4_play_37 : decode cX4_play 37 = .ok (.getfield 140, 3) := by decide +kernel
theorem dX4_play_40 : decode cX4_play 40 = .ok (.aload_n 0, 1) := by decide +kernel
theorem dX4_play_41 : decode cX4_play 41 = .ok (.getfield 137, 3) := by decide +kernel
theorem dX4_play_44 : decode cX4_play 44 = .ok (.if_icmp .ge 48, 3) := by decide +kernel
theorem dX4_play_47 : decode cX4_play 47 = .ok (.aload_n 0, 1) := by decide +kernel
theorem dX4_play_48 : decode cX4_play 48 = .ok (.invokevirtual 171, 3) := by decide +kernel
theorem dX4_play_51 : decode cX4_play 51 = .ok (.ifCond .eq 14, 3) := by decide +kernel
theorem dX4_play_54 : decode cX4_play 54 = .ok (.aload_n 0, 1) := by decide +kernel
theorem dX4_play_55 : decode cX4_play 55 = .ok (.invokevirtual 177, 3) := by decide +kernel
theorem dX4_play_58 : decode cX4_play 58 = .ok (.ifCond .eq 7, 3) := by decide +kernel
theorem dX4_play_61 : decode cX4_play 61 = .ok (.iconst 1, 1) := by decide +kernel
theorem dX4_play_62 : decode cX4_play 62 = .ok (.goto 4, 3) := by decide +kernel
theorem dX4_play_65 : decode cX4_play 65 = .ok (.iconst 0, 1) := by decide +kernel
theorem dX4_play_66 : decode cX4_play 66 = .ok (.istore_n 2, 1) := by decide +kernel
theorem dX4_play_67 : decode cX4_play 67 = .ok (.iload_n 1, 1) := by decide +kernel
theorem dX4_play_68 : decode cX4_play 68 = .ok (.iload_n 2, 1) := by decide +kernel
theorem dX4_play_69 : decode cX4_play 69 = .ok (.ifCond .eq 7, 3) := by decide +kernel
theorem dX4_play_72 : decode cX4_play 72 = .ok (.iconst 1, 1) := by decide +kernel
theorem dX4_play_73 : decode cX4_play 73 = .ok (.goto 4, 3) := by decide +kernel
theorem dX4_play_76 : decode cX4_play 76 = .ok (.iconst 0, 1) := by decide +kernel
theorem dX4_play_77 : decode cX4_play 77 = .ok (.iadd, 1) := by decide +kernel
theorem dX4_play_78 : decode cX4_play 78 = .ok (.istore_n 1, 1) := by decide +kernel
theorem dX4_play_79 : decode cX4_play 79 = .ok (.aload_n 0, 1) := by decide +kernel
theorem dX4_play_80 : decode cX4_play 80 = .ok (.dup, 1) := by decide +kernel
theorem dX4_play_81 : decode cX4_play 81 = .ok (.getfield 140, 3) := by decide +kernel
theorem dX4_play_84 : decode cX4_play 84 = .ok (.iconst 1, 1) := by decide +kernel
theorem dX4_play_85 : decode cX4_play 85 = .ok (.iadd, 1) := by decide +kernel
theorem dX4_play_86 : decode cX4_play 86 = .ok (.putfield 140, 3) := by decide +kernel
theorem dX4_play_89 : decode cX4_play 89 = .ok (.goto (-57), 3) := by decide +kernel
theorem dX4_play_92 : decode cX4_play 92 = .ok (.aload_n 0, 1) := by decide +kernel
theorem dX4_play_93 : decode cX4_play 93 = .ok (.iconst 0, 1) := by decide +kernel
theorem dX4_play_94 : decode cX4_play 94 = .ok (.putfield 137, 3) := by decide +kernel
theorem dX4_play_97 : decode cX4_play 97 = .ok (.iload_n 1, 1) := by decide +kernel
theorem dX4_play_98 : decode cX4_play 98 = .ok (.ireturn, 1) := by decide +kernel
set_option maxRecDepth 20000 in
theorem ggX4_tellsHearth_X4_ofHearth : GoodIn wsX4_tellsHearth wsX4_ofHearth := goodIn_r _ [6, 7, 8, 9, 5, 10, 1, 26, 27, 28, 29, 30, 31, 32, 33, 34, 35, 36, 37, 38, 39, 40] (by decide +kernel) (by decide +kernel)
set_option maxRecDepth 20000 in
theorem gX4_tellsHearth_X4_ofHearth : GoodIn wsX4_tellsHearth (wsV RX4 100 RX4 yX4_ofHearth wsX4_ofHearth) := goodIn_app (goodIn_of _ (by decide +kernel)) ggX4_tellsHearth_X4_ofHearth
set_option maxRecDepth 20000 in
theorem ggX4_tellsHearth_X4_shortNow : GoodIn wsX4_tellsHearth wsX4_shortNow := goodIn_r _ [14, 1, 15, 16, 5, 17, 26, 27, 28, 29, 30, 31, 32, 33, 34, 35, 36, 37, 38, 39, 40] (by decide +kernel) (by decide +kernel)
set_option maxRecDepth 20000 in
theorem gX4_tellsHearth_X4_shortNow : GoodIn wsX4_tellsHearth (wsV RX4 180 RX4 yX4_shortNow wsX4_shortNow) := goodIn_app (goodIn_of _ (by decide +kernel)) ggX4_tellsHearth_X4_shortNow
set_option maxRecDepth 20000 in
theorem ggX4_tellsHearth_X4_shortThen : GoodIn wsX4_tellsHearth wsX4_shortThen := goodIn_r _ [21, 1, 2, 3, 4, 5, 6, 7, 8, 9, 10, 15, 16, 17, 26, 27, 28, 29, 30, 31, 32, 33, 34, 35, 36, 37, 38, 39, 40] (by decide +kernel) (by decide +kernel)
set_option maxRecDepth 20000 in
theorem gX4_tellsHearth_X4_shortThen : GoodIn wsX4_tellsHearth (wsV RX4 183 RX4 yX4_shortThen wsX4_shortThen) := goodIn_app (goodIn_of _ (by decide +kernel)) ggX4_tellsHearth_X4_shortThen
set_option maxRecDepth 20000 in
theorem ggX4_tellsHearth_X4_shortByBook : GoodIn wsX4_tellsHearth wsX4_shortByBook := goodIn_r _ [25, 1, 15, 16, 5, 17, 26, 27, 28, 29, 30, 31, 32, 33, 34, 35, 36, 37, 38, 39, 40] (by decide +kernel) (by decide +kernel)
set_option maxRecDepth 20000 in
theorem gX4_tellsHearth_X4_shortByBook : GoodIn wsX4_tellsHearth (wsV RX4 186 RX4 yX4_shortByBook wsX4_shortByBook) := goodIn_app (goodIn_of _ (by decide +kernel)) ggX4_tellsHearth_X4_shortByBook
theorem dX4_tellsHearth_0 : decode cX4_tellsHearth 0 = .ok (.iload_n 2, 1) := by decide +kernel
theorem dX4_tellsHearth_1 : decode cX4_tellsHearth 1 = .ok (.tableswitch 152 0 10 #[59, 68, 78, 88, 94, 100, 106, 112, 122, 132, 142], 59) := by decide +kernel
theorem dX4_tellsHearth_60 : decode cX4_tellsHearth 60 = .ok (.aload_n 0, 1) := by decide +kernel
theorem dX4_tellsHearth_61 : decode cX4_tellsHearth 61 = .ok (.getfield 7, 3) := by decide +kernel
theorem dX4_tellsHearth_64 : decode cX4_tellsHearth 64 = .ok (.iconst 5, 1) := by decide +kernel
theorem dX4_tellsHearth_65 : decode cX4_tellsHearth 65 = .ok (.iload_n 1, 1) := by decide +kernel
theorem dX4_tellsHearth_66 : decode cX4_tellsHearth 66 = .ok (.iadd, 1) := by decide +kernel
theorem dX4_tellsHearth_67 : decode cX4_tellsHearth 67 = .ok (.iaload, 1) := by decide +kernel
theorem dX4_tellsHearth_68 : decode cX4_tellsHearth 68 = .ok (.ireturn, 1) := by decide +kernel
theorem dX4_tellsHearth_69 : decode cX4_tellsHearth 69 = .ok (.aload_n 0, 1) := by decide +kernel
theorem dX4_tellsHearth_70 : decode cX4_tellsHearth 70 = .ok (.getfield 7, 3) := by decide +kernel
theorem dX4_tellsHearth_73 : decode cX4_tellsHearth 73 = .ok (.bipush 10, 2) := by decide +kernel
theorem dX4_tellsHearth_75 : decode cX4_tellsHearth 75 = .ok (.iload_n 1, 1) := by decide +kernel
theorem dX4_tellsHearth_76 : decode cX4_tellsHearth 76 = .ok (.iadd, 1) := by decide +kernel
theorem dX4_tellsHearth_77 : decode cX4_tellsHearth 77 = .ok (.iaload, 1) := by decide +kernel
theorem dX4_tellsHearth_78 : decode cX4_tellsHearth 78 = .ok (.ireturn, 1) := by decide +kernel
theorem dX4_tellsHearth_79 : decode cX4_tellsHearth 79 = .ok (.aload_n 0, 1) := by decide +kernel
theorem dX4_tellsHearth_80 : decode cX4_tellsHearth 80 = .ok (.getfield 7, 3) := by decide +kernel
theorem dX4_tellsHearth_83 : decode cX4_tellsHearth 83 = .ok (.bipush 15, 2) := by decide +kernel
theorem dX4_tellsHearth_85 : decode cX4_tellsHearth 85 = .ok (.iload_n 1, 1) := by decide +kernel
theorem dX4_tellsHearth_86 : decode cX4_tellsHearth 86 = .ok (.iadd, 1) := by decide +kernel
theorem dX4_tellsHearth_87 : decode cX4_tellsHearth 87 = .ok (.iaload, 1) := by decide +kernel
theorem dX4_tellsHearth_88 : decode cX4_tellsHearth 88 = .ok (.ireturn, 1) := by decide +kernel
theorem dX4_tellsHearth_89 : decode cX4_tellsHearth 89 = .ok (.aload_n 0, 1) := by decide +kernel
theorem dX4_tellsHearth_90 : decode cX4_tellsHearth 90 = .ok (.iload_n 1, 1) := by decide +kernel
theorem dX4_tellsHearth_91 : decode cX4_tellsHearth 91 = .ok (.invokevirtual 100, 3) := by decide +kernel
theorem dX4_tellsHearth_94 : decode cX4_tellsHearth 94 = .ok (.ireturn, 1) := by decide +kernel
theorem dX4_tellsHearth_95 : decode cX4_tellsHearth 95 = .ok (.aload_n 0, 1) := by decide +kernel
theorem dX4_tellsHearth_96 : decode cX4_tellsHearth 96 = .ok (.iload_n 1, 1) := by decide +kernel
theorem dX4_tellsHearth_97 : decode cX4_tellsHearth 97 = .ok (.invokevirtual 180, 3) := by decide +kernel
theorem dX4_tellsHearth_100 : decode cX4_tellsHearth 100 = .ok (.ireturn, 1) := by decide +kernel
theorem dX4_tellsHearth_101 : decode cX4_tellsHearth 101 = .ok (.aload_n 0, 1) := by decide +kernel
theorem dX4_tellsHearth_102 : decode cX4_tellsHearth 102 = .ok (.iload_n 1, 1) := by decide +kernel
theorem dX4_tellsHearth_103 : decode cX4_tellsHearth 103 = .ok (.invokevirtual 183, 3) := by decide +kernel
theorem dX4_tellsHearth_106 : decode cX4_tellsHearth 106 = .ok (.ireturn, 1) := by decide +kernel
theorem dX4_tellsHearth_107 : decode cX4_tellsHearth 107 = .ok (.aload_n 0, 1) := by decide +kernel
theorem dX4_tellsHearth_108 : decode cX4_tellsHearth 108 = .ok (.iload_n 1, 1) := by decide +kernel
theorem dX4_tellsHearth_109 : decode cX4_tellsHearth 109 = .ok (.invokevirtual 186, 3) := by decide +kernel
theorem dX4_tellsHearth_112 : decode cX4_tellsHearth 112 = .ok (.ireturn, 1) := by decide +kernel
theorem dX4_tellsHearth_113 : decode cX4_tellsHearth 113 = .ok (.aload_n 0, 1) := by decide +kernel
theorem dX4_tellsHearth_114 : decode cX4_tellsHearth 114 = .ok (.getfield 7, 3) := by decide +kernel
theorem dX4_tellsHearth_117 : decode cX4_tellsHearth 117 = .ok (.bipush 20, 2) := by decide +kernel
theorem dX4_tellsHearth_119 : decode cX4_tellsHearth 119 = .ok (.iload_n 1, 1) := by decide +kernel
theorem dX4_tellsHearth_120 : decode cX4_tellsHearth 120 = .ok (.iadd, 1) := by decide +kernel
theorem dX4_tellsHearth_121 : decode cX4_tellsHearth 121 = .ok (.iaload, 1) := by decide +kernel
theorem dX4_tellsHearth_122 : decode cX4_tellsHearth 122 = .ok (.ireturn, 1) := by decide +kernel
theorem dX4_tellsHearth_123 : decode cX4_tellsHearth 123 = .ok (.aload_n 0, 1) := by decide +kernel
theorem dX4_tellsHearth_124 : decode cX4_tellsHearth 124 = .ok (.getfield 7, 3) := by decide +kernel
theorem dX4_tellsHearth_127 : decode cX4_tellsHearth 127 = .ok (.bipush 25, 2) := by decide +kernel
theorem dX4_tellsHearth_129 : decode cX4_tellsHearth 129 = .ok (.iload_n 1, 1) := by decide +kernel
theorem dX4_tellsHearth_130 : decode cX4_tellsHearth 130 = .ok (.iadd, 1) := by decide +kernel
theorem dX4_tellsHearth_131 : decode cX4_tellsHearth 131 = .ok (.iaload, 1) := by decide +kernel
theorem dX4_tellsHearth_132 : decode cX4_tellsHearth 132 = .ok (.ireturn, 1) := by decide +kernel
theorem dX4_tellsHearth_133 : decode cX4_tellsHearth 133 = .ok (.aload_n 0, 1) := by decide +kernel
theorem dX4_tellsHearth_134 : decode cX4_tellsHearth 134 = .ok (.getfield 7, 3) := by decide +kernel
theorem dX4_tellsHearth_137 : decode cX4_tellsHearth 137 = .ok (.bipush 30, 2) := by decide +kernel
theorem dX4_tellsHearth_139 : decode cX4_tellsHearth 139 = .ok (.iload_n 1, 1) := by decide +kernel
theorem dX4_tellsHearth_140 : decode cX4_tellsHearth 140 = .ok (.iadd, 1) := by decide +kernel
theorem dX4_tellsHearth_141 : decode cX4_tellsHearth 141 = .ok (.iaload, 1) := by decide +kernel
theorem dX4_tellsHearth_142 : decode cX4_tellsHearth 142 = .ok (.ireturn, 1) := by decide +kernel
theorem dX4_tellsHearth_143 : decode cX4_tellsHearth 143 = .ok (.aload_n 0, 1) := by decide +kernel
theorem dX4_tellsHearth_144 : decode cX4_tellsHearth 144 = .ok (.getfield 7, 3) := by decide +kernel
theorem dX4_tellsHearth_147 : decode cX4_tellsHearth 147 = .ok (.bipush 35, 2) := by decide +kernel
theorem dX4_tellsHearth_149 : decode cX4_tellsHearth 149 = .ok (.iload_n 1, 1) := by decide +kernel
theorem dX4_tellsHearth_150 : decode cX4_tellsHearth 150 = .ok (.iadd, 1) := by decide +kernel
theorem dX4_tellsHearth_151 : decode cX4_tellsHearth 151 = .ok (.iaload, 1) := by decide +kernel
theorem dX4_tellsHearth_152 : decode cX4_tellsHearth 152 = .ok (.ireturn, 1) := by decide +kernel
theorem dX4_tellsHearth_153 : decode cX4_tellsHearth 153 = .ok (.aload_n 0, 1) := by decide +kernel
theorem dX4_tellsHearth_154 : decode cX4_tellsHearth 154 = .ok (.getfield 7, 3) := by decide +kernel
theorem dX4_tellsHearth_157 : decode cX4_tellsHearth 157 = .ok (.bipush 40, 2) := by decide +kernel
theorem dX4_tellsHearth_159 : decode cX4_tellsHearth 159 = .ok (.iload_n 1, 1) := by decide +kernel
theorem dX4_tellsHearth_160 : decode cX4_tellsHearth 160 = .ok (.iadd, 1) := by decide +kernel
theorem dX4_tellsHearth_161 : decode cX4_tellsHearth 161 = .ok (.iaload, 1) := by decide +kernel
theorem dX4_tellsHearth_162 : decode cX4_tellsHearth 162 = .ok (.ireturn, 1) := by decide +kernel
set_option maxRecDepth 20000 in
theorem ggX4_hearthOf_X4_isHearth : GoodIn wsX4_hearthOf wsX4_isHearth := goodIn_r _ [5, 6, 7, 4, 8] (by decide +kernel) (by decide +kernel)
set_option maxRecDepth 20000 in
theorem gX4_hearthOf_X4_isHearth : GoodIn wsX4_hearthOf (va_wsS RX4 109 yX4_isHearth wsX4_isHearth) := goodIn_app (goodIn_of _ (by decide +kernel)) ggX4_hearthOf_X4_isHearth
set_option maxRecDepth 20000 in
theorem ggX4_hearthOf_X4_fails : GoodIn wsX4_hearthOf wsX4_fails := goodIn_r _ [12, 1, 41, 42, 43, 44, 45, 46, 47, 48, 49, 50, 51, 52, 53, 54, 55] (by decide +kernel) (by decide +kernel)
set_option maxRecDepth 20000 in
theorem gX4_hearthOf_X4_fails : GoodIn wsX4_hearthOf (wsV RX4 36 RX4 yX4_fails wsX4_fails) := goodIn_app (goodIn_of _ (by decide +kernel)) ggX4_hearthOf_X4_fails
set_option maxRecDepth 20000 in
theorem ggX4_hearthOf_X4_within : GoodIn wsX4_hearthOf wsX4_within := goodIn_r _ [8] (by decide +kernel) (by decide +kernel)
set_option maxRecDepth 20000 in
theorem gX4_hearthOf_X4_within : GoodIn wsX4_hearthOf (va_wsS RX4 29 yX4_within wsX4_within) := goodIn_app (goodIn_of _ (by decide +kernel)) ggX4_hearthOf_X4_within
set_option maxRecDepth 20000 in
theorem ggX4_hearthOf_X4_tellsHearth : GoodIn wsX4_hearthOf wsX4_tellsHearth := goodIn_r _ [16, 17, 18, 19, 20, 4, 21, 22, 23, 24, 25, 26, 27, 28, 29, 30, 31, 32, 33, 34, 35, 36, 37, 38, 39, 40, 41, 42, 43, 44, 45, 46, 47, 48, 49, 50, 51, 52, 53, 54, 55] (by decide +kernel) (by decide +kernel)
set_option maxRecDepth 20000 in
theorem gX4_hearthOf_X4_tellsHearth : GoodIn wsX4_hearthOf (wsV RX4 189 RX4 yX4_tellsHearth wsX4_tellsHearth) := goodIn_app (goodIn_of _ (by decide +kernel)) ggX4_hearthOf_X4_tellsHearth
theorem dX4_hearthOf_0 : decode cX4_hearthOf 0 = .ok (.aload_n 0, 1) := by decide +kernel
theorem dX4_hearthOf_1 : decode cX4_hearthOf 1 = .ok (.iconst 0, 1) := by decide +kernel
theorem dX4_hearthOf_2 : decode cX4_hearthOf 2 = .ok (.putfield 25, 3) := by decide +kernel
theorem dX4_hearthOf_5 : decode cX4_hearthOf 5 = .ok (.iload_n 1, 1) := by decide +kernel
theorem dX4_hearthOf_6 : decode cX4_hearthOf 6 = .ok (.invokestatic 109, 3) := by decide +kernel
theorem dX4_hearthOf_9 : decode cX4_hearthOf 9 = .ok (.ifCond .ne 9, 3) := by decide +kernel
theorem dX4_hearthOf_12 : decode cX4_hearthOf 12 = .ok (.aload_n 0, 1) := by decide +kernel
theorem dX4_hearthOf_13 : decode cX4_hearthOf 13 = .ok (.iconst 1, 1) := by decide +kernel
theorem dX4_hearthOf_14 : decode cX4_hearthOf 14 = .ok (.invokevirtual 36, 3) := by decide +kernel
theorem dX4_hearthOf_17 : decode cX4_hearthOf 17 = .ok (.ireturn, 1) := by decide +kernel
theorem dX4_hearthOf_18 : decode cX4_hearthOf 18 = .ok (.iload_n 2, 1) := by decide +kernel
theorem dX4_hearthOf_19 : decode cX4_hearthOf 19 = .ok (.iconst 0, 1) := by decide +kernel
theorem dX4_hearthOf_20 : decode cX4_hearthOf 20 = .ok (.bipush 11, 2) := by decide +kernel
theorem dX4_hearthOf_22 : decode cX4_hearthOf 22 = .ok (.invokestatic 29, 3) := by decide +kernel
theorem dX4_hearthOf_25 : decode cX4_hearthOf 25 = .ok (.ifCond .eq 12, 3) := by decide +kernel
theorem dX4_hearthOf_28 : decode cX4_hearthOf 28 = .ok (.aload_n 0, 1) := by decide +kernel
theorem dX4_hearthOf_29 : decode cX4_hearthOf 29 = .ok (.iload_n 1, 1) := by decide +kernel
theorem dX4_hearthOf_30 : decode cX4_hearthOf 30 = .ok (.iload_n 2, 1) := by decide +kernel
theorem dX4_hearthOf_31 : decode cX4_hearthOf 31 = .ok (.invokevirtual 189, 3) := by decide +kernel
theorem dX4_hearthOf_34 : decode cX4_hearthOf 34 = .ok (.goto 8, 3) := by decide +kernel
theorem dX4_hearthOf_37 : decode cX4_hearthOf 37 = .ok (.aload_n 0, 1) := by decide +kernel
theorem dX4_hearthOf_38 : decode cX4_hearthOf 38 = .ok (.iconst 2, 1) := by decide +kernel
theorem dX4_hearthOf_39 : decode cX4_hearthOf 39 = .ok (.invokevirtual 36, 3) := by decide +kernel
theorem dX4_hearthOf_42 : decode cX4_hearthOf 42 = .ok (.ireturn, 1) := by decide +kernel
set_option maxRecDepth 20000 in
theorem ggX4_tellsBank_X4_commons : GoodIn wsX4_tellsBank wsX4_commons := goodIn_r _ [6, 1, 23, 24, 25, 26, 27, 28, 29, 30, 31, 32, 33, 34, 35, 36, 37] (by decide +kernel) (by decide +kernel)
set_option maxRecDepth 20000 in
theorem gX4_tellsBank_X4_commons : GoodIn wsX4_tellsBank (wsV RX4 85 RX4 yX4_commons wsX4_commons) := goodIn_app (goodIn_of _ (by decide +kernel)) ggX4_tellsBank_X4_commons
set_option maxRecDepth 20000 in
theorem ggX4_tellsBank_X4_workersOn : GoodIn wsX4_tellsBank wsX4_workersOn := goodIn_r _ [10, 11, 12, 13, 5, 14, 1, 23, 24, 25, 26, 27, 28, 29, 30, 31, 32, 33, 34, 35, 36, 37] (by decide +kernel) (by decide +kernel)
set_option maxRecDepth 20000 in
theorem gX4_tellsBank_X4_workersOn : GoodIn wsX4_tellsBank (wsV RX4 91 RX4 yX4_workersOn wsX4_workersOn) := goodIn_app (goodIn_of _ (by decide +kernel)) ggX4_tellsBank_X4_workersOn
set_option maxRecDepth 20000 in
theorem ggX4_tellsBank_X4_lieOn : GoodIn wsX4_tellsBank wsX4_lieOn := goodIn_r _ [18, 19, 20, 21, 5, 22, 1, 23, 24, 25, 26, 27, 28, 29, 30, 31, 32, 33, 34, 35, 36, 37] (by decide +kernel) (by decide +kernel)
set_option maxRecDepth 20000 in
theorem gX4_tellsBank_X4_lieOn : GoodIn wsX4_tellsBank (wsV RX4 192 RX4 yX4_lieOn wsX4_lieOn) := goodIn_app (goodIn_of _ (by decide +kernel)) ggX4_tellsBank_X4_lieOn
theorem dX4_tellsBank_0 : decode cX4_tellsBank 0 = .ok (.iload_n 2, 1) := by decide +kernel
theorem dX4_tellsBank_1 : decode cX4_tellsBank 1 = .ok (.tableswitch 63 0 3 #[31, 41, 51, 57], 31) := by decide +kernel
theorem dX4_tellsBank_32 : decode cX4_tellsBank 32 = .ok (.aload_n 0, 1) := by decide +kernel
theorem dX4_tellsBank_33 : decode cX4_tellsBank 33 = .ok (.getfield 7, 3) := by decide +kernel
theorem dX4_tellsBank_36 : decode cX4_tellsBank 36 = .ok (.bipush 45, 2) := by decide +kernel
theorem dX4_tellsBank_38 : decode cX4_tellsBank 38 = .ok (.iload_n 1, 1) := by decide +kernel
theorem dX4_tellsBank_39 : decode cX4_tellsBank 39 = .ok (.iadd, 1) := by decide +kernel
theorem dX4_tellsBank_40 : decode cX4_tellsBank 40 = .ok (.iaload, 1) := by decide +kernel
theorem dX4_tellsBank_41 : decode cX4_tellsBank 41 = .ok (.ireturn, 1) := by decide +kernel
theorem dX4_tellsBank_42 : decode cX4_tellsBank 42 = .ok (.aload_n 0, 1) := by decide +kernel
theorem dX4_tellsBank_43 : decode cX4_tellsBank 43 = .ok (.getfield 7, 3) := by decide +kernel
theorem dX4_tellsBank_46 : decode cX4_tellsBank 46 = .ok (.bipush 49, 2) := by decide +kernel
theorem dX4_tellsBank_48 : decode cX4_tellsBank 48 = .ok (.iload_n 1, 1) := by decide +kernel
theorem dX4_tellsBank_49 : decode cX4_tellsBank 49 = .ok (.iadd, 1) := by decide +kernel
theorem dX4_tellsBank_50 : decode cX4_tellsBank 50 = .ok (.iaload, 1) := by decide +kernel
theorem dX4_tellsBank_51 : decode cX4_tellsBank 51 = .ok (.ireturn, 1) := by decide +kernel
theorem dX4_tellsBank_52 : decode cX4_tellsBank 52 = .ok (.aload_n 0, 1) := by decide +kernel
theorem dX4_tellsBank_53 : decode cX4_tellsBank 53 = .ok (.iload_n 1, 1) := by decide +kernel
theorem dX4_tellsBank_54 : decode cX4_tellsBank 54 = .ok (.invokevirtual 85, 3) := by decide +kernel
theorem dX4_tellsBank_57 : decode cX4_tellsBank 57 = .ok (.ireturn, 1) := by decide +kernel
theorem dX4_tellsBank_58 : decode cX4_tellsBank 58 = .ok (.aload_n 0, 1) := by decide +kernel
theorem dX4_tellsBank_59 : decode cX4_tellsBank 59 = .ok (.iload_n 1, 1) := by decide +kernel
theorem dX4_tellsBank_60 : decode cX4_tellsBank 60 = .ok (.invokevirtual 91, 3) := by decide +kernel
theorem dX4_tellsBank_63 : decode cX4_tellsBank 63 = .ok (.ireturn, 1) := by decide +kernel
theorem dX4_tellsBank_64 : decode cX4_tellsBank 64 = .ok (.aload_n 0, 1) := by decide +kernel
theorem dX4_tellsBank_65 : decode cX4_tellsBank 65 = .ok (.iload_n 1, 1) := by decide +kernel
theorem dX4_tellsBank_66 : decode cX4_tellsBank 66 = .ok (.invokevirtual 192, 3) := by decide +kernel
theorem dX4_tellsBank_69 : decode cX4_tellsBank 69 = .ok (.ireturn, 1) := by decide +kernel
set_option maxRecDepth 20000 in
theorem ggX4_bankOf_X4_isBank : GoodIn wsX4_bankOf wsX4_isBank := goodIn_r _ [5, 6, 7, 4, 8] (by decide +kernel) (by decide +kernel)
set_option maxRecDepth 20000 in
theorem gX4_bankOf_X4_isBank : GoodIn wsX4_bankOf (va_wsS RX4 113 yX4_isBank wsX4_isBank) := goodIn_app (goodIn_of _ (by decide +kernel)) ggX4_bankOf_X4_isBank
set_option maxRecDepth 20000 in
theorem ggX4_bankOf_X4_fails : GoodIn wsX4_bankOf wsX4_fails := goodIn_r _ [12, 1, 38, 39, 40, 41, 42, 43, 44, 45, 46, 47, 48, 49, 50, 51, 52] (by decide +kernel) (by decide +kernel)
set_option maxRecDepth 20000 in
theorem gX4_bankOf_X4_fails : GoodIn wsX4_bankOf (wsV RX4 36 RX4 yX4_fails wsX4_fails) := goodIn_app (goodIn_of _ (by decide +kernel)) ggX4_bankOf_X4_fails
set_option maxRecDepth 20000 in
theorem ggX4_bankOf_X4_within : GoodIn wsX4_bankOf wsX4_within := goodIn_r _ [8] (by decide +kernel) (by decide +kernel)
set_option maxRecDepth 20000 in
theorem gX4_bankOf_X4_within : GoodIn wsX4_bankOf (va_wsS RX4 29 yX4_within wsX4_within) := goodIn_app (goodIn_of _ (by decide +kernel)) ggX4_bankOf_X4_within
set_option maxRecDepth 20000 in
theorem ggX4_bankOf_X4_tellsBank : GoodIn wsX4_bankOf wsX4_tellsBank := goodIn_r _ [16, 17, 18, 19, 20, 4, 21, 22, 23, 24, 25, 26, 27, 28, 29, 30, 31, 32, 33, 34, 35, 36, 37, 38, 39, 40, 41, 42, 43, 44, 45, 46, 47, 48, 49, 50, 51, 52] (by decide +kernel) (by decide +kernel)
set_option maxRecDepth 20000 in
theorem gX4_bankOf_X4_tellsBank : GoodIn wsX4_bankOf (wsV RX4 195 RX4 yX4_tellsBank wsX4_tellsBank) := goodIn_app (goodIn_of _ (by decide +kernel)) ggX4_bankOf_X4_tellsBank
theorem dX4_bankOf_0 : decode cX4_bankOf 0 = .ok (.aload_n 0, 1) := by decide +kernel
theorem dX4_bankOf_1 : decode cX4_bankOf 1 = .ok (.iconst 0, 1) := by decide +kernel
theorem dX4_bankOf_2 : decode cX4_bankOf 2 = .ok (.putfield 25, 3) := by decide +kernel
theorem dX4_bankOf_5 : decode cX4_bankOf 5 = .ok (.iload_n 1, 1) := by decide +kernel
theorem dX4_bankOf_6 : decode cX4_bankOf 6 = .ok (.invokestatic 113, 3) := by decide +kernel
theorem dX4_bankOf_9 : decode cX4_bankOf 9 = .ok (.ifCond .ne 9, 3) := by decide +kernel
theorem dX4_bankOf_12 : decode cX4_bankOf 12 = .ok (.aload_n 0, 1) := by decide +kernel
theorem dX4_bankOf_13 : decode cX4_bankOf 13 = .ok (.iconst 1, 1) := by decide +kernel
theorem dX4_bankOf_14 : decode cX4_bankOf 14 = .ok (.invokevirtual 36, 3) := by decide +kernel
theorem dX4_bankOf_17 : decode cX4_bankOf 17 = .ok (.ireturn, 1) := by decide +kernel
theorem dX4_bankOf_18 : decode cX4_bankOf 18 = .ok (.iload_n 2, 1) := by decide +kernel
theorem dX4_bankOf_19 : decode cX4_bankOf 19 = .ok (.iconst 0, 1) := by decide +kernel
theorem dX4_bankOf_20 : decode cX4_bankOf 20 = .ok (.iconst 4, 1) := by decide +kernel
theorem dX4_bankOf_21 : decode cX4_bankOf 21 = .ok (.invokestatic 29, 3) := by decide +kernel
theorem dX4_bankOf_24 : decode cX4_bankOf 24 = .ok (.ifCond .eq 12, 3) := by decide +kernel
theorem dX4_bankOf_27 : decode cX4_bankOf 27 = .ok (.aload_n 0, 1) := by decide +kernel
theorem dX4_bankOf_28 : decode cX4_bankOf 28 = .ok (.iload_n 1, 1) := by decide +kernel
theorem dX4_bankOf_29 : decode cX4_bankOf 29 = .ok (.iload_n 2, 1) := by decide +kernel
theorem dX4_bankOf_30 : decode cX4_bankOf 30 = .ok (.invokevirtual 195, 3) := by decide +kernel
theorem dX4_bankOf_33 : decode cX4_bankOf 33 = .ok (.goto 8, 3) := by decide +kernel
theorem dX4_bankOf_36 : decode cX4_bankOf 36 = .ok (.aload_n 0, 1) := by decide +kernel
theorem dX4_bankOf_37 : decode cX4_bankOf 37 = .ok (.iconst 2, 1) := by decide +kernel
theorem dX4_bankOf_38 : decode cX4_bankOf 38 = .ok (.invokevirtual 36, 3) := by decide +kernel
theorem dX4_bankOf_41 : decode cX4_bankOf 41 = .ok (.ireturn, 1) := by decide +kernel
set_option maxRecDepth 20000 in
theorem ggX4_tellsPlot_X4_workers : GoodIn wsX4_tellsPlot wsX4_workers := goodIn_r _ [6, 1, 7, 8, 9, 10, 11, 12, 13, 14, 15, 16, 17, 18, 19, 20, 21] (by decide +kernel) (by decide +kernel)
set_option maxRecDepth 20000 in
theorem gX4_tellsPlot_X4_workers : GoodIn wsX4_tellsPlot (wsV RX4 88 RX4 yX4_workers wsX4_workers) := goodIn_app (goodIn_of _ (by decide +kernel)) ggX4_tellsPlot_X4_workers
theorem dX4_tellsPlot_0 : decode cX4_tellsPlot 0 = .ok (.iconst 4, 1) := by decide +kernel
theorem dX4_tellsPlot_1 : decode cX4_tellsPlot 1 = .ok (.iload_n 1, 1) := by decide +kernel
theorem dX4_tellsPlot_2 : decode cX4_tellsPlot 2 = .ok (.imul, 1) := by decide +kernel
theorem dX4_tellsPlot_3 : decode cX4_tellsPlot 3 = .ok (.iload_n 2, 1) := by decide +kernel
theorem dX4_tellsPlot_4 : decode cX4_tellsPlot 4 = .ok (.iadd, 1) := by decide +kernel
theorem dX4_tellsPlot_5 : decode cX4_tellsPlot 5 = .ok (.istore 4, 2) := by decide +kernel
theorem dX4_tellsPlot_7 : decode cX4_tellsPlot 7 = .ok (.iload_n 3, 1) := by decide +kernel
theorem dX4_tellsPlot_8 : decode cX4_tellsPlot 8 = .ok (.tableswitch 76 0 3 #[32, 43, 54, 65], 32) := by decide +kernel
theorem dX4_tellsPlot_40 : decode cX4_tellsPlot 40 = .ok (.aload_n 0, 1) := by decide +kernel
theorem dX4_tellsPlot_41 : decode cX4_tellsPlot 41 = .ok (.getfield 7, 3) := by decide +kernel
theorem dX4_tellsPlot_44 : decode cX4_tellsPlot 44 = .ok (.bipush 53, 2) := by decide +kernel
theorem dX4_tellsPlot_46 : decode cX4_tellsPlot 46 = .ok (.iload 4, 2) := by decide +kernel
theorem dX4_tellsPlot_48 : decode cX4_tellsPlot 48 = .ok (.iadd, 1) := by decide +kernel
theorem dX4_tellsPlot_49 : decode cX4_tellsPlot 49 = .ok (.iaload, 1) := by decide +kernel
theorem dX4_tellsPlot_50 : decode cX4_tellsPlot 50 = .ok (.ireturn, 1) := by decide +kernel
theorem dX4_tellsPlot_51 : decode cX4_tellsPlot 51 = .ok (.aload_n 0, 1) := by decide +kernel
theorem dX4_tellsPlot_52 : decode cX4_tellsPlot 52 = .ok (.getfield 7, 3) := by decide +kernel
theorem dX4_tellsPlot_55 : decode cX4_tellsPlot 55 = .ok (.bipush 73, 2) := by decide +kernel
theorem dX4_tellsPlot_57 : decode cX4_tellsPlot 57 = .ok (.iload 4, 2) := by decide +kernel
theorem dX4_tellsPlot_59 : decode cX4_tellsPlot 59 = .ok (.iadd, 1) := by decide +kernel
theorem dX4_tellsPlot_60 : decode cX4_tellsPlot 60 = .ok (.iaload, 1) := by decide +kernel
theorem dX4_tellsPlot_61 : decode cX4_tellsPlot 61 = .ok (.ireturn, 1) := by decide +kernel
theorem dX4_tellsPlot_62 : decode cX4_tellsPlot 62 = .ok (.aload_n 0, 1) := by decide +kernel
theorem dX4_tellsPlot_63 : decode cX4_tellsPlot 63 = .ok (.getfield 7, 3) := by decide +kernel
theorem dX4_tellsPlot_66 : decode cX4_tellsPlot 66 = .ok (.bipush 93, 2) := by decide +kernel
theorem dX4_tellsPlot_68 : decode cX4_tellsPlot 68 = .ok (.iload 4, 2) := by decide +kernel
theorem dX4_tellsPlot_70 : decode cX4_tellsPlot 70 = .ok (.iadd, 1) := by decide +kernel
theorem dX4_tellsPlot_71 : decode cX4_tellsPlot 71 = .ok (.iaload, 1) := by decide +kernel
theorem dX4_tellsPlot_72 : decode cX4_tellsPlot 72 = .ok (.ireturn, 1) := by decide +kernel
theorem dX4_tellsPlot_73 : decode cX4_tellsPlot 73 = .ok (.aload_n 0, 1) := by decide +kernel
theorem dX4_tellsPlot_74 : decode cX4_tellsPlot 74 = .ok (.getfield 7, 3) := by decide +kernel
theorem dX4_tellsPlot_77 : decode cX4_tellsPlot 77 = .ok (.bipush 113, 2) := by decide +kernel
theorem dX4_tellsPlot_79 : decode cX4_tellsPlot 79 = .ok (.iload 4, 2) := by decide +kernel
theorem dX4_tellsPlot_81 : decode cX4_tellsPlot 81 = .ok (.iadd, 1) := by decide +kernel
theorem dX4_tellsPlot_82 : decode cX4_tellsPlot 82 = .ok (.iaload, 1) := by decide +kernel
theorem dX4_tellsPlot_83 : decode cX4_tellsPlot 83 = .ok (.ireturn, 1) := by decide +kernel
theorem dX4_tellsPlot_84 : decode cX4_tellsPlot 84 = .ok (.aload_n 0, 1) := by decide +kernel
theorem dX4_tellsPlot_85 : decode cX4_tellsPlot 85 = .ok (.iload_n 1, 1) := by decide +kernel
theorem dX4_tellsPlot_86 : decode cX4_tellsPlot 86 = .ok (.iload_n 2, 1) := by decide +kernel
theorem dX4_tellsPlot_87 : decode cX4_tellsPlot 87 = .ok (.invokevirtual 88, 3) := by decide +kernel
theorem dX4_tellsPlot_90 : decode cX4_tellsPlot 90 = .ok (.ireturn, 1) := by decide +kernel
set_option maxRecDepth 20000 in
theorem ggX4_plot_X4_isHearth : GoodIn wsX4_plot wsX4_isHearth := goodIn_r _ [5, 6, 7, 4, 8] (by decide +kernel) (by decide +kernel)
set_option maxRecDepth 20000 in
theorem gX4_plot_X4_isHearth : GoodIn wsX4_plot (va_wsS RX4 109 yX4_isHearth wsX4_isHearth) := goodIn_app (goodIn_of _ (by decide +kernel)) ggX4_plot_X4_isHearth
set_option maxRecDepth 20000 in
theorem ggX4_plot_X4_isBank : GoodIn wsX4_plot wsX4_isBank := goodIn_r _ [11, 6, 7, 4, 8] (by decide +kernel) (by decide +kernel)
set_option maxRecDepth 20000 in
theorem gX4_plot_X4_isBank : GoodIn wsX4_plot (va_wsS RX4 113 yX4_isBank wsX4_isBank) := goodIn_app (goodIn_of _ (by decide +kernel)) ggX4_plot_X4_isBank
set_option maxRecDepth 20000 in
theorem ggX4_plot_X4_fails : GoodIn wsX4_plot wsX4_fails := goodIn_r _ [15, 1, 25, 26, 27, 28, 29, 30, 31, 32, 33, 34, 35, 36, 37, 38, 39] (by decide +kernel) (by decide +kernel)
set_option maxRecDepth 20000 in
theorem gX4_plot_X4_fails : GoodIn wsX4_plot (wsV RX4 36 RX4 yX4_fails wsX4_fails) := goodIn_app (goodIn_of _ (by decide +kernel)) ggX4_plot_X4_fails
set_option maxRecDepth 20000 in
theorem ggX4_plot_X4_within : GoodIn wsX4_plot wsX4_within := goodIn_r _ [8] (by decide +kernel) (by decide +kernel)
set_option maxRecDepth 20000 in
theorem gX4_plot_X4_within : GoodIn wsX4_plot (va_wsS RX4 29 yX4_within wsX4_within) := goodIn_app (goodIn_of _ (by decide +kernel)) ggX4_plot_X4_within
set_option maxRecDepth 20000 in
theorem ggX4_plot_X4_tellsPlot : GoodIn wsX4_plot wsX4_tellsPlot := goodIn_r _ [19, 20, 21, 22, 23, 4, 24, 25, 26, 27, 28, 29, 30, 31, 32, 33, 34, 35, 36, 37, 38, 39] (by decide +kernel) (by decide +kernel)
set_option maxRecDepth 20000 in
theorem gX4_plot_X4_tellsPlot : GoodIn wsX4_plot (wsV RX4 198 RX4 yX4_tellsPlot wsX4_tellsPlot) := goodIn_app (goodIn_of _ (by decide +kernel)) ggX4_plot_X4_tellsPlot
theorem dX4_plot_0 : decode cX4_plot 0 = .ok (.aload_n 0, 1) := by decide +kernel
theorem dX4_plot_1 : decode cX4_plot 1 = .ok (.iconst 0, 1) := by decide +kernel
theorem dX4_plot_2 : decode cX4_plot 2 = .ok (.putfield 25, 3) := by decide +kernel
theorem dX4_plot_5 : decode cX4_plot 5 = .ok (.iload_n 1, 1) := by decide +kernel
theorem dX4_plot_6 : decode cX4_plot 6 = .ok (.invokestatic 109, 3) := by decide +kernel
theorem dX4_plot_9 : decode cX4_plot 9 = .ok (.ifCond .eq 10, 3) := by decide +kernel
theorem dX4_plot_12 : decode cX4_plot 12 = .ok (.iload_n 2, 1) := by decide +kernel
theorem dX4_plot_13 : decode cX4_plot 13 = .ok (.invokestatic 113, 3) := by decide +kernel
theorem dX4_plot_16 : decode cX4_plot 16 = .ok (.ifCond .ne 9, 3) := by decide +kernel
theorem dX4_plot_19 : decode cX4_plot 19 = .ok (.aload_n 0, 1) := by decide +kernel
theorem dX4_plot_20 : decode cX4_plot 20 = .ok (.iconst 1, 1) := by decide +kernel
theorem dX4_plot_21 : decode cX4_plot 21 = .ok (.invokevirtual 36, 3) := by decide +kernel
theorem dX4_plot_24 : decode cX4_plot 24 = .ok (.ireturn, 1) := by decide +kernel
theorem dX4_plot_25 : decode cX4_plot 25 = .ok (.iload_n 3, 1) := by decide +kernel
theorem dX4_plot_26 : decode cX4_plot 26 = .ok (.iconst 0, 1) := by decide +kernel
theorem dX4_plot_27 : decode cX4_plot 27 = .ok (.iconst 4, 1) := by decide +kernel
theorem dX4_plot_28 : decode cX4_plot 28 = .ok (.invokestatic 29, 3) := by decide +kernel
theorem dX4_plot_31 : decode cX4_plot 31 = .ok (.ifCond .eq 13, 3) := by decide +kernel
theorem dX4_plot_34 : decode cX4_plot 34 = .ok (.aload_n 0, 1) := by decide +kernel
theorem dX4_plot_35 : decode cX4_plot 35 = .ok (.iload_n 1, 1) := by decide +kernel
theorem dX4_plot_36 : decode cX4_plot 36 = .ok (.iload_n 2, 1) := by decide +kernel
theorem dX4_plot_37 : decode cX4_plot 37 = .ok (.iload_n 3, 1) := by decide +kernel
theorem dX4_plot_38 : decode cX4_plot 38 = .ok (.invokevirtual 198, 3) := by decide +kernel
theorem dX4_plot_41 : decode cX4_plot 41 = .ok (.goto 8, 3) := by decide +kernel
theorem dX4_plot_44 : decode cX4_plot 44 = .ok (.aload_n 0, 1) := by decide +kernel
theorem dX4_plot_45 : decode cX4_plot 45 = .ok (.iconst 2, 1) := by decide +kernel
theorem dX4_plot_46 : decode cX4_plot 46 = .ok (.invokevirtual 36, 3) := by decide +kernel
theorem dX4_plot_49 : decode cX4_plot 49 = .ok (.ireturn, 1) := by decide +kernel
theorem dX4_tellsCutter_0 : decode cX4_tellsCutter 0 = .ok (.aload_n 0, 1) := by decide +kernel
theorem dX4_tellsCutter_1 : decode cX4_tellsCutter 1 = .ok (.getfield 7, 3) := by decide +kernel
theorem dX4_tellsCutter_4 : decode cX4_tellsCutter 4 = .ok (.sipush 133, 3) := by decide +kernel
theorem dX4_tellsCutter_7 : decode cX4_tellsCutter 7 = .ok (.bipush 6, 2) := by decide +kernel
theorem dX4_tellsCutter_9 : decode cX4_tellsCutter 9 = .ok (.iload_n 2, 1) := by decide +kernel
theorem dX4_tellsCutter_10 : decode cX4_tellsCutter 10 = .ok (.imul, 1) := by decide +kernel
theorem dX4_tellsCutter_11 : decode cX4_tellsCutter 11 = .ok (.iadd, 1) := by decide +kernel
theorem dX4_tellsCutter_12 : decode cX4_tellsCutter 12 = .ok (.iload_n 1, 1) := by decide +kernel
theorem dX4_tellsCutter_13 : decode cX4_tellsCutter 13 = .ok (.iadd, 1) := by decide +kernel
theorem dX4_tellsCutter_14 : decode cX4_tellsCutter 14 = .ok (.iaload, 1) := by decide +kernel
theorem dX4_tellsCutter_15 : decode cX4_tellsCutter 15 = .ok (.ireturn, 1) := by decide +kernel
set_option maxRecDepth 20000 in
theorem ggX4_cutter_X4_isCutter : GoodIn wsX4_cutter wsX4_isCutter := goodIn_r _ [5, 6, 7, 4, 8] (by decide +kernel) (by decide +kernel)
set_option maxRecDepth 20000 in
theorem gX4_cutter_X4_isCutter : GoodIn wsX4_cutter (va_wsS RX4 116 yX4_isCutter wsX4_isCutter) := goodIn_app (goodIn_of _ (by decide +kernel)) ggX4_cutter_X4_isCutter
set_option maxRecDepth 20000 in
theorem ggX4_cutter_X4_fails : GoodIn wsX4_cutter wsX4_fails := goodIn_r _ [12, 1, 18, 19, 20, 21, 22, 23, 24, 25, 26, 27, 28, 29, 30, 31, 32] (by decide +kernel) (by decide +kernel)
set_option maxRecDepth 20000 in
theorem gX4_cutter_X4_fails : GoodIn wsX4_cutter (wsV RX4 36 RX4 yX4_fails wsX4_fails) := goodIn_app (goodIn_of _ (by decide +kernel)) ggX4_cutter_X4_fails
set_option maxRecDepth 20000 in
theorem ggX4_cutter_X4_within : GoodIn wsX4_cutter wsX4_within := goodIn_r _ [8] (by decide +kernel) (by decide +kernel)
set_option maxRecDepth 20000 in
theorem gX4_cutter_X4_within : GoodIn wsX4_cutter (va_wsS RX4 29 yX4_within wsX4_within) := goodIn_app (goodIn_of _ (by decide +kernel)) ggX4_cutter_X4_within
set_option maxRecDepth 20000 in
theorem ggX4_cutter_X4_tellsCutter : GoodIn wsX4_cutter wsX4_tellsCutter := goodIn_r _ [16, 17, 18, 19, 20, 21, 22, 23, 24, 25, 26, 27, 28, 29, 30, 31, 32] (by decide +kernel) (by decide +kernel)
set_option maxRecDepth 20000 in
theorem gX4_cutter_X4_tellsCutter : GoodIn wsX4_cutter (wsV RX4 202 RX4 yX4_tellsCutter wsX4_tellsCutter) := goodIn_app (goodIn_of _ (by decide +kernel)) ggX4_cutter_X4_tellsCutter
theorem dX4_cutter_0 : decode cX4_cutter 0 = .ok (.aload_n 0, 1) := by decide +kernel
theorem dX4_cutter_1 : decode cX4_cutter 1 = .ok (.iconst 0, 1) := by decide +kernel
theorem dX4_cutter_2 : decode cX4_cutter 2 = .ok (.putfield 25, 3) := by decide +kernel
theorem dX4_cutter_5 : decode cX4_cutter 5 = .ok (.iload_n 1, 1) := by decide +kernel
theorem dX4_cutter_6 : decode cX4_cutter 6 = .ok (.invokestatic 116, 3) := by decide +kernel
theorem dX4_cutter_9 : decode cX4_cutter 9 = .ok (.ifCond .ne 9, 3) := by decide +kernel
theorem dX4_cutter_12 : decode cX4_cutter 12 = .ok (.aload_n 0, 1) := by decide +kernel
theorem dX4_cutter_13 : decode cX4_cutter 13 = .ok (.iconst 1, 1) := by decide +kernel
theorem dX4_cutter_14 : decode cX4_cutter 14 = .ok (.invokevirtual 36, 3) := by decide +kernel
theorem dX4_cutter_17 : decode cX4_cutter 17 = .ok (.ireturn, 1) := by decide +kernel
theorem dX4_cutter_18 : decode cX4_cutter 18 = .ok (.iload_n 2, 1) := by decide +kernel
theorem dX4_cutter_19 : decode cX4_cutter 19 = .ok (.iconst 0, 1) := by decide +kernel
theorem dX4_cutter_20 : decode cX4_cutter 20 = .ok (.iconst 3, 1) := by decide +kernel
theorem dX4_cutter_21 : decode cX4_cutter 21 = .ok (.invokestatic 29, 3) := by decide +kernel
theorem dX4_cutter_24 : decode cX4_cutter 24 = .ok (.ifCond .eq 12, 3) := by decide +kernel
theorem dX4_cutter_27 : decode cX4_cutter 27 = .ok (.aload_n 0, 1) := by decide +kernel
theorem dX4_cutter_28 : decode cX4_cutter 28 = .ok (.iload_n 1, 1) := by decide +kernel
theorem dX4_cutter_29 : decode cX4_cutter 29 = .ok (.iload_n 2, 1) := by decide +kernel
theorem dX4_cutter_30 : decode cX4_cutter 30 = .ok (.invokevirtual 202, 3) := by decide +kernel
theorem dX4_cutter_33 : decode cX4_cutter 33 = .ok (.goto 8, 3) := by decide +kernel
theorem dX4_cutter_36 : decode cX4_cutter 36 = .ok (.aload_n 0, 1) := by decide +kernel
theorem dX4_cutter_37 : decode cX4_cutter 37 = .ok (.iconst 2, 1) := by decide +kernel
theorem dX4_cutter_38 : decode cX4_cutter 38 = .ok (.invokevirtual 36, 3) := by decide +kernel
theorem dX4_cutter_41 : decode cX4_cutter 41 = .ok (.ireturn, 1) := by decide +kernel
set_option maxRecDepth 20000 in
theorem ggX4_rain_X4_fails : GoodIn wsX4_rain wsX4_fails := goodIn_r _ [6, 1, 14, 15, 16, 17, 18, 19, 20, 21, 22, 23, 24, 25, 26, 27, 28] (by decide +kernel) (by decide +kernel)
set_option maxRecDepth 20000 in
theorem gX4_rain_X4_fails : GoodIn wsX4_rain (wsV RX4 36 RX4 yX4_fails wsX4_fails) := goodIn_app (goodIn_of _ (by decide +kernel)) ggX4_rain_X4_fails
set_option maxRecDepth 20000 in
theorem ggX4_rain_X4_rainOf : GoodIn wsX4_rain wsX4_rainOf := goodIn_r _ [10, 11, 12, 13, 14, 15, 16, 17, 18, 19, 20, 21, 22, 23, 24, 25, 26, 27, 28] (by decide +kernel) (by decide +kernel)
set_option maxRecDepth 20000 in
theorem gX4_rain_X4_rainOf : GoodIn wsX4_rain (wsV RX4 63 RX4 yX4_rainOf wsX4_rainOf) := goodIn_app (goodIn_of _ (by decide +kernel)) ggX4_rain_X4_rainOf
theorem dX4_rain_0 : decode cX4_rain 0 = .ok (.aload_n 0, 1) := by decide +kernel
theorem dX4_rain_1 : decode cX4_rain 1 = .ok (.iconst 0, 1) := by decide +kernel
theorem dX4_rain_2 : decode cX4_rain 2 = .ok (.putfield 25, 3) := by decide +kernel
theorem dX4_rain_5 : decode cX4_rain 5 = .ok (.iload_n 1, 1) := by decide +kernel
theorem dX4_rain_6 : decode cX4_rain 6 = .ok (.ifCond .ge 11, 3) := by decide +kernel
theorem dX4_rain_9 : decode cX4_rain 9 = .ok (.aload_n 0, 1) := by decide +kernel
theorem dX4_rain_10 : decode cX4_rain 10 = .ok (.iconst 1, 1) := by decide +kernel
theorem dX4_rain_11 : decode cX4_rain 11 = .ok (.invokevirtual 36, 3) := by decide +kernel
theorem dX4_rain_14 : decode cX4_rain 14 = .ok (.goto 8, 3) := by decide +kernel
theorem dX4_rain_17 : decode cX4_rain 17 = .ok (.aload_n 0, 1) := by decide +kernel
theorem dX4_rain_18 : decode cX4_rain 18 = .ok (.iload_n 1, 1) := by decide +kernel
theorem dX4_rain_19 : decode cX4_rain 19 = .ok (.invokevirtual 63, 3) := by decide +kernel
theorem dX4_rain_22 : decode cX4_rain 22 = .ok (.ireturn, 1) := by decide +kernel
theorem dX4_sumOf_0 : decode cX4_sumOf 0 = .ok (.iconst 0, 1) := by decide +kernel
theorem dX4_sumOf_1 : decode cX4_sumOf 1 = .ok (.istore_n 3, 1) := by decide +kernel
theorem dX4_sumOf_2 : decode cX4_sumOf 2 = .ok (.iconst 0, 1) := by decide +kernel
theorem dX4_sumOf_3 : decode cX4_sumOf 3 = .ok (.istore 4, 2) := by decide +kernel
theorem dX4_sumOf_5 : decode cX4_sumOf 5 = .ok (.iload 4, 2) := by decide +kernel
theorem dX4_sumOf_7 : decode cX4_sumOf 7 = .ok (.iload_n 2, 1) := by decide +kernel
theorem dX4_sumOf_8 : decode cX4_sumOf 8 = .ok (.if_icmp .ge 21, 3) := by decide +kernel
theorem dX4_sumOf_11 : decode cX4_sumOf 11 = .ok (.iload_n 3, 1) := by decide +kernel
theorem dX4_sumOf_12 : decode cX4_sumOf 12 = .ok (.aload_n 0, 1) := by decide +kernel
theorem dX4_sumOf_13 : decode cX4_sumOf 13 = .ok (.getfield 7, 3) := by decide +kernel
theorem dX4_sumOf_16 : decode cX4_sumOf 16 = .ok (.iload_n 1, 1) := by decide +kernel
theorem dX4_sumOf_17 : decode cX4_sumOf 17 = .ok (.iload 4, 2) := by decide +kernel
theorem dX4_sumOf_19 : decode cX4_sumOf 19 = .ok (.iadd, 1) := by decide +kernel
theorem dX4_sumOf_20 : decode cX4_sumOf 20 = .ok (.iaload, 1) := by decide +kernel
theorem dX4_sumOf_21 : decode cX4_sumOf 21 = .ok (.iadd, 1) := by decide +kernel
theorem dX4_sumOf_22 : decode cX4_sumOf 22 = .ok (.istore_n 3, 1) := by decide +kernel
theorem dX4_sumOf_23 : decode cX4_sumOf 23 = .ok (.iinc 4 1, 3) := by decide +kernel
theorem dX4_sumOf_26 : decode cX4_sumOf 26 = .ok (.goto (-21), 3) := by decide +kernel
theorem dX4_sumOf_29 : decode cX4_sumOf 29 = .ok (.iload_n 3, 1) := by decide +kernel
theorem dX4_sumOf_30 : decode cX4_sumOf 30 = .ok (.ireturn, 1) := by decide +kernel
set_option maxRecDepth 20000 in
theorem ggX4_shortHearths_X4_shortNow : GoodIn wsX4_shortHearths wsX4_shortNow := goodIn_r _ [5, 6, 7, 8, 4, 9, 22, 23, 24, 25, 26, 27, 28, 29, 30, 31, 32, 33, 34, 35, 36] (by decide +kernel) (by decide +kernel)
set_option maxRecDepth 20000 in
theorem gX4_shortHearths_X4_shortNow : GoodIn wsX4_shortHearths (wsV RX4 180 RX4 yX4_shortNow wsX4_shortNow) := goodIn_app (goodIn_of _ (by decide +kernel)) ggX4_shortHearths_X4_shortNow
set_option maxRecDepth 20000 in
theorem ggX4_shortHearths_X4_shortThen : GoodIn wsX4_shortHearths wsX4_shortThen := goodIn_r _ [13, 6, 14, 15, 16, 4, 17, 18, 19, 20, 21, 7, 8, 9, 22, 23, 24, 25, 26, 27, 28, 29, 30, 31, 32, 33, 34, 35, 36] (by decide +kernel) (by decide +kernel)
set_option maxRecDepth 20000 in
theorem gX4_shortHearths_X4_shortThen : GoodIn wsX4_shortHearths (wsV RX4 183 RX4 yX4_shortThen wsX4_shortThen) := goodIn_app (goodIn_of _ (by decide +kernel)) ggX4_shortHearths_X4_shortThen
theorem dX4_shortHearths_0 : decode cX4_shortHearths 0 = .ok (.iconst 0, 1) := by decide +kernel
theorem dX4_shortHearths_1 : decode cX4_shortHearths 1 = .ok (.istore_n 2, 1) := by decide +kernel
theorem dX4_shortHearths_2 : decode cX4_shortHearths 2 = .ok (.iconst 0, 1) := by decide +kernel
theorem dX4_shortHearths_3 : decode cX4_shortHearths 3 = .ok (.istore_n 3, 1) := by decide +kernel
theorem dX4_shortHearths_4 : decode cX4_shortHearths 4 = .ok (.iload_n 3, 1) := by decide +kernel
theorem dX4_shortHearths_5 : decode cX4_shortHearths 5 = .ok (.iconst 5, 1) := by decide +kernel
theorem dX4_shortHearths_6 : decode cX4_shortHearths 6 = .ok (.if_icmp .ge 41, 3) := by decide +kernel
theorem dX4_shortHearths_9 : decode cX4_shortHearths 9 = .ok (.iload_n 1, 1) := by decide +kernel
theorem dX4_shortHearths_10 : decode cX4_shortHearths 10 = .ok (.ifCond .eq 11, 3) := by decide +kernel
theorem dX4_shortHearths_13 : decode cX4_shortHearths 13 = .ok (.aload_n 0, 1) := by decide +kernel
theorem dX4_shortHearths_14 : decode cX4_shortHearths 14 = .ok (.iload_n 3, 1) := by decide +kernel
theorem dX4_shortHearths_15 : decode cX4_shortHearths 15 = .ok (.invokevirtual 180, 3) := by decide +kernel
theorem dX4_shortHearths_18 : decode cX4_shortHearths 18 = .ok (.goto 8, 3) := by decide +kernel
theorem dX4_shortHearths_21 : decode cX4_shortHearths 21 = .ok (.aload_n 0, 1) := by decide +kernel
theorem dX4_shortHearths_22 : decode cX4_shortHearths 22 = .ok (.iload_n 3, 1) := by decide +kernel
theorem dX4_shortHearths_23 : decode cX4_shortHearths 23 = .ok (.invokevirtual 183, 3) := by decide +kernel
theorem dX4_shortHearths_26 : decode cX4_shortHearths 26 = .ok (.istore 4, 2) := by decide +kernel
theorem dX4_shortHearths_28 : decode cX4_shortHearths 28 = .ok (.iload_n 2, 1) := by decide +kernel
theorem dX4_shortHearths_29 : decode cX4_shortHearths 29 = .ok (.iload 4, 2) := by decide +kernel
theorem dX4_shortHearths_31 : decode cX4_shortHearths 31 = .ok (.ifCond .le 7, 3) := by decide +kernel
theorem dX4_shortHearths_34 : decode cX4_shortHearths 34 = .ok (.iconst 1, 1) := by decide +kernel
theorem dX4_shortHearths_35 : decode cX4_shortHearths 35 = .ok (.goto 4, 3) := by decide +kernel
theorem dX4_shortHearths_38 : decode cX4_shortHearths 38 = .ok (.iconst 0, 1) := by decide +kernel
theorem dX4_shortHearths_39 : decode cX4_shortHearths 39 = .ok (.iadd, 1) := by decide +kernel
theorem dX4_shortHearths_40 : decode cX4_shortHearths 40 = .ok (.istore_n 2, 1) := by decide +kernel
theorem dX4_shortHearths_41 : decode cX4_shortHearths 41 = .ok (.iinc 3 1, 3) := by decide +kernel
theorem dX4_shortHearths_44 : decode cX4_shortHearths 44 = .ok (.goto (-40), 3) := by decide +kernel
theorem dX4_shortHearths_47 : decode cX4_shortHearths 47 = .ok (.iload_n 2, 1) := by decide +kernel
theorem dX4_shortHearths_48 : decode cX4_shortHearths 48 = .ok (.ireturn, 1) := by decide +kernel
set_option maxRecDepth 20000 in
theorem ggX4_tellsCount_X4_allWorkers : GoodIn wsX4_tellsCount wsX4_allWorkers := goodIn_r _ [7, 8, 9, 10, 6, 11, 12, 13, 14, 15, 1, 43, 44, 45, 46, 47, 48, 49, 50, 51, 52, 53, 54, 55, 56, 57] (by decide +kernel) (by decide +kernel)
set_option maxRecDepth 20000 in
theorem gX4_tellsCount_X4_allWorkers : GoodIn wsX4_tellsCount (wsV RX4 122 RX4 yX4_allWorkers wsX4_allWorkers) := goodIn_app (goodIn_of _ (by decide +kernel)) ggX4_tellsCount_X4_allWorkers
set_option maxRecDepth 20000 in
theorem ggX4_tellsCount_X4_sumOf : GoodIn wsX4_tellsCount wsX4_sumOf := goodIn_r _ [19, 1, 43, 44, 45, 46, 47, 48, 49, 50, 51, 52, 53, 54, 55, 56, 57] (by decide +kernel) (by decide +kernel)
set_option maxRecDepth 20000 in
theorem gX4_tellsCount_X4_sumOf : GoodIn wsX4_tellsCount (wsV RX4 205 RX4 yX4_sumOf wsX4_sumOf) := goodIn_app (goodIn_of _ (by decide +kernel)) ggX4_tellsCount_X4_sumOf
set_option maxRecDepth 20000 in
theorem ggX4_tellsCount_X4_shortHearths : GoodIn wsX4_tellsCount wsX4_shortHearths := goodIn_r _ [23, 24, 25, 26, 6, 27, 1, 28, 29, 30, 31, 32, 33, 34, 35, 36, 37, 38, 39, 40, 41, 42, 43, 44, 45, 46, 47, 48, 49, 50, 51, 52, 53, 54, 55, 56, 57] (by decide +kernel) (by decide +kernel)
set_option maxRecDepth 20000 in
theorem gX4_tellsCount_X4_shortHearths : GoodIn wsX4_tellsCount (wsV RX4 208 RX4 yX4_shortHearths wsX4_shortHearths) := goodIn_app (goodIn_of _ (by decide +kernel)) ggX4_tellsCount_X4_shortHearths
theorem dX4_tellsCount_0 : decode cX4_tellsCount 0 = .ok (.iload_n 1, 1) := by decide +kernel
theorem dX4_tellsCount_1 : decode cX4_tellsCount 1 = .ok (.tableswitch 139 0 11 #[63, 70, 77, 82, 90, 99, 107, 115, 121, 127, 127, 127], 63) := by decide +kernel
theorem dX4_tellsCount_64 : decode cX4_tellsCount 64 = .ok (.aload_n 0, 1) := by decide +kernel
theorem dX4_tellsCount_65 : decode cX4_tellsCount 65 = .ok (.getfield 7, 3) := by decide +kernel
theorem dX4_tellsCount_68 : decode cX4_tellsCount 68 = .ok (.iconst 0, 1) := by decide +kernel
theorem dX4_tellsCount_69 : decode cX4_tellsCount 69 = .ok (.iaload, 1) := by decide +kernel
theorem dX4_tellsCount_70 : decode cX4_tellsCount 70 = .ok (.ireturn, 1) := by decide +kernel
theorem dX4_tellsCount_71 : decode cX4_tellsCount 71 = .ok (.aload_n 0, 1) := by decide +kernel
theorem dX4_tellsCount_72 : decode cX4_tellsCount 72 = .ok (.getfield 7, 3) := by decide +kernel
theorem dX4_tellsCount_75 : decode cX4_tellsCount 75 = .ok (.iconst 1, 1) := by decide +kernel
theorem dX4_tellsCount_76 : decode cX4_tellsCount 76 = .ok (.iaload, 1) := by decide +kernel
theorem dX4_tellsCount_77 : decode cX4_tellsCount 77 = .ok (.ireturn, 1) := by decide +kernel
theorem dX4_tellsCount_78 : decode cX4_tellsCount 78 = .ok (.aload_n 0, 1) := by decide +kernel
theorem dX4_tellsCount_79 : decode cX4_tellsCount 79 = .ok (.invokevirtual 122, 3) := by decide +kernel
theorem dX4_tellsCount_82 : decode cX4_tellsCount 82 = .ok (.ireturn, 1) := by decide +kernel
theorem dX4_tellsCount_83 : decode cX4_tellsCount 83 = .ok (.aload_n 0, 1) := by decide +kernel
theorem dX4_tellsCount_84 : decode cX4_tellsCount 84 = .ok (.bipush 45, 2) := by decide +kernel
theorem dX4_tellsCount_86 : decode cX4_tellsCount 86 = .ok (.iconst 4, 1) := by decide +kernel
theorem dX4_tellsCount_87 : decode cX4_tellsCount 87 = .ok (.invokevirtual 205, 3) := by decide +kernel
theorem dX4_tellsCount_90 : decode cX4_tellsCount 90 = .ok (.ireturn, 1) := by decide +kernel
theorem dX4_tellsCount_91 : decode cX4_tellsCount 91 = .ok (.aload_n 0, 1) := by decide +kernel
theorem dX4_tellsCount_92 : decode cX4_tellsCount 92 = .ok (.bipush 73, 2) := by decide +kernel
theorem dX4_tellsCount_94 : decode cX4_tellsCount 94 = .ok (.bipush 60, 2) := by decide +kernel
theorem dX4_tellsCount_96 : decode cX4_tellsCount 96 = .ok (.invokevirtual 205, 3) := by decide +kernel
theorem dX4_tellsCount_99 : decode cX4_tellsCount 99 = .ok (.ireturn, 1) := by decide +kernel
theorem dX4_tellsCount_100 : decode cX4_tellsCount 100 = .ok (.aload_n 0, 1) := by decide +kernel
theorem dX4_tellsCount_101 : decode cX4_tellsCount 101 = .ok (.bipush 15, 2) := by decide +kernel
theorem dX4_tellsCount_103 : decode cX4_tellsCount 103 = .ok (.iconst 5, 1) := by decide +kernel
theorem dX4_tellsCount_104 : decode cX4_tellsCount 104 = .ok (.invokevirtual 205, 3) := by decide +kernel
theorem dX4_tellsCount_107 : decode cX4_tellsCount 107 = .ok (.ireturn, 1) := by decide +kernel
theorem dX4_tellsCount_108 : decode cX4_tellsCount 108 = .ok (.aload_n 0, 1) := by decide +kernel
theorem dX4_tellsCount_109 : decode cX4_tellsCount 109 = .ok (.bipush 35, 2) := by decide +kernel
theorem dX4_tellsCount_111 : decode cX4_tellsCount 111 = .ok (.iconst 5, 1) := by decide +kernel
theorem dX4_tellsCount_112 : decode cX4_tellsCount 112 = .ok (.invokevirtual 205, 3) := by decide +kernel
theorem dX4_tellsCount_115 : decode cX4_tellsCount 115 = .ok (.ireturn, 1) := by decide +kernel
theorem dX4_tellsCount_116 : decode cX4_tellsCount 116 = .ok (.aload_n 0, 1) := by decide +kernel
theorem dX4_tellsCount_117 : decode cX4_tellsCount 117 = .ok (.iconst 1, 1) := by decide +kernel
theorem dX4_tellsCount_118 : decode cX4_tellsCount 118 = .ok (.invokevirtual 208, 3) := by decide +kernel
theorem dX4_tellsCount_121 : decode cX4_tellsCount 121 = .ok (.ireturn, 1) := by decide +kernel
theorem dX4_tellsCount_122 : decode cX4_tellsCount 122 = .ok (.aload_n 0, 1) := by decide +kernel
theorem dX4_tellsCount_123 : decode cX4_tellsCount 123 = .ok (.iconst 0, 1) := by decide +kernel
theorem dX4_tellsCount_124 : decode cX4_tellsCount 124 = .ok (.invokevirtual 208, 3) := by decide +kernel
theorem dX4_tellsCount_127 : decode cX4_tellsCount 127 = .ok (.ireturn, 1) := by decide +kernel
theorem dX4_tellsCount_128 : decode cX4_tellsCount 128 = .ok (.aload_n 0, 1) := by decide +kernel
theorem dX4_tellsCount_129 : decode cX4_tellsCount 129 = .ok (.getfield 7, 3) := by decide +kernel
theorem dX4_tellsCount_132 : decode cX4_tellsCount 132 = .ok (.iconst 2, 1) := by decide +kernel
theorem dX4_tellsCount_133 : decode cX4_tellsCount 133 = .ok (.iload_n 1, 1) := by decide +kernel
theorem dX4_tellsCount_134 : decode cX4_tellsCount 134 = .ok (.iadd, 1) := by decide +kernel
theorem dX4_tellsCount_135 : decode cX4_tellsCount 135 = .ok (.bipush 9, 2) := by decide +kernel
theorem dX4_tellsCount_137 : decode cX4_tellsCount 137 = .ok (.isub, 1) := by decide +kernel
theorem dX4_tellsCount_138 : decode cX4_tellsCount 138 = .ok (.iaload, 1) := by decide +kernel
theorem dX4_tellsCount_139 : decode cX4_tellsCount 139 = .ok (.ireturn, 1) := by decide +kernel
theorem dX4_tellsCount_140 : decode cX4_tellsCount 140 = .ok (.aload_n 0, 1) := by decide +kernel
theorem dX4_tellsCount_141 : decode cX4_tellsCount 141 = .ok (.getfield 33, 3) := by decide +kernel
theorem dX4_tellsCount_144 : decode cX4_tellsCount 144 = .ok (.ireturn, 1) := by decide +kernel
set_option maxRecDepth 20000 in
theorem ggX4_count_X4_within : GoodIn wsX4_count wsX4_within := goodIn_r _ [5] (by decide +kernel) (by decide +kernel)
set_option maxRecDepth 20000 in
theorem gX4_count_X4_within : GoodIn wsX4_count (va_wsS RX4 29 yX4_within wsX4_within) := goodIn_app (goodIn_of _ (by decide +kernel)) ggX4_count_X4_within
set_option maxRecDepth 20000 in
theorem ggX4_count_X4_tellsCount : GoodIn wsX4_count wsX4_tellsCount := goodIn_r _ [9, 10, 11, 12, 13, 14, 4, 15, 16, 17, 18, 19, 20, 21, 22, 23, 24, 25, 26, 27, 28, 29, 30, 31, 32, 33, 34, 35, 36, 37, 38, 39, 40, 41, 42, 43, 44, 45, 46, 47, 48, 49, 50, 55, 56, 57, 58, 59, 60, 61, 62, 63, 64, 65, 66, 67, 68, 69] (by decide +kernel) (by decide +kernel)
set_option maxRecDepth 20000 in
theorem gX4_count_X4_tellsCount : GoodIn wsX4_count (wsV RX4 212 RX4 yX4_tellsCount wsX4_tellsCount) := goodIn_app (goodIn_of _ (by decide +kernel)) ggX4_count_X4_tellsCount
set_option maxRecDepth 20000 in
theorem ggX4_count_X4_fails : GoodIn wsX4_count wsX4_fails := goodIn_r _ [54, 1, 55, 56, 57, 58, 59, 60, 61, 62, 63, 64, 65, 66, 67, 68, 69] (by decide +kernel) (by decide +kernel)
set_option maxRecDepth 20000 in
theorem gX4_count_X4_fails : GoodIn wsX4_count (wsV RX4 36 RX4 yX4_fails wsX4_fails) := goodIn_app (goodIn_of _ (by decide +kernel)) ggX4_count_X4_fails
theorem dX4_count_0 : decode cX4_count 0 = .ok (.aload_n 0, 1) := by decide +kernel
theorem dX4_count_1 : decode cX4_count 1 = .ok (.iconst 0, 1) := by decide +kernel
theorem dX4_count_2 : decode cX4_count 2 = .ok (.putfield 25, 3) := by decide +kernel
theorem dX4_count_5 : decode cX4_count 5 = .ok (.iload_n 1, 1) := by decide +kernel
theorem dX4_count_6 : decode cX4_count 6 = .ok (.iconst 0, 1) := by decide +kernel
theorem dX4_count_7 : decode cX4_count 7 = .ok (.bipush 12, 2) := by decide +kernel
theorem dX4_count_9 : decode cX4_count 9 = .ok (.invokestatic 29, 3) := by decide +kernel
theorem dX4_count_12 : decode cX4_count 12 = .ok (.ifCond .eq 11, 3) := by decide +kernel
theorem dX4_count_15 : decode cX4_count 15 = .ok (.aload_n 0, 1) := by decide +kernel
theorem dX4_count_16 : decode cX4_count 16 = .ok (.iload_n 1, 1) := by decide +kernel
theorem dX4_count_17 : decode cX4_count 17 = .ok (.invokevirtual 212, 3) := by decide +kernel
theorem dX4_count_20 : decode cX4_count 20 = .ok (.goto 8, 3) := by decide +kernel
theorem dX4_count_23 : decode cX4_count 23 = .ok (.aload_n 0, 1) := by decide +kernel
theorem dX4_count_24 : decode cX4_count 24 = .ok (.iconst 1, 1) := by decide +kernel
theorem dX4_count_25 : decode cX4_count 25 = .ok (.invokevirtual 36, 3) := by decide +kernel
theorem dX4_count_28 : decode cX4_count 28 = .ok (.ireturn, 1) := by decide +kernel
set_option maxRecDepth 20000 in
theorem ggX4_whyNot_X4_isCutter : GoodIn wsX4_whyNot wsX4_isCutter := goodIn_r _ [5, 6, 7, 4, 8] (by decide +kernel) (by decide +kernel)
set_option maxRecDepth 20000 in
theorem gX4_whyNot_X4_isCutter : GoodIn wsX4_whyNot (va_wsS RX4 116 yX4_isCutter wsX4_isCutter) := goodIn_app (goodIn_of _ (by decide +kernel)) ggX4_whyNot_X4_isCutter
set_option maxRecDepth 20000 in
theorem ggX4_whyNot_X4_isHearth : GoodIn wsX4_whyNot wsX4_isHearth := goodIn_r _ [11, 6, 7, 4, 8] (by decide +kernel) (by decide +kernel)
set_option maxRecDepth 20000 in
theorem gX4_whyNot_X4_isHearth : GoodIn wsX4_whyNot (va_wsS RX4 109 yX4_isHearth wsX4_isHearth) := goodIn_app (goodIn_of _ (by decide +kernel)) ggX4_whyNot_X4_isHearth
set_option maxRecDepth 20000 in
theorem ggX4_whyNot_X4_isBank : GoodIn wsX4_whyNot wsX4_isBank := goodIn_r _ [14, 6, 7, 4, 8] (by decide +kernel) (by decide +kernel)
set_option maxRecDepth 20000 in
theorem gX4_whyNot_X4_isBank : GoodIn wsX4_whyNot (va_wsS RX4 113 yX4_isBank wsX4_isBank) := goodIn_app (goodIn_of _ (by decide +kernel)) ggX4_whyNot_X4_isBank
set_option maxRecDepth 20000 in
theorem ggX4_whyNot_X4_reason : GoodIn wsX4_whyNot wsX4_reason := goodIn_r _ [18, 19, 20, 21, 22, 4, 23, 24, 25, 26, 27, 28, 29, 30, 31, 36, 37, 38, 39, 40, 41, 42, 43, 44, 45, 46, 47, 48, 49, 50] (by decide +kernel) (by decide +kernel)
set_option maxRecDepth 20000 in
theorem gX4_whyNot_X4_reason : GoodIn wsX4_whyNot (wsV RX4 119 RX4 yX4_reason wsX4_reason) := goodIn_app (goodIn_of _ (by decide +kernel)) ggX4_whyNot_X4_reason
set_option maxRecDepth 20000 in
theorem ggX4_whyNot_X4_fails : GoodIn wsX4_whyNot wsX4_fails := goodIn_r _ [35, 1, 36, 37, 38, 39, 40, 41, 42, 43, 44, 45, 46, 47, 48, 49, 50] (by decide +kernel) (by decide +kernel)
set_option maxRecDepth 20000 in
theorem gX4_whyNot_X4_fails : GoodIn wsX4_whyNot (wsV RX4 36 RX4 yX4_fails wsX4_fails) := goodIn_app (goodIn_of _ (by decide +kernel)) ggX4_whyNot_X4_fails
theorem dX4_whyNot_0 : decode cX4_whyNot 0 = .ok (.aload_n 0, 1) := by decide +kernel
theorem dX4_whyNot_1 : decode cX4_whyNot 1 = .ok (.iconst 0, 1) := by decide +kernel
theorem dX4_whyNot_2 : decode cX4_whyNot 2 = .ok (.putfield 25, 3) := by decide +kernel
theorem dX4_whyNot_5 : decode cX4_whyNot 5 = .ok (.iload_n 1, 1) := by decide +kernel
theorem dX4_whyNot_6 : decode cX4_whyNot 6 = .ok (.invokestatic 116, 3) := by decide +kernel
theorem dX4_whyNot_9 : decode cX4_whyNot 9 = .ok (.ifCond .eq 26, 3) := by decide +kernel
theorem dX4_whyNot_12 : decode cX4_whyNot 12 = .ok (.iload_n 2, 1) := by decide +kernel
theorem dX4_whyNot_13 : decode cX4_whyNot 13 = .ok (.invokestatic 109, 3) := by decide +kernel
theorem dX4_whyNot_16 : decode cX4_whyNot 16 = .ok (.ifCond .eq 19, 3) := by decide +kernel
theorem dX4_whyNot_19 : decode cX4_whyNot 19 = .ok (.iload_n 3, 1) := by decide +kernel
theorem dX4_whyNot_20 : decode cX4_whyNot 20 = .ok (.invokestatic 113, 3) := by decide +kernel
theorem dX4_whyNot_23 : decode cX4_whyNot 23 = .ok (.ifCond .eq 12, 3) := by decide +kernel
theorem dX4_whyNot_26 : decode cX4_whyNot 26 = .ok (.aload_n 0, 1) := by decide +kernel
theorem dX4_whyNot_27 : decode cX4_whyNot 27 = .ok (.iload_n 2, 1) := by decide +kernel
theorem dX4_whyNot_28 : decode cX4_whyNot 28 = .ok (.iload_n 3, 1) := by decide +kernel
theorem dX4_whyNot_29 : decode cX4_whyNot 29 = .ok (.invokevirtual 119, 3) := by decide +kernel
theorem dX4_whyNot_32 : decode cX4_whyNot 32 = .ok (.goto 8, 3) := by decide +kernel
theorem dX4_whyNot_35 : decode cX4_whyNot 35 = .ok (.aload_n 0, 1) := by decide +kernel
theorem dX4_whyNot_36 : decode cX4_whyNot 36 = .ok (.iconst 1, 1) := by decide +kernel
theorem dX4_whyNot_37 : decode cX4_whyNot 37 = .ok (.invokevirtual 36, 3) := by decide +kernel
theorem dX4_whyNot_40 : decode cX4_whyNot 40 = .ok (.ireturn, 1) := by decide +kernel
set_option maxRecDepth 20000 in
theorem ggX4_wouldPass_X4_putAside : GoodIn wsX4_wouldPass wsX4_putAside := goodIn_r _ [5, 6, 7, 84, 85, 86, 87, 88, 89, 90, 91, 92, 93, 94, 95, 96, 97, 98] (by decide +kernel) (by decide +kernel)
set_option maxRecDepth 20000 in
theorem gX4_wouldPass_X4_putAside : GoodIn wsX4_wouldPass (wsV RX4 215 RX4 yX4_putAside wsX4_putAside) := goodIn_app (goodIn_of _ (by decide +kernel)) ggX4_wouldPass_X4_putAside
set_option maxRecDepth 20000 in
theorem ggX4_wouldPass_X4_sumOf : GoodIn wsX4_wouldPass wsX4_sumOf := goodIn_r _ [11, 7, 84, 85, 86, 87, 88, 89, 90, 91, 92, 93, 94, 95, 96, 97, 98] (by decide +kernel) (by decide +kernel)
set_option maxRecDepth 20000 in
theorem gX4_wouldPass_X4_sumOf : GoodIn wsX4_wouldPass (wsV RX4 205 RX4 yX4_sumOf wsX4_sumOf) := goodIn_app (goodIn_of _ (by decide +kernel)) ggX4_wouldPass_X4_sumOf
set_option maxRecDepth 20000 in
theorem ggX4_wouldPass_X4_passes : GoodIn wsX4_wouldPass wsX4_passes := goodIn_r _ [15, 16, 17, 18, 4, 19, 7, 20, 21, 22, 23, 24, 25, 26, 27, 28, 29, 30, 31, 32, 33, 34, 35, 36, 37, 38, 39, 40, 41, 42, 43, 44, 45, 46, 47, 48, 49, 50, 51, 52, 53, 54, 55, 56, 84, 85, 86, 87, 88, 89, 90, 91, 92, 93, 94, 95, 96, 97, 98] (by decide +kernel) (by decide +kernel)
set_option maxRecDepth 20000 in
theorem gX4_wouldPass_X4_passes : GoodIn wsX4_wouldPass (wsV RX4 128 RX4 yX4_passes wsX4_passes) := goodIn_app (goodIn_of _ (by decide +kernel)) ggX4_wouldPass_X4_passes
set_option maxRecDepth 20000 in
theorem ggX4_wouldPass_X4_shortHearths : GoodIn wsX4_wouldPass wsX4_shortHearths := goodIn_r _ [60, 61, 62, 63, 4, 64, 7, 65, 66, 67, 68, 69, 70, 71, 72, 73, 74, 75, 76, 77, 78, 79, 84, 85, 86, 87, 88, 89, 90, 91, 92, 93, 94, 95, 96, 97, 98] (by decide +kernel) (by decide +kernel)
set_option maxRecDepth 20000 in
theorem gX4_wouldPass_X4_shortHearths : GoodIn wsX4_wouldPass (wsV RX4 208 RX4 yX4_shortHearths wsX4_shortHearths) := goodIn_app (goodIn_of _ (by decide +kernel)) ggX4_wouldPass_X4_shortHearths
set_option maxRecDepth 20000 in
theorem ggX4_wouldPass_X4_takeBack : GoodIn wsX4_wouldPass wsX4_takeBack := goodIn_r _ [83, 7, 6, 84, 85, 86, 87, 88, 89, 90, 91, 92, 93, 94, 95, 96, 97, 98] (by decide +kernel) (by decide +kernel)
set_option maxRecDepth 20000 in
theorem gX4_wouldPass_X4_takeBack : GoodIn wsX4_wouldPass (wsV RX4 218 RX4 yX4_takeBack wsX4_takeBack) := goodIn_app (goodIn_of _ (by decide +kernel)) ggX4_wouldPass_X4_takeBack
theorem dX4_wouldPass_0 : decode cX4_wouldPass 0 = .ok (.aload_n 0, 1) := by decide +kernel
theorem dX4_wouldPass_1 : decode cX4_wouldPass 1 = .ok (.invokevirtual 215, 3) := by decide +kernel
theorem dX4_wouldPass_4 : decode cX4_wouldPass 4 = .ok (.aload_n 0, 1) := by decide +kernel
theorem dX4_wouldPass_5 : decode cX4_wouldPass 5 = .ok (.bipush 40, 2) := by decide +kernel
theorem dX4_wouldPass_7 : decode cX4_wouldPass 7 = .ok (.iconst 5, 1) := by decide +kernel
theorem dX4_wouldPass_8 : decode cX4_wouldPass 8 = .ok (.invokevirtual 205, 3) := by decide +kernel
theorem dX4_wouldPass_11 : decode cX4_wouldPass 11 = .ok (.istore_n 3, 1) := by decide +kernel
theorem dX4_wouldPass_12 : decode cX4_wouldPass 12 = .ok (.aload_n 0, 1) := by decide +kernel
theorem dX4_wouldPass_13 : decode cX4_wouldPass 13 = .ok (.iload_n 1, 1) := by decide +kernel
theorem dX4_wouldPass_14 : decode cX4_wouldPass 14 = .ok (.invokevirtual 128, 3) := by decide +kernel
theorem dX4_wouldPass_17 : decode cX4_wouldPass 17 = .ok (.istore 4, 2) := by decide +kernel
theorem dX4_wouldPass_19 : decode cX4_wouldPass 19 = .ok (.iload_n 2, 1) := by decide +kernel
theorem dX4_wouldPass_20 : decode cX4_wouldPass 20 = .ok (.ifCond .ne 8, 3) := by decide +kernel
theorem dX4_wouldPass_23 : decode cX4_wouldPass 23 = .ok (.iload 4, 2) := by decide +kernel
theorem dX4_wouldPass_25 : decode cX4_wouldPass 25 = .ok (.goto 25, 3) := by decide +kernel
theorem dX4_wouldPass_28 : decode cX4_wouldPass 28 = .ok (.iload_n 2, 1) := by decide +kernel
theorem dX4_wouldPass_29 : decode cX4_wouldPass 29 = .ok (.iconst 1, 1) := by decide +kernel
theorem dX4_wouldPass_30 : decode cX4_wouldPass 30 = .ok (.if_icmp .ne 11, 3) := by decide +kernel
theorem dX4_wouldPass_33 : decode cX4_wouldPass 33 = .ok (.aload_n 0, 1) := by decide +kernel
theorem dX4_wouldPass_34 : decode cX4_wouldPass 34 = .ok (.iconst 1, 1) := by decide +kernel
theorem dX4_wouldPass_35 : decode cX4_wouldPass 35 = .ok (.invokevirtual 208, 3) := by decide +kernel
theorem dX4_wouldPass_38 : decode cX4_wouldPass 38 = .ok (.goto 12, 3) := by decide +kernel
theorem dX4_wouldPass_41 : decode cX4_wouldPass 41 = .ok (.aload_n 0, 1) := by decide +kernel
theorem dX4_wouldPass_42 : decode cX4_wouldPass 42 = .ok (.bipush 40, 2) := by decide +kernel
theorem dX4_wouldPass_44 : decode cX4_wouldPass 44 = .ok (.iconst 5, 1) := by decide +kernel
theorem dX4_wouldPass_45 : decode cX4_wouldPass 45 = .ok (.invokevirtual 205, 3) := by decide +kernel
theorem dX4_wouldPass_48 : decode cX4_wouldPass 48 = .ok (.iload_n 3, 1) := by decide +kernel
theorem dX4_wouldPass_49 : decode cX4_wouldPass 49 = .ok (.isub, 1) := by decide +kernel
theorem dX4_wouldPass_50 : decode cX4_wouldPass 50 = .ok (.istore 5, 2) := by decide +kernel
theorem dX4_wouldPass_52 : decode cX4_wouldPass 52 = .ok (.aload_n 0, 1) := by decide +kernel
theorem dX4_wouldPass_53 : decode cX4_wouldPass 53 = .ok (.invokevirtual 218, 3) := by decide +kernel
theorem dX4_wouldPass_56 : decode cX4_wouldPass 56 = .ok (.iload 5, 2) := by decide +kernel
theorem dX4_wouldPass_58 : decode cX4_wouldPass 58 = .ok (.ireturn, 1) := by decide +kernel
set_option maxRecDepth 20000 in
theorem ggX4_ifPassed_X4_within : GoodIn wsX4_ifPassed wsX4_within := goodIn_r _ [5] (by decide +kernel) (by decide +kernel)
set_option maxRecDepth 20000 in
theorem gX4_ifPassed_X4_within : GoodIn wsX4_ifPassed (va_wsS RX4 29 yX4_within wsX4_within) := goodIn_app (goodIn_of _ (by decide +kernel)) ggX4_ifPassed_X4_within
set_option maxRecDepth 20000 in
theorem ggX4_ifPassed_X4_wouldPass : GoodIn wsX4_ifPassed wsX4_wouldPass := goodIn_r _ [9, 10, 11, 12, 4, 13, 14, 15, 16, 17, 18, 19, 20, 21, 22, 23, 24, 25, 26, 27, 28, 29, 30, 31, 32, 33, 34, 35, 36, 37, 38, 39, 40, 41, 42, 43, 44, 45, 46, 47, 48, 49, 50, 51, 52, 53, 54, 55, 56, 57, 58, 59, 60, 61, 62, 63, 64, 65, 66, 67, 68, 69, 70, 71, 72, 73, 74, 75, 76, 77, 78, 79, 80, 81, 82, 83, 84, 85, 86, 87, 88, 89, 90, 91, 96, 97, 98, 99, 100, 101, 102, 103, 104, 105, 106, 107, 108, 109, 110] (by decide +kernel) (by decide +kernel)
set_option maxRecDepth 20000 in
theorem gX4_ifPassed_X4_wouldPass : GoodIn wsX4_ifPassed (wsV RX4 221 RX4 yX4_wouldPass wsX4_wouldPass) := goodIn_app (goodIn_of _ (by decide +kernel)) ggX4_ifPassed_X4_wouldPass
set_option maxRecDepth 20000 in
theorem ggX4_ifPassed_X4_fails : GoodIn wsX4_ifPassed wsX4_fails := goodIn_r _ [95, 1, 96, 97, 98, 99, 100, 101, 102, 103, 104, 105, 106, 107, 108, 109, 110] (by decide +kernel) (by decide +kernel)
set_option maxRecDepth 20000 in
theorem gX4_ifPassed_X4_fails : GoodIn wsX4_ifPassed (wsV RX4 36 RX4 yX4_fails wsX4_fails) := goodIn_app (goodIn_of _ (by decide +kernel)) ggX4_ifPassed_X4_fails
theorem dX4_ifPassed_0 : decode cX4_ifPassed 0 = .ok (.aload_n 0, 1) := by decide +kernel
theorem dX4_ifPassed_1 : decode cX4_ifPassed 1 = .ok (.iconst 0, 1) := by decide +kernel
theorem dX4_ifPassed_2 : decode cX4_ifPassed 2 = .ok (.putfield 25, 3) := by decide +kernel
theorem dX4_ifPassed_5 : decode cX4_ifPassed 5 = .ok (.iload_n 1, 1) := by decide +kernel
theorem dX4_ifPassed_6 : decode cX4_ifPassed 6 = .ok (.iconst 1, 1) := by decide +kernel
theorem dX4_ifPassed_7 : decode cX4_ifPassed 7 = .ok (.bipush 60, 2) := by decide +kernel
theorem dX4_ifPassed_9 : decode cX4_ifPassed 9 = .ok (.invokestatic 29, 3) := by decide +kernel
theorem dX4_ifPassed_12 : decode cX4_ifPassed 12 = .ok (.ifCond .eq 21, 3) := by decide +kernel
theorem dX4_ifPassed_15 : decode cX4_ifPassed 15 = .ok (.iload_n 2, 1) := by decide +kernel
theorem dX4_ifPassed_16 : decode cX4_ifPassed 16 = .ok (.iconst 0, 1) := by decide +kernel
theorem dX4_ifPassed_17 : decode cX4_ifPassed 17 = .ok (.iconst 2, 1) := by decide +kernel
theorem dX4_ifPassed_18 : decode cX4_ifPassed 18 = .ok (.invokestatic 29, 3) := by decide +kernel
theorem dX4_ifPassed_21 : decode cX4_ifPassed 21 = .ok (.ifCond .eq 12, 3) := by decide +kernel
theorem dX4_ifPassed_24 : decode cX4_ifPassed 24 = .ok (.aload_n 0, 1) := by decide +kernel
theorem dX4_ifPassed_25 : decode cX4_ifPassed 25 = .ok (.iload_n 1, 1) := by decide +kernel
theorem dX4_ifPassed_26 : decode cX4_ifPassed 26 = .ok (.iload_n 2, 1) := by decide +kernel
theorem dX4_ifPassed_27 : decode cX4_ifPassed 27 = .ok (.invokevirtual 221, 3) := by decide +kernel
theorem dX4_ifPassed_30 : decode cX4_ifPassed 30 = .ok (.goto 8, 3) := by decide +kernel
theorem dX4_ifPassed_33 : decode cX4_ifPassed 33 = .ok (.aload_n 0, 1) := by decide +kernel
theorem dX4_ifPassed_34 : decode cX4_ifPassed 34 = .ok (.iconst 1, 1) := by decide +kernel
theorem dX4_ifPassed_35 : decode cX4_ifPassed 35 = .ok (.invokevirtual 36, 3) := by decide +kernel
theorem dX4_ifPassed_38 : decode cX4_ifPassed 38 = .ok (.ireturn, 1) := by decide +kernel
set_option maxRecDepth 20000 in
theorem ggX4_daysUntil_X4_putAside : GoodIn wsX4_daysUntil wsX4_putAside := goodIn_r _ [5, 6, 7, 60, 61, 62, 63, 64, 65, 66, 67, 68, 69, 70, 71, 72, 73, 74] (by decide +kernel) (by decide +kernel)
set_option maxRecDepth 20000 in
theorem gX4_daysUntil_X4_putAside : GoodIn wsX4_daysUntil (wsV RX4 215 RX4 yX4_putAside wsX4_putAside) := goodIn_app (goodIn_of _ (by decide +kernel)) ggX4_daysUntil_X4_putAside
set_option maxRecDepth 20000 in
theorem ggX4_daysUntil_X4_shortNow : GoodIn wsX4_daysUntil wsX4_shortNow := goodIn_r _ [11, 7, 12, 13, 4, 14, 60, 61, 62, 63, 64, 65, 66, 67, 68, 69, 70, 71, 72, 73, 74] (by decide +kernel) (by decide +kernel)
set_option maxRecDepth 20000 in
theorem gX4_daysUntil_X4_shortNow : GoodIn wsX4_daysUntil (wsV RX4 180 RX4 yX4_shortNow wsX4_shortNow) := goodIn_app (goodIn_of _ (by decide +kernel)) ggX4_daysUntil_X4_shortNow
set_option maxRecDepth 20000 in
theorem ggX4_daysUntil_X4_passOne : GoodIn wsX4_daysUntil wsX4_passOne := goodIn_r _ [18, 7, 19, 20, 21, 4, 22, 23, 24, 25, 26, 27, 28, 29, 30, 31, 32, 33, 34, 35, 36, 37, 38, 39, 40, 41, 42, 43, 44, 45, 46, 47, 48, 49, 50, 51, 52, 53, 54, 55, 60, 61, 62, 63, 64, 65, 66, 67, 68, 69, 70, 71, 72, 73, 74] (by decide +kernel) (by decide +kernel)
set_option maxRecDepth 20000 in
theorem gX4_daysUntil_X4_passOne : GoodIn wsX4_daysUntil (wsV RX4 82 RX4 yX4_passOne wsX4_passOne) := goodIn_app (goodIn_of _ (by decide +kernel)) ggX4_daysUntil_X4_passOne
set_option maxRecDepth 20000 in
theorem ggX4_daysUntil_X4_takeBack : GoodIn wsX4_daysUntil wsX4_takeBack := goodIn_r _ [59, 7, 6, 60, 61, 62, 63, 64, 65, 66, 67, 68, 69, 70, 71, 72, 73, 74] (by decide +kernel) (by decide +kernel)
set_option maxRecDepth 20000 in
theorem gX4_daysUntil_X4_takeBack : GoodIn wsX4_daysUntil (wsV RX4 218 RX4 yX4_takeBack wsX4_takeBack) := goodIn_app (goodIn_of _ (by decide +kernel)) ggX4_daysUntil_X4_takeBack
theorem dX4_daysUntil_0 : decode cX4_daysUntil 0 = .ok (.aload_n 0, 1) := by decide +kernel
theorem dX4_daysUntil_1 : decode cX4_daysUntil 1 = .ok (.invokevirtual 215, 3) := by decide +kernel
theorem dX4_daysUntil_4 : decode cX4_daysUntil 4 = .ok (.iconst 0, 1) := by decide +kernel
theorem dX4_daysUntil_5 : decode cX4_daysUntil 5 = .ok (.istore_n 2, 1) := by decide +kernel
theorem dX4_daysUntil_6 : decode cX4_daysUntil 6 = .ok (.iload_n 2, 1) := by decide +kernel
theorem dX4_daysUntil_7 : decode cX4_daysUntil 7 = .ok (.sipush 200, 3) := by decide +kernel
theorem dX4_daysUntil_10 : decode cX4_daysUntil 10 = .ok (.if_icmp .gt 22, 3) := by decide +kernel
theorem dX4_daysUntil_13 : decode cX4_daysUntil 13 = .ok (.aload_n 0, 1) := by decide +kernel
theorem dX4_daysUntil_14 : decode cX4_daysUntil 14 = .ok (.iload_n 1, 1) := by decide +kernel
theorem dX4_daysUntil_15 : decode cX4_daysUntil 15 = .ok (.invokevirtual 180, 3) := by decide +kernel
theorem dX4_daysUntil_18 : decode cX4_daysUntil 18 = .ok (.ifCond .le 14, 3) := by decide +kernel
theorem dX4_daysUntil_21 : decode cX4_daysUntil 21 = .ok (.aload_n 0, 1) := by decide +kernel
theorem dX4_daysUntil_22 : decode cX4_daysUntil 22 = .ok (.invokevirtual 82, 3) := by decide +kernel
theorem dX4_daysUntil_25 : decode cX4_daysUntil 25 = .ok (.pop, 1) := by decide +kernel
theorem dX4_daysUntil_26 : decode cX4_daysUntil 26 = .ok (.iinc 2 1, 3) := by decide +kernel
theorem dX4_daysUntil_29 : decode cX4_daysUntil 29 = .ok (.goto (-23), 3) := by decide +kernel
theorem dX4_daysUntil_32 : decode cX4_daysUntil 32 = .ok (.aload_n 0, 1) := by decide +kernel
theorem dX4_daysUntil_33 : decode cX4_daysUntil 33 = .ok (.invokevirtual 218, 3) := by decide +kernel
theorem dX4_daysUntil_36 : decode cX4_daysUntil 36 = .ok (.iload_n 2, 1) := by decide +kernel
theorem dX4_daysUntil_37 : decode cX4_daysUntil 37 = .ok (.sipush 200, 3) := by decide +kernel
theorem dX4_daysUntil_40 : decode cX4_daysUntil 40 = .ok (.if_icmp .le 7, 3) := by decide +kernel
theorem dX4_daysUntil_43 : decode cX4_daysUntil 43 = .ok (.iconst (-1), 1) := by decide +kernel
theorem dX4_daysUntil_44 : decode cX4_daysUntil 44 = .ok (.goto 4, 3) := by decide +kernel
theorem dX4_daysUntil_47 : decode cX4_daysUntil 47 = .ok (.iload_n 2, 1) := by decide +kernel
theorem dX4_daysUntil_48 : decode cX4_daysUntil 48 = .ok (.ireturn, 1) := by decide +kernel
set_option maxRecDepth 20000 in
theorem ggX4_enoughIn_X4_isHearth : GoodIn wsX4_enoughIn wsX4_isHearth := goodIn_r _ [5, 6, 7, 4, 8] (by decide +kernel) (by decide +kernel)
set_option maxRecDepth 20000 in
theorem gX4_enoughIn_X4_isHearth : GoodIn wsX4_enoughIn (va_wsS RX4 109 yX4_isHearth wsX4_isHearth) := goodIn_app (goodIn_of _ (by decide +kernel)) ggX4_enoughIn_X4_isHearth
set_option maxRecDepth 20000 in
theorem ggX4_enoughIn_X4_daysUntil : GoodIn wsX4_enoughIn wsX4_daysUntil := goodIn_r _ [12, 13, 14, 15, 4, 16, 17, 18, 19, 20, 21, 22, 23, 24, 25, 26, 27, 28, 29, 30, 31, 32, 33, 34, 35, 36, 37, 38, 39, 40, 41, 42, 43, 44, 45, 46, 47, 48, 49, 50, 51, 52, 53, 54, 55, 56, 57, 58, 59, 60, 61, 62, 63, 64, 65, 66, 67, 68, 69, 70, 75, 76, 77, 78, 79, 80, 81, 82, 83, 84, 85, 86, 87, 88, 89] (by decide +kernel) (by decide +kernel)
set_option maxRecDepth 20000 in
theorem gX4_enoughIn_X4_daysUntil : GoodIn wsX4_enoughIn (wsV RX4 224 RX4 yX4_daysUntil wsX4_daysUntil) := goodIn_app (goodIn_of _ (by decide +kernel)) ggX4_enoughIn_X4_daysUntil
set_option maxRecDepth 20000 in
theorem ggX4_enoughIn_X4_fails : GoodIn wsX4_enoughIn wsX4_fails := goodIn_r _ [74, 1, 75, 76, 77, 78, 79, 80, 81, 82, 83, 84, 85, 86, 87, 88, 89] (by decide +kernel) (by decide +kernel)
set_option maxRecDepth 20000 in
theorem gX4_enoughIn_X4_fails : GoodIn wsX4_enoughIn (wsV RX4 36 RX4 yX4_fails wsX4_fails) := goodIn_app (goodIn_of _ (by decide +kernel)) ggX4_enoughIn_X4_fails
theorem dX4_enoughIn_0 : decode cX4_enoughIn 0 = .ok (.aload_n 0, 1) := by decide +kernel
theorem dX4_enoughIn_1 : decode cX4_enoughIn 1 = .ok (.iconst 0, 1) := by decide +kernel
theorem dX4_enoughIn_2 : decode cX4_enoughIn 2 = .ok (.putfield 25, 3) := by decide +kernel
theorem dX4_enoughIn_5 : decode cX4_enoughIn 5 = .ok (.iload_n 1, 1) := by decide +kernel
theorem dX4_enoughIn_6 : decode cX4_enoughIn 6 = .ok (.invokestatic 109, 3) := by decide +kernel
theorem dX4_enoughIn_9 : decode cX4_enoughIn 9 = .ok (.ifCond .eq 11, 3) := by decide +kernel
theorem dX4_enoughIn_12 : decode cX4_enoughIn 12 = .ok (.aload_n 0, 1) := by decide +kernel
theorem dX4_enoughIn_13 : decode cX4_enoughIn 13 = .ok (.iload_n 1, 1) := by decide +kernel
theorem dX4_enoughIn_14 : decode cX4_enoughIn 14 = .ok (.invokevirtual 224, 3) := by decide +kernel
theorem dX4_enoughIn_17 : decode cX4_enoughIn 17 = .ok (.goto 8, 3) := by decide +kernel
theorem dX4_enoughIn_20 : decode cX4_enoughIn 20 = .ok (.aload_n 0, 1) := by decide +kernel
theorem dX4_enoughIn_21 : decode cX4_enoughIn 21 = .ok (.iconst 1, 1) := by decide +kernel
theorem dX4_enoughIn_22 : decode cX4_enoughIn 22 = .ok (.invokevirtual 36, 3) := by decide +kernel
theorem dX4_enoughIn_25 : decode cX4_enoughIn 25 = .ok (.ireturn, 1) := by decide +kernel
set_option maxRecDepth 20000 in
theorem ggX4_homeWith_X4_putAside : GoodIn wsX4_homeWith wsX4_putAside := goodIn_r _ [6, 7, 1, 61, 62, 63, 64, 65, 66, 67, 68, 69, 70, 71, 72, 73, 74, 75] (by decide +kernel) (by decide +kernel)
set_option maxRecDepth 20000 in
theorem gX4_homeWith_X4_putAside : GoodIn wsX4_homeWith (wsV RX4 215 RX4 yX4_putAside wsX4_putAside) := goodIn_app (goodIn_of _ (by decide +kernel)) ggX4_homeWith_X4_putAside
set_option maxRecDepth 20000 in
theorem ggX4_homeWith_X4_setToWork : GoodIn wsX4_homeWith wsX4_setToWork := goodIn_r _ [11, 1, 61, 62, 63, 64, 65, 66, 67, 68, 69, 70, 71, 72, 73, 74, 75] (by decide +kernel) (by decide +kernel)
set_option maxRecDepth 20000 in
theorem gX4_homeWith_X4_setToWork : GoodIn wsX4_homeWith (wsV RX4 106 RX4 yX4_setToWork wsX4_setToWork) := goodIn_app (goodIn_of _ (by decide +kernel)) ggX4_homeWith_X4_setToWork
set_option maxRecDepth 20000 in
theorem ggX4_homeWith_X4_passes : GoodIn wsX4_homeWith wsX4_passes := goodIn_r _ [15, 16, 17, 18, 5, 19, 1, 20, 21, 22, 23, 24, 25, 26, 27, 28, 29, 30, 31, 32, 33, 34, 35, 36, 37, 38, 39, 40, 41, 42, 43, 44, 45, 46, 47, 48, 49, 50, 51, 52, 53, 54, 55, 56, 61, 62, 63, 64, 65, 66, 67, 68, 69, 70, 71, 72, 73, 74, 75] (by decide +kernel) (by decide +kernel)
set_option maxRecDepth 20000 in
theorem gX4_homeWith_X4_passes : GoodIn wsX4_homeWith (wsV RX4 128 RX4 yX4_passes wsX4_passes) := goodIn_app (goodIn_of _ (by decide +kernel)) ggX4_homeWith_X4_passes
set_option maxRecDepth 20000 in
theorem ggX4_homeWith_X4_takeBack : GoodIn wsX4_homeWith wsX4_takeBack := goodIn_r _ [60, 1, 7, 61, 62, 63, 64, 65, 66, 67, 68, 69, 70, 71, 72, 73, 74, 75] (by decide +kernel) (by decide +kernel)
set_option maxRecDepth 20000 in
theorem gX4_homeWith_X4_takeBack : GoodIn wsX4_homeWith (wsV RX4 218 RX4 yX4_takeBack wsX4_takeBack) := goodIn_app (goodIn_of _ (by decide +kernel)) ggX4_homeWith_X4_takeBack
theorem dX4_homeWith_0 : decode cX4_homeWith 0 = .ok (.aload_n 0, 1) := by decide +kernel
theorem dX4_homeWith_1 : decode cX4_homeWith 1 = .ok (.invokevirtual 215, 3) := by decide +kernel
theorem dX4_homeWith_4 : decode cX4_homeWith 4 = .ok (.aload_n 0, 1) := by decide +kernel
theorem dX4_homeWith_5 : decode cX4_homeWith 5 = .ok (.iload_n 1, 1) := by decide +kernel
theorem dX4_homeWith_6 : decode cX4_homeWith 6 = .ok (.iload_n 2, 1) := by decide +kernel
theorem dX4_homeWith_7 : decode cX4_homeWith 7 = .ok (.iload_n 3, 1) := by decide +kernel
theorem dX4_homeWith_8 : decode cX4_homeWith 8 = .ok (.invokevirtual 106, 3) := by decide +kernel
theorem dX4_homeWith_11 : decode cX4_homeWith 11 = .ok (.aload_n 0, 1) := by decide +kernel
theorem dX4_homeWith_12 : decode cX4_homeWith 12 = .ok (.bipush 20, 2) := by decide +kernel
theorem dX4_homeWith_14 : decode cX4_homeWith 14 = .ok (.invokevirtual 128, 3) := by decide +kernel
theorem dX4_homeWith_17 : decode cX4_homeWith 17 = .ok (.pop, 1) := by decide +kernel
theorem dX4_homeWith_18 : decode cX4_homeWith 18 = .ok (.aload_n 0, 1) := by decide +kernel
theorem dX4_homeWith_19 : decode cX4_homeWith 19 = .ok (.getfield 7, 3) := by decide +kernel
theorem dX4_homeWith_22 : decode cX4_homeWith 22 = .ok (.bipush 15, 2) := by decide +kernel
theorem dX4_homeWith_24 : decode cX4_homeWith 24 = .ok (.iload_n 2, 1) := by decide +kernel
theorem dX4_homeWith_25 : decode cX4_homeWith 25 = .ok (.iadd, 1) := by decide +kernel
theorem dX4_homeWith_26 : decode cX4_homeWith 26 = .ok (.iaload, 1) := by decide +kernel
theorem dX4_homeWith_27 : decode cX4_homeWith 27 = .ok (.istore 4, 2) := by decide +kernel
theorem dX4_homeWith_29 : decode cX4_homeWith 29 = .ok (.aload_n 0, 1) := by decide +kernel
theorem dX4_homeWith_30 : decode cX4_homeWith 30 = .ok (.invokevirtual 218, 3) := by decide +kernel
theorem dX4_homeWith_33 : decode cX4_homeWith 33 = .ok (.iload 4, 2) := by decide +kernel
theorem dX4_homeWith_35 : decode cX4_homeWith 35 = .ok (.ireturn, 1) := by decide +kernel
set_option maxRecDepth 20000 in
theorem ggX4_bestFor_X4_reason : GoodIn wsX4_bestFor wsX4_reason := goodIn_r _ [5, 6, 7, 8, 9, 4, 10, 11, 12, 13, 14, 15, 16, 17, 18, 81, 82, 83, 84, 85, 86, 87, 88, 89, 90, 91, 92, 93, 94, 95] (by decide +kernel) (by decide +kernel)
set_option maxRecDepth 20000 in
theorem gX4_bestFor_X4_reason : GoodIn wsX4_bestFor (wsV RX4 119 RX4 yX4_reason wsX4_reason) := goodIn_app (goodIn_of _ (by decide +kernel)) ggX4_bestFor_X4_reason
set_option maxRecDepth 20000 in
theorem ggX4_bestFor_X4_homeWith : GoodIn wsX4_bestFor wsX4_homeWith := goodIn_r _ [22, 6, 23, 24, 25, 4, 26, 27, 28, 29, 30, 31, 32, 33, 34, 35, 36, 37, 38, 39, 40, 41, 42, 43, 44, 45, 46, 47, 48, 49, 50, 51, 52, 53, 54, 55, 56, 57, 58, 59, 60, 61, 62, 63, 64, 65, 66, 67, 68, 69, 70, 71, 72, 73, 74, 75, 76, 77, 78, 79, 80, 81, 82, 83, 84, 85, 86, 87, 88, 89, 90, 91, 92, 93, 94, 95] (by decide +kernel) (by decide +kernel)
set_option maxRecDepth 20000 in
theorem gX4_bestFor_X4_homeWith : GoodIn wsX4_bestFor (wsV RX4 227 RX4 yX4_homeWith wsX4_homeWith) := goodIn_app (goodIn_of _ (by decide +kernel)) ggX4_bestFor_X4_homeWith
theorem dX4_bestFor_0 : decode cX4_bestFor 0 = .ok (.iconst (-1), 1) := by decide +kernel
theorem dX4_bestFor_1 : decode cX4_bestFor 1 = .ok (.istore_n 3, 1) := by decide +kernel
theorem dX4_bestFor_2 : decode cX4_bestFor 2 = .ok (.iconst 0, 1) := by decide +kernel
theorem dX4_bestFor_3 : decode cX4_bestFor 3 = .ok (.istore 4, 2) := by decide +kernel
theorem dX4_bestFor_5 : decode cX4_bestFor 5 = .ok (.iconst 0, 1) := by decide +kernel
theorem dX4_bestFor_6 : decode cX4_bestFor 6 = .ok (.istore 5, 2) := by decide +kernel
theorem dX4_bestFor_8 : decode cX4_bestFor 8 = .ok (.iload 5, 2) := by decide +kernel
theorem dX4_bestFor_10 : decode cX4_bestFor 10 = .ok (.iconst 4, 1) := by decide +kernel
theorem dX4_bestFor_11 : decode cX4_bestFor 11 = .ok (.if_icmp .ge 74, 3) := by decide +kernel
theorem dX4_bestFor_14 : decode cX4_bestFor 14 = .ok (.aload_n 0, 1) := by decide +kernel
theorem dX4_bestFor_15 : decode cX4_bestFor 15 = .ok (.iload_n 2, 1) := by decide +kernel
theorem dX4_bestFor_16 : decode cX4_bestFor 16 = .ok (.iload 5, 2) := by decide +kernel
theorem dX4_bestFor_18 : decode cX4_bestFor 18 = .ok (.invokevirtual 119, 3) := by decide +kernel
theorem dX4_bestFor_21 : decode cX4_bestFor 21 = .ok (.ifCond .ne 58, 3) := by decide +kernel
theorem dX4_bestFor_24 : decode cX4_bestFor 24 = .ok (.aload_n 0, 1) := by decide +kernel
theorem dX4_bestFor_25 : decode cX4_bestFor 25 = .ok (.iload_n 1, 1) := by decide +kernel
theorem dX4_bestFor_26 : decode cX4_bestFor 26 = .ok (.iload_n 2, 1) := by decide +kernel
theorem dX4_bestFor_27 : decode cX4_bestFor 27 = .ok (.iload 5, 2) := by decide +kernel
theorem dX4_bestFor_29 : decode cX4_bestFor 29 = .ok (.invokevirtual 227, 3) := by decide +kernel
theorem dX4_bestFor_32 : decode cX4_bestFor 32 = .ok (.istore 6, 2) := by decide +kernel
theorem dX4_bestFor_34 : decode cX4_bestFor 34 = .ok (.iload_n 3, 1) := by decide +kernel
theorem dX4_bestFor_35 : decode cX4_bestFor 35 = .ok (.iconst (-1), 1) := by decide +kernel
theorem dX4_bestFor_36 : decode cX4_bestFor 36 = .ok (.if_icmp .eq 10, 3) := by decide +kernel
theorem dX4_bestFor_39 : decode cX4_bestFor 39 = .ok (.iload 6, 2) := by decide +kernel
theorem dX4_bestFor_41 : decode cX4_bestFor 41 = .ok (.iload 4, 2) := by decide +kernel
theorem dX4_bestFor_43 : decode cX4_bestFor 43 = .ok (.if_icmp .le 7, 3) := by decide +kernel
theorem dX4_bestFor_46 : decode cX4_bestFor 46 = .ok (.iconst 1, 1) := by decide +kernel
theorem dX4_bestFor_47 : decode cX4_bestFor 47 = .ok (.goto 4, 3) := by decide +kernel
theorem dX4_bestFor_50 : decode cX4_bestFor 50 = .ok (.iconst 0, 1) := by decide +kernel
theorem dX4_bestFor_51 : decode cX4_bestFor 51 = .ok (.istore 7, 2) := by decide +kernel
theorem dX4_bestFor_53 : decode cX4_bestFor 53 = .ok (.iload 7, 2) := by decide +kernel
theorem dX4_bestFor_55 : decode cX4_bestFor 55 = .ok (.ifCond .eq 8, 3) := by decide +kernel
theorem dX4_bestFor_58 : decode cX4_bestFor 58 = .ok (.iload 5, 2) := by decide +kernel
theorem dX4_bestFor_60 : decode cX4_bestFor 60 = .ok (.goto 4, 3) := by decide +kernel
theorem dX4_bestFor_63 : decode cX4_bestFor 63 = .ok (.iload_n 3, 1) := by decide +kernel
theorem dX4_bestFor_64 : decode cX4_bestFor 64 = .ok (.istore_n 3, 1) := by decide +kernel
theorem dX4_bestFor_65 : decode cX4_bestFor 65 = .ok (.iload 7, 2) := by decide +kernel
theorem dX4_bestFor_67 : decode cX4_bestFor 67 = .ok (.ifCond .eq 8, 3) := by decide +kernel
theorem dX4_bestFor_70 : decode cX4_bestFor 70 = .ok (.iload 6, 2) := by decide +kernel
theorem dX4_bestFor_72 : decode cX4_bestFor 72 = .ok (.goto 5, 3) := by decide +kernel
theorem dX4_bestFor_75 : decode cX4_bestFor 75 = .ok (.iload 4, 2) := by decide +kernel
theorem dX4_bestFor_77 : decode cX4_bestFor 77 = .ok (.istore 4, 2) := by decide +kernel
theorem dX4_bestFor_79 : decode cX4_bestFor 79 = .ok (.iinc 5 1, 3) := by decide +kernel
theorem dX4_bestFor_82 : decode cX4_bestFor 82 = .ok (.goto (-74), 3) := by decide +kernel
theorem dX4_bestFor_85 : decode cX4_bestFor 85 = .ok (.iload_n 3, 1) := by decide +kernel
theorem dX4_bestFor_86 : decode cX4_bestFor 86 = .ok (.ireturn, 1) := by decide +kernel
set_option maxRecDepth 20000 in
theorem ggX4_bestBank_X4_isCutter : GoodIn wsX4_bestBank wsX4_isCutter := goodIn_r _ [5, 6, 7, 4, 8] (by decide +kernel) (by decide +kernel)
set_option maxRecDepth 20000 in
theorem gX4_bestBank_X4_isCutter : GoodIn wsX4_bestBank (va_wsS RX4 116 yX4_isCutter wsX4_isCutter) := goodIn_app (goodIn_of _ (by decide +kernel)) ggX4_bestBank_X4_isCutter
set_option maxRecDepth 20000 in
theorem ggX4_bestBank_X4_isHearth : GoodIn wsX4_bestBank wsX4_isHearth := goodIn_r _ [11, 6, 7, 4, 8] (by decide +kernel) (by decide +kernel)
set_option maxRecDepth 20000 in
theorem gX4_bestBank_X4_isHearth : GoodIn wsX4_bestBank (va_wsS RX4 109 yX4_isHearth wsX4_isHearth) := goodIn_app (goodIn_of _ (by decide +kernel)) ggX4_bestBank_X4_isHearth
set_option maxRecDepth 20000 in
theorem ggX4_bestBank_X4_bestFor : GoodIn wsX4_bestBank wsX4_bestFor := goodIn_r _ [15, 16, 17, 18, 4, 19, 20, 21, 22, 23, 24, 25, 26, 27, 28, 29, 30, 31, 32, 33, 34, 35, 36, 37, 38, 39, 40, 41, 42, 43, 44, 45, 46, 47, 48, 49, 50, 51, 52, 53, 54, 55, 56, 57, 58, 59, 60, 61, 62, 63, 64, 65, 66, 67, 68, 69, 70, 71, 72, 73, 74, 75, 76, 77, 78, 79, 80, 81, 82, 83, 84, 85, 86, 87, 88, 89, 90, 91, 92, 93, 94, 99, 100, 101, 102, 103, 104, 105, 106, 107, 108, 109, 110, 111, 112, 113] (by decide +kernel) (by decide +kernel)
set_option maxRecDepth 20000 in
theorem gX4_bestBank_X4_bestFor : GoodIn wsX4_bestBank (wsV RX4 230 RX4 yX4_bestFor wsX4_bestFor) := goodIn_app (goodIn_of _ (by decide +kernel)) ggX4_bestBank_X4_bestFor
set_option maxRecDepth 20000 in
theorem ggX4_bestBank_X4_fails : GoodIn wsX4_bestBank wsX4_fails := goodIn_r _ [98, 1, 99, 100, 101, 102, 103, 104, 105, 106, 107, 108, 109, 110, 111, 112, 113] (by decide +kernel) (by decide +kernel)
set_option maxRecDepth 20000 in
theorem gX4_bestBank_X4_fails : GoodIn wsX4_bestBank (wsV RX4 36 RX4 yX4_fails wsX4_fails) := goodIn_app (goodIn_of _ (by decide +kernel)) ggX4_bestBank_X4_fails
theorem dX4_bestBank_0 : decode cX4_bestBank 0 = .ok (.aload_n 0, 1) := by decide +kernel
theorem dX4_bestBank_1 : decode cX4_bestBank 1 = .ok (.iconst 0, 1) := by decide +kernel
theorem dX4_bestBank_2 : decode cX4_bestBank 2 = .ok (.putfield 25, 3) := by decide +kernel
theorem dX4_bestBank_5 : decode cX4_bestBank 5 = .ok (.iload_n 1, 1) := by decide +kernel
theorem dX4_bestBank_6 : decode cX4_bestBank 6 = .ok (.invokestatic 116, 3) := by decide +kernel
theorem dX4_bestBank_9 : decode cX4_bestBank 9 = .ok (.ifCond .eq 19, 3) := by decide +kernel
theorem dX4_bestBank_12 : decode cX4_bestBank 12 = .ok (.iload_n 2, 1) := by decide +kernel
theorem dX4_bestBank_13 : decode cX4_bestBank 13 = .ok (.invokestatic 109, 3) := by decide +kernel
theorem dX4_bestBank_16 : decode cX4_bestBank 16 = .ok (.ifCond .eq 12, 3) := by decide +kernel
theorem dX4_bestBank_19 : decode cX4_bestBank 19 = .ok (.aload_n 0, 1) := by decide +kernel
theorem dX4_bestBank_20 : decode cX4_bestBank 20 = .ok (.iload_n 1, 1) := by decide +kernel
theorem dX4_bestBank_21 : decode cX4_bestBank 21 = .ok (.iload_n 2, 1) := by decide +kernel
theorem dX4_bestBank_22 : decode cX4_bestBank 22 = .ok (.invokevirtual 230, 3) := by decide +kernel
theorem dX4_bestBank_25 : decode cX4_bestBank 25 = .ok (.goto 8, 3) := by decide +kernel
theorem dX4_bestBank_28 : decode cX4_bestBank 28 = .ok (.aload_n 0, 1) := by decide +kernel
theorem dX4_bestBank_29 : decode cX4_bestBank 29 = .ok (.iconst 1, 1) := by decide +kernel
theorem dX4_bestBank_30 : decode cX4_bestBank 30 = .ok (.invokevirtual 36, 3) := by decide +kernel
theorem dX4_bestBank_33 : decode cX4_bestBank 33 = .ok (.ireturn, 1) := by decide +kernel
set_option maxRecDepth 20000 in
theorem ggX4_share_X4_sumOf : GoodIn wsX4_share wsX4_sumOf := goodIn_r _ [5, 6, 7, 8, 9, 10, 11, 12, 13, 14, 15, 16, 17, 18, 19, 20, 21] (by decide +kernel) (by decide +kernel)
set_option maxRecDepth 20000 in
theorem gX4_share_X4_sumOf : GoodIn wsX4_share (wsV RX4 205 RX4 yX4_sumOf wsX4_sumOf) := goodIn_app (goodIn_of _ (by decide +kernel)) ggX4_share_X4_sumOf
theorem dX4_share_0 : decode cX4_share 0 = .ok (.aload_n 0, 1) := by decide +kernel
theorem dX4_share_1 : decode cX4_share 1 = .ok (.bipush 73, 2) := by decide +kernel
theorem dX4_share_3 : decode cX4_share 3 = .ok (.bipush 60, 2) := by decide +kernel
theorem dX4_share_5 : decode cX4_share 5 = .ok (.invokevirtual 205, 3) := by decide +kernel
theorem dX4_share_8 : decode cX4_share 8 = .ok (.istore_n 1, 1) := by decide +kernel
theorem dX4_share_9 : decode cX4_share 9 = .ok (.iload_n 1, 1) := by decide +kernel
theorem dX4_share_10 : decode cX4_share 10 = .ok (.ifCond .ne 7, 3) := by decide +kernel
theorem dX4_share_13 : decode cX4_share 13 = .ok (.dconst 1, 1) := by decide +kernel
theorem dX4_share_14 : decode cX4_share 14 = .ok (.goto 15, 3) := by decide +kernel
theorem dX4_share_17 : decode cX4_share 17 = .ok (.aload_n 0, 1) := by decide +kernel
theorem dX4_share_18 : decode cX4_share 18 = .ok (.bipush 113, 2) := by decide +kernel
theorem dX4_share_20 : decode cX4_share 20 = .ok (.bipush 20, 2) := by decide +kernel
theorem dX4_share_22 : decode cX4_share 22 = .ok (.invokevirtual 205, 3) := by decide +kernel
theorem dX4_share_25 : decode cX4_share 25 = .ok (.i2d, 1) := by decide +kernel
theorem dX4_share_26 : decode cX4_share 26 = .ok (.iload_n 1, 1) := by decide +kernel
theorem dX4_share_27 : decode cX4_share 27 = .ok (.i2d, 1) := by decide +kernel
theorem dX4_share_28 : decode cX4_share 28 = .ok (.ddiv, 1) := by decide +kernel
theorem dX4_share_29 : decode cX4_share 29 = .ok (.dreturn, 1) := by decide +kernel
set_option maxRecDepth 20000 in
theorem ggX4_dryness_X4_share : GoodIn wsX4_dryness wsX4_share := goodIn_r _ [6, 7, 8, 9, 5, 10, 11, 12, 13, 14, 15, 16, 17, 18, 19, 20, 21, 22, 23, 24, 25, 26] (by decide +kernel) (by decide +kernel)
set_option maxRecDepth 20000 in
theorem gX4_dryness_X4_share : GoodIn wsX4_dryness (wsV RX4 233 RX4 yX4_share wsX4_share) := goodIn_app (goodIn_of _ (by decide +kernel)) ggX4_dryness_X4_share
theorem dX4_dryness_0 : decode cX4_dryness 0 = .ok (.aload_n 0, 1) := by decide +kernel
theorem dX4_dryness_1 : decode cX4_dryness 1 = .ok (.iconst 0, 1) := by decide +kernel
theorem dX4_dryness_2 : decode cX4_dryness 2 = .ok (.putfield 25, 3) := by decide +kernel
theorem dX4_dryness_5 : decode cX4_dryness 5 = .ok (.aload_n 0, 1) := by decide +kernel
theorem dX4_dryness_6 : decode cX4_dryness 6 = .ok (.invokevirtual 233, 3) := by decide +kernel
theorem dX4_dryness_9 : decode cX4_dryness 9 = .ok (.dreturn, 1) := by decide +kernel
theorem dX4_mix_0 : decode cX4_mix 0 = .ok (.aload_n 0, 1) := by decide +kernel
theorem dX4_mix_1 : decode cX4_mix 1 = .ok (.ldc2_w 237, 3) := by decide +kernel
theorem dX4_mix_4 : decode cX4_mix 4 = .ok (.aload_n 0, 1) := by decide +kernel
theorem dX4_mix_5 : decode cX4_mix 5 = .ok (.getfield 239, 3) := by decide +kernel
theorem dX4_mix_8 : decode cX4_mix 8 = .ok (.lmul, 1) := by decide +kernel
theorem dX4_mix_9 : decode cX4_mix 9 = .ok (.lload_n 1, 1) := by decide +kernel
theorem dX4_mix_10 : decode cX4_mix 10 = .ok (.ladd, 1) := by decide +kernel
theorem dX4_mix_11 : decode cX4_mix 11 = .ok (.putfield 239, 3) := by decide +kernel
theorem dX4_mix_14 : decode cX4_mix 14 = .ok (.return_, 1) := by decide +kernel
set_option maxRecDepth 20000 in
theorem ggX4_mixHearth_X4_tellsHearth : GoodIn wsX4_mixHearth wsX4_tellsHearth := goodIn_r _ [5, 6, 7, 8, 9, 4, 10, 11, 12, 13, 14, 15, 16, 17, 18, 19, 20, 21, 22, 23, 24, 25, 26, 27, 28, 29, 126, 127, 128, 129, 130, 131, 132, 133, 134, 135, 136, 137, 138, 139, 140] (by decide +kernel) (by decide +kernel)
set_option maxRecDepth 20000 in
theorem gX4_mixHearth_X4_tellsHearth : GoodIn wsX4_mixHearth (wsV RX4 189 RX4 yX4_tellsHearth wsX4_tellsHearth) := goodIn_app (goodIn_of _ (by decide +kernel)) ggX4_mixHearth_X4_tellsHearth
set_option maxRecDepth 20000 in
theorem ggX4_mixHearth_X4_mix : GoodIn wsX4_mixHearth wsX4_mix := goodIn_r _ [33, 34, 35, 126, 127, 128, 129, 130, 131, 132, 133, 134, 135, 136, 137, 138, 139, 140] (by decide +kernel) (by decide +kernel)
set_option maxRecDepth 20000 in
theorem gX4_mixHearth_X4_mix : GoodIn wsX4_mixHearth (wsV RX4 243 RX4 yX4_mix wsX4_mix) := goodIn_app (goodIn_of _ (by decide +kernel)) ggX4_mixHearth_X4_mix
set_option maxRecDepth 20000 in
theorem ggX4_mixHearth_X4_tellsPlot : GoodIn wsX4_mixHearth wsX4_tellsPlot := goodIn_r _ [39, 6, 40, 41, 42, 4, 43, 126, 127, 128, 129, 130, 131, 132, 133, 134, 135, 136, 137, 138, 139, 140] (by decide +kernel) (by decide +kernel)
set_option maxRecDepth 20000 in
theorem gX4_mixHearth_X4_tellsPlot : GoodIn wsX4_mixHearth (wsV RX4 198 RX4 yX4_tellsPlot wsX4_tellsPlot) := goodIn_app (goodIn_of _ (by decide +kernel)) ggX4_mixHearth_X4_tellsPlot
set_option maxRecDepth 20000 in
theorem ggX4_mixHearth_X4_daysUntil : GoodIn wsX4_mixHearth wsX4_daysUntil := goodIn_r _ [47, 48, 49, 50, 4, 51, 52, 6, 15, 16, 17, 18, 19, 20, 21, 53, 54, 55, 56, 57, 58, 59, 60, 61, 62, 63, 64, 65, 66, 67, 68, 69, 70, 71, 72, 73, 74, 75, 76, 77, 78, 79, 80, 81, 82, 83, 84, 85, 86, 87, 88, 89, 90, 91, 92, 93, 94, 95, 96, 97, 126, 127, 128, 129, 130, 131, 132, 133, 134, 135, 136, 137, 138, 139, 140] (by decide +kernel) (by decide +kernel)
set_option maxRecDepth 20000 in
theorem gX4_mixHearth_X4_daysUntil : GoodIn wsX4_mixHearth (wsV RX4 224 RX4 yX4_daysUntil wsX4_daysUntil) := goodIn_app (goodIn_of _ (by decide +kernel)) ggX4_mixHearth_X4_daysUntil
set_option maxRecDepth 20000 in
theorem ggX4_mixHearth_X4_bestFor : GoodIn wsX4_mixHearth wsX4_bestFor := goodIn_r _ [101, 102, 103, 104, 4, 105, 6, 106, 107, 108, 109, 110, 111, 112, 113, 40, 41, 42, 43, 114, 115, 116, 117, 48, 49, 50, 51, 52, 118, 119, 120, 121, 122, 123, 124, 125, 53, 54, 55, 56, 57, 58, 59, 60, 61, 62, 63, 64, 65, 66, 67, 68, 69, 70, 71, 72, 73, 74, 75, 76, 77, 78, 79, 80, 81, 82, 83, 84, 85, 86, 87, 88, 89, 90, 91, 92, 93, 94, 95, 96, 97, 126, 127, 128, 129, 130, 131, 132, 133, 134, 135, 136, 137, 138, 139, 140] (by decide +kernel) (by decide +kernel)
set_option maxRecDepth 20000 in
theorem gX4_mixHearth_X4_bestFor : GoodIn wsX4_mixHearth (wsV RX4 230 RX4 yX4_bestFor wsX4_bestFor) := goodIn_app (goodIn_of _ (by decide +kernel)) ggX4_mixHearth_X4_bestFor
theorem dX4_mixHearth_0 : decode cX4_mixHearth 0 = .ok (.iconst 0, 1) := by decide +kernel
theorem dX4_mixHearth_1 : decode cX4_mixHearth 1 = .ok (.istore_n 2, 1) := by decide +kernel
theorem dX4_mixHearth_2 : decode cX4_mixHearth 2 = .ok (.iload_n 2, 1) := by decide +kernel
theorem dX4_mixHearth_3 : decode cX4_mixHearth 3 = .ok (.bipush 12, 2) := by decide +kernel
theorem dX4_mixHearth_5 : decode cX4_mixHearth 5 = .ok (.if_icmp .ge 20, 3) := by decide +kernel
theorem dX4_mixHearth_8 : decode cX4_mixHearth 8 = .ok (.aload_n 0, 1) := by decide +kernel
theorem dX4_mixHearth_9 : decode cX4_mixHearth 9 = .ok (.aload_n 0, 1) := by decide +kernel
theorem dX4_mixHearth_10 : decode cX4_mixHearth 10 = .ok (.iload_n 1, 1) := by decide +kernel
theorem dX4_mixHearth_11 : decode cX4_mixHearth 11 = .ok (.iload_n 2, 1) := by decide +kernel
theorem dX4_mixHearth_12 : decode cX4_mixHearth 12 = .ok (.invokevirtual 189, 3) := by decide +kernel
theorem dX4_mixHearth_15 : decode cX4_mixHearth 15 = .ok (.i2l, 1) := by decide +kernel
theorem dX4_mixHearth_16 : decode cX4_mixHearth 16 = .ok (.invokevirtual 243, 3) := by decide +kernel
theorem dX4_mixHearth_19 : decode cX4_mixHearth 19 = .ok (.iinc 2 1, 3) := by decide +kernel
theorem dX4_mixHearth_22 : decode cX4_mixHearth 22 = .ok (.goto (-20), 3) := by decide +kernel
theorem dX4_mixHearth_25 : decode cX4_mixHearth 25 = .ok (.iconst 0, 1) := by decide +kernel
theorem dX4_mixHearth_26 : decode cX4_mixHearth 26 = .ok (.istore_n 2, 1) := by decide +kernel
theorem dX4_mixHearth_27 : decode cX4_mixHearth 27 = .ok (.iload_n 2, 1) := by decide +kernel
theorem dX4_mixHearth_28 : decode cX4_mixHearth 28 = .ok (.bipush 20, 2) := by decide +kernel
theorem dX4_mixHearth_30 : decode cX4_mixHearth 30 = .ok (.if_icmp .ge 25, 3) := by decide +kernel
theorem dX4_mixHearth_33 : decode cX4_mixHearth 33 = .ok (.aload_n 0, 1) := by decide +kernel
theorem dX4_mixHearth_34 : decode cX4_mixHearth 34 = .ok (.aload_n 0, 1) := by decide +kernel
theorem dX4_mixHearth_35 : decode cX4_mixHearth 35 = .ok (.iload_n 1, 1) := by decide +kernel
theorem dX4_mixHearth_36 : decode cX4_mixHearth 36 = .ok (.iload_n 2, 1) := by decide +kernel
theorem dX4_mixHearth_37 : decode cX4_mixHearth 37 = .ok (.iconst 5, 1) := by decide +kernel
theorem dX4_mixHearth_38 : decode cX4_mixHearth 38 = .ok (.idiv, 1) := by decide +kernel
theorem dX4_mixHearth_39 : decode cX4_mixHearth 39 = .ok (.iload_n 2, 1) := by decide +kernel
theorem dX4_mixHearth_40 : decode cX4_mixHearth 40 = .ok (.iconst 5, 1) := by decide +kernel
theorem dX4_mixHearth_41 : decode cX4_mixHearth 41 = .ok (.irem, 1) := by decide +kernel
theorem dX4_mixHearth_42 : decode cX4_mixHearth 42 = .ok (.invokevirtual 198, 3) := by decide +kernel
theorem dX4_mixHearth_45 : decode cX4_mixHearth 45 = .ok (.i2l, 1) := by decide +kernel
theorem dX4_mixHearth_46 : decode cX4_mixHearth 46 = .ok (.invokevirtual 243, 3) := by decide +kernel
theorem dX4_mixHearth_49 : decode cX4_mixHearth 49 = .ok (.iinc 2 1, 3) := by decide +kernel
theorem dX4_mixHearth_52 : decode cX4_mixHearth 52 = .ok (.goto (-25), 3) := by decide +kernel
theorem dX4_mixHearth_55 : decode cX4_mixHearth 55 = .ok (.aload_n 0, 1) := by decide +kernel
theorem dX4_mixHearth_56 : decode cX4_mixHearth 56 = .ok (.aload_n 0, 1) := by decide +kernel
theorem dX4_mixHearth_57 : decode cX4_mixHearth 57 = .ok (.iload_n 1, 1) := by decide +kernel
theorem dX4_mixHearth_58 : decode cX4_mixHearth 58 = .ok (.invokevirtual 224, 3) := by decide +kernel
theorem dX4_mixHearth_61 : decode cX4_mixHearth 61 = .ok (.i2l, 1) := by decide +kernel
theorem dX4_mixHearth_62 : decode cX4_mixHearth 62 = .ok (.invokevirtual 243, 3) := by decide +kernel
theorem dX4_mixHearth_65 : decode cX4_mixHearth 65 = .ok (.aload_n 0, 1) := by decide +kernel
theorem dX4_mixHearth_66 : decode cX4_mixHearth 66 = .ok (.aload_n 0, 1) := by decide +kernel
theorem dX4_mixHearth_67 : decode cX4_mixHearth 67 = .ok (.iconst 0, 1) := by decide +kernel
theorem dX4_mixHearth_68 : decode cX4_mixHearth 68 = .ok (.iload_n 1, 1) := by decide +kernel
theorem dX4_mixHearth_69 : decode cX4_mixHearth 69 = .ok (.invokevirtual 230, 3) := by decide +kernel
theorem dX4_mixHearth_72 : decode cX4_mixHearth 72 = .ok (.i2l, 1) := by decide +kernel
theorem dX4_mixHearth_73 : decode cX4_mixHearth 73 = .ok (.invokevirtual 243, 3) := by decide +kernel
theorem dX4_mixHearth_76 : decode cX4_mixHearth 76 = .ok (.return_, 1) := by decide +kernel
set_option maxRecDepth 20000 in
theorem ggX4_digest_X4_tellsCount : GoodIn wsX4_digest wsX4_tellsCount := goodIn_r _ [10, 11, 12, 13, 14, 15, 9, 16, 17, 18, 19, 20, 21, 22, 23, 24, 25, 26, 27, 28, 29, 30, 31, 32, 33, 34, 35, 36, 37, 38, 39, 40, 41, 42, 43, 44, 45, 46, 47, 48, 49, 50, 51, 187, 188, 189, 190, 191, 192, 193, 194, 195, 196, 197, 198, 199, 200, 201] (by decide +kernel) (by decide +kernel)
set_option maxRecDepth 20000 in
theorem gX4_digest_X4_tellsCount : GoodIn wsX4_digest (wsV RX4 212 RX4 yX4_tellsCount wsX4_tellsCount) := goodIn_app (goodIn_of _ (by decide +kernel)) ggX4_digest_X4_tellsCount
set_option maxRecDepth 20000 in
theorem ggX4_digest_X4_mix : GoodIn wsX4_digest wsX4_mix := goodIn_r _ [55, 56, 3, 187, 188, 189, 190, 191, 192, 193, 194, 195, 196, 197, 198, 199, 200, 201] (by decide +kernel) (by decide +kernel)
set_option maxRecDepth 20000 in
theorem gX4_digest_X4_mix : GoodIn wsX4_digest (wsV RX4 243 RX4 yX4_mix wsX4_mix) := goodIn_app (goodIn_of _ (by decide +kernel)) ggX4_digest_X4_mix
set_option maxRecDepth 20000 in
theorem ggX4_digest_X4_mixHearth : GoodIn wsX4_digest wsX4_mixHearth := goodIn_r _ [60, 61, 62, 63, 9, 64, 11, 44, 45, 46, 47, 48, 49, 50, 51, 33, 34, 35, 36, 37, 38, 39, 40, 41, 42, 43, 65, 66, 67, 68, 52, 53, 54, 55, 56, 3, 69, 70, 71, 72, 21, 22, 23, 24, 73, 74, 75, 76, 77, 78, 79, 80, 81, 82, 83, 84, 85, 86, 87, 88, 89, 90, 91, 92, 93, 94, 95, 96, 97, 98, 99, 100, 101, 102, 103, 104, 105, 106, 107, 108, 109, 110, 111, 112, 113, 114, 115, 116, 117, 118, 119, 120, 121, 122, 123, 124, 125, 126, 127, 128, 129, 130, 131, 132, 133, 134, 135, 136, 137, 138, 139, 140, 141, 142, 143, 144, 145, 146, 147, 148, 149, 150, 151, 152, 153, 154, 187, 188, 189, 190, 191, 192, 193, 194, 195, 196, 197, 198, 199, 200, 201] (by decide +kernel) (by decide +kernel)
set_option maxRecDepth 20000 in
theorem gX4_digest_X4_mixHearth : GoodIn wsX4_digest (wsV RX4 249 RX4 yX4_mixHearth wsX4_mixHearth) := goodIn_app (goodIn_of _ (by decide +kernel)) ggX4_digest_X4_mixHearth
set_option maxRecDepth 20000 in
theorem ggX4_digest_X4_tellsBank : GoodIn wsX4_digest wsX4_tellsBank := goodIn_r _ [158, 11, 139, 140, 141, 9, 142, 17, 18, 19, 20, 21, 22, 23, 24, 159, 160, 161, 162, 48, 49, 50, 51, 187, 188, 189, 190, 191, 192, 193, 194, 195, 196, 197, 198, 199, 200, 201] (by decide +kernel) (by decide +kernel)
set_option maxRecDepth 20000 in
theorem gX4_digest_X4_tellsBank : GoodIn wsX4_digest (wsV RX4 195 RX4 yX4_tellsBank wsX4_tellsBank) := goodIn_app (goodIn_of _ (by decide +kernel)) ggX4_digest_X4_tellsBank
set_option maxRecDepth 20000 in
theorem ggX4_digest_X4_tellsCutter : GoodIn wsX4_digest wsX4_tellsCutter := goodIn_r _ [166, 11, 187, 188, 189, 190, 191, 192, 193, 194, 195, 196, 197, 198, 199, 200, 201] (by decide +kernel) (by decide +kernel)
set_option maxRecDepth 20000 in
theorem gX4_digest_X4_tellsCutter : GoodIn wsX4_digest (wsV RX4 202 RX4 yX4_tellsCutter wsX4_tellsCutter) := goodIn_app (goodIn_of _ (by decide +kernel)) ggX4_digest_X4_tellsCutter
set_option maxRecDepth 20000 in
theorem ggX4_digest_X4_rainOf : GoodIn wsX4_digest wsX4_rainOf := goodIn_r _ [89, 90, 11, 91, 187, 188, 189, 190, 191, 192, 193, 194, 195, 196, 197, 198, 199, 200, 201] (by decide +kernel) (by decide +kernel)
set_option maxRecDepth 20000 in
theorem gX4_digest_X4_rainOf : GoodIn wsX4_digest (wsV RX4 63 RX4 yX4_rainOf wsX4_rainOf) := goodIn_app (goodIn_of _ (by decide +kernel)) ggX4_digest_X4_rainOf
set_option maxRecDepth 20000 in
theorem ggX4_digest_X4_wouldPass : GoodIn wsX4_digest wsX4_wouldPass := goodIn_r _ [170, 77, 78, 79, 9, 80, 81, 11, 25, 26, 27, 28, 151, 152, 153, 154, 82, 83, 84, 85, 86, 87, 88, 89, 90, 91, 92, 93, 94, 95, 96, 97, 98, 99, 100, 101, 102, 103, 104, 105, 106, 107, 108, 109, 110, 111, 112, 113, 114, 115, 116, 117, 118, 119, 120, 121, 122, 29, 30, 31, 32, 33, 34, 35, 36, 37, 38, 39, 40, 41, 42, 43, 44, 45, 46, 47, 48, 49, 50, 51, 123, 124, 125, 126, 187, 188, 189, 190, 191, 192, 193, 194, 195, 196, 197, 198, 199, 200, 201] (by decide +kernel) (by decide +kernel)
set_option maxRecDepth 20000 in
theorem gX4_digest_X4_wouldPass : GoodIn wsX4_digest (wsV RX4 221 RX4 yX4_wouldPass wsX4_wouldPass) := goodIn_app (goodIn_of _ (by decide +kernel)) ggX4_digest_X4_wouldPass
set_option maxRecDepth 20000 in
theorem ggX4_digest_X4_share : GoodIn wsX4_digest wsX4_share := goodIn_r _ [174, 25, 26, 27, 9, 28, 11, 187, 188, 189, 190, 191, 192, 193, 194, 195, 196, 197, 198, 199, 200, 201] (by decide +kernel) (by decide +kernel)
set_option maxRecDepth 20000 in
theorem gX4_digest_X4_share : GoodIn wsX4_digest (wsV RX4 233 RX4 yX4_share wsX4_share) := goodIn_app (goodIn_of _ (by decide +kernel)) ggX4_digest_X4_share
set_option maxRecDepth 20000 in
theorem ggX4_digest_Jxe99ae_doubleToLongBits_ccdee : GoodIn wsX4_digest wsJxe99ae_doubleToLongBits_ccdee := goodIn_r _ [178, 179, 180, 181, 182, 183, 184, 185, 177, 186] (by decide +kernel) (by decide +kernel)
set_option maxRecDepth 20000 in
theorem gX4_digest_Jxe99ae_doubleToLongBits_ccdee : GoodIn wsX4_digest (va_wsS RX4 252 yJxe99ae_doubleToLongBits_ccdee wsJxe99ae_doubleToLongBits_ccdee) := goodIn_app (goodIn_of _ (by decide +kernel)) ggX4_digest_Jxe99ae_doubleToLongBits_ccdee
theorem dX4_digest_0 : decode cX4_digest 0 = .ok (.aload_n 0, 1) := by decide +kernel
theorem dX4_digest_1 : decode cX4_digest 1 = .ok (.iconst 0, 1) := by decide +kernel
theorem dX4_digest_2 : decode cX4_digest 2 = .ok (.putfield 25, 3) := by decide +kernel
theorem dX4_digest_5 : decode cX4_digest 5 = .ok (.aload_n 0, 1) := by decide +kernel
theorem dX4_digest_6 : decode cX4_digest 6 = .ok (.ldc2_w 247, 3) := by decide +kernel
theorem dX4_digest_9 : decode cX4_digest 9 = .ok (.putfield 239, 3) := by decide +kernel
theorem dX4_digest_12 : decode cX4_digest 12 = .ok (.iconst 0, 1) := by decide +kernel
theorem dX4_digest_13 : decode cX4_digest 13 = .ok (.istore_n 1, 1) := by decide +kernel
theorem dX4_digest_14 : decode cX4_digest 14 = .ok (.iload_n 1, 1) := by decide +kernel
theorem dX4_digest_15 : decode cX4_digest 15 = .ok (.bipush 13, 2) := by decide +kernel
theorem dX4_digest_17 : decode cX4_digest 17 = .ok (.if_icmp .ge 19, 3) := by decide +kernel
theorem dX4_digest_20 : decode cX4_digest 20 = .ok (.aload_n 0, 1) := by decide +kernel
theorem dX4_digest_21 : decode cX4_digest 21 = .ok (.aload_n 0, 1) := by decide +kernel
theorem dX4_digest_22 : decode cX4_digest 22 = .ok (.iload_n 1, 1) := by decide +kernel
theorem dX4_digest_23 : decode cX4_digest 23 = .ok (.invokevirtual 212, 3) := by decide +kernel
theorem dX4_digest_26 : decode cX4_digest 26 = .ok (.i2l, 1) := by decide +kernel
theorem dX4_digest_27 : decode cX4_digest 27 = .ok (.invokevirtual 243, 3) := by decide +kernel
theorem dX4_digest_30 : decode cX4_digest 30 = .ok (.iinc 1 1, 3) := by decide +kernel
theorem dX4_digest_33 : decode cX4_digest 33 = .ok (.goto (-19), 3) := by decide +kernel
theorem dX4_digest_36 : decode cX4_digest 36 = .ok (.iconst 0, 1) := by decide +kernel
theorem dX4_digest_37 : decode cX4_digest 37 = .ok (.istore_n 1, 1) := by decide +kernel
theorem dX4_digest_38 : decode cX4_digest 38 = .ok (.iload_n 1, 1) := by decide +kernel
theorem dX4_digest_39 : decode cX4_digest 39 = .ok (.iconst 5, 1) := by decide +kernel
theorem dX4_digest_40 : decode cX4_digest 40 = .ok (.if_icmp .ge 14, 3) := by decide +kernel
theorem dX4_digest_43 : decode cX4_digest 43 = .ok (.aload_n 0, 1) := by decide +kernel
theorem dX4_digest_44 : decode cX4_digest 44 = .ok (.iload_n 1, 1) := by decide +kernel
theorem dX4_digest_45 : decode cX4_digest 45 = .ok (.invokevirtual 249, 3) := by decide +kernel
theorem dX4_digest_48 : decode cX4_digest 48 = .ok (.iinc 1 1, 3) := by decide +kernel
theorem dX4_digest_51 : decode cX4_digest 51 = .ok (.goto (-13), 3) := by decide +kernel
theorem dX4_digest_54 : decode cX4_digest 54 = .ok (.iconst 0, 1) := by decide +kernel
theorem dX4_digest_55 : decode cX4_digest 55 = .ok (.istore_n 1, 1) := by decide +kernel
theorem dX4_digest_56 : decode cX4_digest 56 = .ok (.iload_n 1, 1) := by decide +kernel
theorem dX4_digest_57 : decode cX4_digest 57 = .ok (.bipush 20, 2) := by decide +kernel
theorem dX4_digest_59 : decode cX4_digest 59 = .ok (.if_icmp .ge 24, 3) := by decide +kernel
theorem dX4_digest_62 : decode cX4_digest 62 = .ok (.aload_n 0, 1) := by decide +kernel
theorem dX4_digest_63 : decode cX4_digest 63 = .ok (.aload_n 0, 1) := by decide +kernel
theorem dX4_digest_64 : decode cX4_digest 64 = .ok (.iload_n 1, 1) := by decide +kernel
theorem dX4_digest_65 : decode cX4_digest 65 = .ok (.iconst 5, 1) := by decide +kernel
theorem dX4_digest_66 : decode cX4_digest 66 = .ok (.idiv, 1) := by decide +kernel
theorem dX4_digest_67 : decode cX4_digest 67 = .ok (.iload_n 1, 1) := by decide +kernel
theorem dX4_digest_68 : decode cX4_digest 68 = .ok (.iconst 5, 1) := by decide +kernel
theorem dX4_digest_69 : decode cX4_digest 69 = .ok (.irem, 1) := by decide +kernel
theorem dX4_digest_70 : decode cX4_digest 70 = .ok (.invokevirtual 195, 3) := by decide +kernel
theorem dX4_digest_73 : decode cX4_digest 73 = .ok (.i2l, 1) := by decide +kernel
theorem dX4_digest_74 : decode cX4_digest 74 = .ok (.invokevirtual 243, 3) := by decide +kernel
theorem dX4_digest_77 : decode cX4_digest 77 = .ok (.iinc 1 1, 3) := by decide +kernel
theorem dX4_digest_80 : decode cX4_digest 80 = .ok (.goto (-24), 3) := by decide +kernel
theorem dX4_digest_83 : decode cX4_digest 83 = .ok (.iconst 0, 1) := by decide +kernel
theorem dX4_digest_84 : decode cX4_digest 84 = .ok (.istore_n 1, 1) := by decide +kernel
theorem dX4_digest_85 : decode cX4_digest 85 = .ok (.iload_n 1, 1) := by decide +kernel
theorem dX4_digest_86 : decode cX4_digest 86 = .ok (.bipush 24, 2) := by decide +kernel
theorem dX4_digest_88 : decode cX4_digest 88 = .ok (.if_icmp .ge 24, 3) := by decide +kernel
theorem dX4_digest_91 : decode cX4_digest 91 = .ok (.aload_n 0, 1) := by decide +kernel
theorem dX4_digest_92 : decode cX4_digest 92 = .ok (.aload_n 0, 1) := by decide +kernel
theorem dX4_digest_93 : decode cX4_digest 93 = .ok (.iload_n 1, 1) := by decide +kernel
theorem dX4_digest_94 : decode cX4_digest 94 = .ok (.iconst 4, 1) := by decide +kernel
theorem dX4_digest_95 : decode cX4_digest 95 = .ok (.idiv, 1) := by decide +kernel
theorem dX4_digest_96 : decode cX4_digest 96 = .ok (.iload_n 1, 1) := by decide +kernel
theorem dX4_digest_97 : decode cX4_digest 97 = .ok (.iconst 4, 1) := by decide +kernel
theorem dX4_digest_98 : decode cX4_digest 98 = .ok (.irem, 1) := by decide +kernel
theorem dX4_digest_99 : decode cX4_digest 99 = .ok (.invokevirtual 202, 3) := by decide +kernel
theorem dX4_digest_102 : decode cX4_digest 102 = .ok (.i2l, 1) := by decide +kernel
theorem dX4_digest_103 : decode cX4_digest 103 = .ok (.invokevirtual 243, 3) := by decide +kernel
theorem dX4_digest_106 : decode cX4_digest 106 = .ok (.iinc 1 1, 3) := by decide +kernel
theorem dX4_digest_109 : decode cX4_digest 109 = .ok (.goto (-24), 3) := by decide +kernel
theorem dX4_digest_112 : decode cX4_digest 112 = .ok (.iconst 0, 1) := by decide +kernel
theorem dX4_digest_113 : decode cX4_digest 113 = .ok (.istore_n 1, 1) := by decide +kernel
theorem dX4_digest_114 : decode cX4_digest 114 = .ok (.iload_n 1, 1) := by decide +kernel
theorem dX4_digest_115 : decode cX4_digest 115 = .ok (.bipush 10, 2) := by decide +kernel
theorem dX4_digest_117 : decode cX4_digest 117 = .ok (.if_icmp .ge 19, 3) := by decide +kernel
theorem dX4_digest_120 : decode cX4_digest 120 = .ok (.aload_n 0, 1) := by decide +kernel
theorem dX4_digest_121 : decode cX4_digest 121 = .ok (.aload_n 0, 1) := by decide +kernel
theorem dX4_digest_122 : decode cX4_digest 122 = .ok (.iload_n 1, 1) := by decide +kernel
theorem dX4_digest_123 : decode cX4_digest 123 = .ok (.invokevirtual 63, 3) := by decide +kernel
theorem dX4_digest_126 : decode cX4_digest 126 = .ok (.i2l, 1) := by decide +kernel
theorem dX4_digest_127 : decode cX4_digest 127 = .ok (.invokevirtual 243, 3) := by decide +kernel
theorem dX4_digest_130 : decode cX4_digest 130 = .ok (.iinc 1 1, 3) := by decide +kernel
theorem dX4_digest_133 : decode cX4_digest 133 = .ok (.goto (-19), 3) := by decide +kernel
theorem dX4_digest_136 : decode cX4_digest 136 = .ok (.iconst 0, 1) := by decide +kernel
theorem dX4_digest_137 : decode cX4_digest 137 = .ok (.istore_n 1, 1) := by decide +kernel
theorem dX4_digest_138 : decode cX4_digest 138 = .ok (.iload_n 1, 1) := by decide +kernel
theorem dX4_digest_139 : decode cX4_digest 139 = .ok (.iconst 3, 1) := by decide +kernel
theorem dX4_digest_140 : decode cX4_digest 140 = .ok (.if_icmp .ge 21, 3) := by decide +kernel
theorem dX4_digest_143 : decode cX4_digest 143 = .ok (.aload_n 0, 1) := by decide +kernel
theorem dX4_digest_144 : decode cX4_digest 144 = .ok (.aload_n 0, 1) := by decide +kernel
theorem dX4_digest_145 : decode cX4_digest 145 = .ok (.bipush 10, 2) := by decide +kernel
theorem dX4_digest_147 : decode cX4_digest 147 = .ok (.iload_n 1, 1) := by decide +kernel
theorem dX4_digest_148 : decode cX4_digest 148 = .ok (.invokevirtual 221, 3) := by decide +kernel
theorem dX4_digest_151 : decode cX4_digest 151 = .ok (.i2l, 1) := by decide +kernel
theorem dX4_digest_152 : decode cX4_digest 152 = .ok (.invokevirtual 243, 3) := by decide +kernel
theorem dX4_digest_155 : decode cX4_digest 155 = .ok (.iinc 1 1, 3) := by decide +kernel
theorem dX4_digest_158 : decode cX4_digest 158 = .ok (.goto (-20), 3) := by decide +kernel
theorem dX4_digest_161 : decode cX4_digest 161 = .ok (.aload_n 0, 1) := by decide +kernel
theorem dX4_digest_162 : decode cX4_digest 162 = .ok (.aload_n 0, 1) := by decide +kernel
theorem dX4_digest_163 : decode cX4_digest 163 = .ok (.invokevirtual 233, 3) := by decide +kernel
theorem dX4_digest_166 : decode cX4_digest 166 = .ok (.invokestatic 252, 3) := by decide +kernel
theorem dX4_digest_169 : decode cX4_digest 169 = .ok (.invokevirtual 243, 3) := by decide +kernel
theorem dX4_digest_172 : decode cX4_digest 172 = .ok (.aload_n 0, 1) := by decide +kernel
theorem dX4_digest_173 : decode cX4_digest 173 = .ok (.aload_n 0, 1) := by decide +kernel
theorem dX4_digest_174 : decode cX4_digest 174 = .ok (.getfield 137, 3) := by decide +kernel
theorem dX4_digest_177 : decode cX4_digest 177 = .ok (.i2l, 1) := by decide +kernel
theorem dX4_digest_178 : decode cX4_digest 178 = .ok (.invokevirtual 243, 3) := by decide +kernel
theorem dX4_digest_181 : decode cX4_digest 181 = .ok (.iconst 0, 1) := by decide +kernel
theorem dX4_digest_182 : decode cX4_digest 182 = .ok (.istore_n 1, 1) := by decide +kernel
theorem dX4_digest_183 : decode cX4_digest 183 = .ok (.iload_n 1, 1) := by decide +kernel
theorem dX4_digest_184 : decode cX4_digest 184 = .ok (.aload_n 0, 1) := by decide +kernel
theorem dX4_digest_185 : decode cX4_digest 185 = .ok (.getfield 137, 3) := by decide +kernel
theorem dX4_digest_188 : decode cX4_digest 188 = .ok (.if_icmp .ge 20, 3) := by decide +kernel
theorem dX4_digest_191 : decode cX4_digest 191 = .ok (.aload_n 0, 1) := by decide +kernel
theorem dX4_digest_192 : decode cX4_digest 192 = .ok (.aload_n 0, 1) := by decide +kernel
theorem dX4_digest_193 : decode cX4_digest 193 = .ok (.getfield 22, 3) := by decide +kernel
theorem dX4_digest_196 : decode cX4_digest 196 = .ok (.iload_n 1, 1) := by decide +kernel
theorem dX4_digest_197 : decode cX4_digest 197 = .ok (.iaload, 1) := by decide +kernel
theorem dX4_digest_198 : decode cX4_digest 198 = .ok (.i2l, 1) := by decide +kernel
theorem dX4_digest_199 : decode cX4_digest 199 = .ok (.invokevirtual 243, 3) := by decide +kernel
theorem dX4_digest_202 : decode cX4_digest 202 = .ok (.iinc 1 1, 3) := by decide +kernel
theorem dX4_digest_205 : decode cX4_digest 205 = .ok (.goto (-22), 3) := by decide +kernel
theorem dX4_digest_208 : decode cX4_digest 208 = .ok (.aload_n 0, 1) := by decide +kernel
theorem dX4_digest_209 : decode cX4_digest 209 = .ok (.getfield 239, 3) := by decide +kernel
theorem dX4_digest_212 : decode cX4_digest 212 = .ok (.lreturn, 1) := by decide +kernel

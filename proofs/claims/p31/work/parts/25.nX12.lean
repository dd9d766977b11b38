/-! names of Shelf and Text -/
theorem dX1_init_0 : decode cX1_init 0 = .ok (.aload_n 0, 1) := by decide +kernel
theorem dX1_init_1 : decode cX1_init 1 = .ok (.invokespecial 3, 3) := by decide +kernel
theorem dX1_init_4 : decode cX1_init 4 = .ok (.aload_n 0, 1) := by decide +kernel
theorem dX1_init_5 : decode cX1_init 5 = .ok (.iconst 1, 1) := by decide +kernel
theorem dX1_init_6 : decode cX1_init 6 = .ok (.iload_n 1, 1) := by decide +kernel
theorem dX1_init_7 : decode cX1_init 7 = .ok (.bipush 6, 2) := by decide +kernel
theorem dX1_init_9 : decode cX1_init 9 = .ok (.invokestatic 9, 3) := by decide +kernel
theorem dX1_init_12 : decode cX1_init 12 = .ok (.invokestatic 15, 3) := by decide +kernel
theorem dX1_init_15 : decode cX1_init 15 = .ok (.putfield 18, 3) := by decide +kernel
theorem dX1_init_18 : decode cX1_init 18 = .ok (.aload_n 0, 1) := by decide +kernel
theorem dX1_init_19 : decode cX1_init 19 = .ok (.aload_n 0, 1) := by decide +kernel
theorem dX1_init_20 : decode cX1_init 20 = .ok (.getfield 18, 3) := by decide +kernel
theorem dX1_init_23 : decode cX1_init 23 = .ok (.sipush 161, 3) := by decide +kernel
theorem dX1_init_26 : decode cX1_init 26 = .ok (.imul, 1) := by decide +kernel
theorem dX1_init_27 : decode cX1_init 27 = .ok (.newarray .int, 2) := by decide +kernel
theorem dX1_init_29 : decode cX1_init 29 = .ok (.putfield 26, 3) := by decide +kernel
theorem dX1_init_32 : decode cX1_init 32 = .ok (.return_, 1) := by decide +kernel
theorem dX1_size_0 : decode cX1_size 0 = .ok (.aload_n 0, 1) := by decide +kernel
theorem dX1_size_1 : decode cX1_size 1 = .ok (.getfield 30, 3) := by decide +kernel
theorem dX1_size_4 : decode cX1_size 4 = .ok (.ireturn, 1) := by decide +kernel
set_option maxRecDepth 20000 in
theorem ggX1_push_X1_isInside : GoodIn wsX1_push wsX1_isInside := goodIn_r _ [13, 8, 20, 21, 22, 23] (by decide +kernel) (by decide +kernel)
set_option maxRecDepth 20000 in
theorem gX1_push_X1_isInside : GoodIn wsX1_push (wsV RX1 36 RX1 yX1_isInside wsX1_isInside) := goodIn_app (goodIn_of _ (by decide +kernel)) ggX1_push_X1_isInside
set_option maxRecDepth 20000 in
theorem ggX1_push_X0_at : GoodIn wsX1_push wsX0_at := goodIn_r _ [18, 19, 24] (by decide +kernel) (by decide +kernel)
set_option maxRecDepth 20000 in
theorem gX1_push_X0_at : GoodIn wsX1_push (wsV RX1 40 RX0 yX0_at wsX0_at) := goodIn_app (goodIn_of _ (by decide +kernel)) ggX1_push_X0_at
theorem dX1_push_0 : decode cX1_push 0 = .ok (.aload_n 0, 1) := by decide +kernel
theorem dX1_push_1 : decode cX1_push 1 = .ok (.aload_n 0, 1) := by decide +kernel
theorem dX1_push_2 : decode cX1_push 2 = .ok (.getfield 33, 3) := by decide +kernel
theorem dX1_push_5 : decode cX1_push 5 = .ok (.iconst 1, 1) := by decide +kernel
theorem dX1_push_6 : decode cX1_push 6 = .ok (.iadd, 1) := by decide +kernel
theorem dX1_push_7 : decode cX1_push 7 = .ok (.aload_n 0, 1) := by decide +kernel
theorem dX1_push_8 : decode cX1_push 8 = .ok (.getfield 18, 3) := by decide +kernel
theorem dX1_push_11 : decode cX1_push 11 = .ok (.if_icmp .ge 12, 3) := by decide +kernel
theorem dX1_push_14 : decode cX1_push 14 = .ok (.aload_n 0, 1) := by decide +kernel
theorem dX1_push_15 : decode cX1_push 15 = .ok (.getfield 33, 3) := by decide +kernel
theorem dX1_push_18 : decode cX1_push 18 = .ok (.iconst 1, 1) := by decide +kernel
theorem dX1_push_19 : decode cX1_push 19 = .ok (.iadd, 1) := by decide +kernel
theorem dX1_push_20 : decode cX1_push 20 = .ok (.goto 4, 3) := by decide +kernel
theorem dX1_push_23 : decode cX1_push 23 = .ok (.iconst 0, 1) := by decide +kernel
theorem dX1_push_24 : decode cX1_push 24 = .ok (.putfield 33, 3) := by decide +kernel
theorem dX1_push_27 : decode cX1_push 27 = .ok (.aload_n 0, 1) := by decide +kernel
theorem dX1_push_28 : decode cX1_push 28 = .ok (.aload_n 0, 1) := by decide +kernel
theorem dX1_push_29 : decode cX1_push 29 = .ok (.getfield 30, 3) := by decide +kernel
theorem dX1_push_32 : decode cX1_push 32 = .ok (.iconst 1, 1) := by decide +kernel
theorem dX1_push_33 : decode cX1_push 33 = .ok (.iadd, 1) := by decide +kernel
theorem dX1_push_34 : decode cX1_push 34 = .ok (.aload_n 0, 1) := by decide +kernel
theorem dX1_push_35 : decode cX1_push 35 = .ok (.getfield 18, 3) := by decide +kernel
theorem dX1_push_38 : decode cX1_push 38 = .ok (.invokestatic 9, 3) := by decide +kernel
theorem dX1_push_41 : decode cX1_push 41 = .ok (.putfield 30, 3) := by decide +kernel
theorem dX1_push_44 : decode cX1_push 44 = .ok (.aload_n 0, 1) := by decide +kernel
theorem dX1_push_45 : decode cX1_push 45 = .ok (.getfield 33, 3) := by decide +kernel
theorem dX1_push_48 : decode cX1_push 48 = .ok (.sipush 161, 3) := by decide +kernel
theorem dX1_push_51 : decode cX1_push 51 = .ok (.imul, 1) := by decide +kernel
theorem dX1_push_52 : decode cX1_push 52 = .ok (.istore_n 2, 1) := by decide +kernel
theorem dX1_push_53 : decode cX1_push 53 = .ok (.iconst 0, 1) := by decide +kernel
theorem dX1_push_54 : decode cX1_push 54 = .ok (.istore_n 3, 1) := by decide +kernel
theorem dX1_push_55 : decode cX1_push 55 = .ok (.iload_n 3, 1) := by decide +kernel
theorem dX1_push_56 : decode cX1_push 56 = .ok (.sipush 161, 3) := by decide +kernel
theorem dX1_push_59 : decode cX1_push 59 = .ok (.if_icmp .ge 32, 3) := by decide +kernel
theorem dX1_push_62 : decode cX1_push 62 = .ok (.aload_n 0, 1) := by decide +kernel
theorem dX1_push_63 : decode cX1_push 63 = .ok (.iload_n 2, 1) := by decide +kernel
theorem dX1_push_64 : decode cX1_push 64 = .ok (.iload_n 3, 1) := by decide +kernel
theorem dX1_push_65 : decode cX1_push 65 = .ok (.iadd, 1) := by decide +kernel
theorem dX1_push_66 : decode cX1_push 66 = .ok (.invokevirtual 36, 3) := by decide +kernel
theorem dX1_push_69 : decode cX1_push 69 = .ok (.ifCond .eq 16, 3) := by decide +kernel
theorem dX1_push_72 : decode cX1_push 72 = .ok (.aload_n 0, 1) := by decide +kernel
theorem dX1_push_73 : decode cX1_push 73 = .ok (.getfield 26, 3) := by decide +kernel
theorem dX1_push_76 : decode cX1_push 76 = .ok (.iload_n 2, 1) := by decide +kernel
theorem dX1_push_77 : decode cX1_push 77 = .ok (.iload_n 3, 1) := by decide +kernel
theorem dX1_push_78 : decode cX1_push 78 = .ok (.iadd, 1) := by decide +kernel
theorem dX1_push_79 : decode cX1_push 79 = .ok (.aload_n 1, 1) := by decide +kernel
theorem dX1_push_80 : decode cX1_push 80 = .ok (.iload_n 3, 1) := by decide +kernel
theorem dX1_push_81 : decode cX1_push 81 = .ok (.invokevirtual 40, 3) := by decide +kernel
theorem dX1_push_84 : decode cX1_push 84 = .ok (.iastore, 1) := by decide +kernel
theorem dX1_push_85 : decode cX1_push 85 = .ok (.iinc 3 1, 3) := by decide +kernel
theorem dX1_push_88 : decode cX1_push 88 = .ok (.goto (-33), 3) := by decide +kernel
theorem dX1_push_91 : decode cX1_push 91 = .ok (.return_, 1) := by decide +kernel
set_option maxRecDepth 20000 in
theorem ggX1_showTop_X1_isInside : GoodIn wsX1_showTop wsX1_isInside := goodIn_r _ [7, 2, 14, 15, 16, 17] (by decide +kernel) (by decide +kernel)
set_option maxRecDepth 20000 in
theorem gX1_showTop_X1_isInside : GoodIn wsX1_showTop (wsV RX1 36 RX1 yX1_isInside wsX1_isInside) := goodIn_app (goodIn_of _ (by decide +kernel)) ggX1_showTop_X1_isInside
set_option maxRecDepth 20000 in
theorem ggX1_showTop_X0_put : GoodIn wsX1_showTop wsX0_put := goodIn_r _ [12, 13, 18] (by decide +kernel) (by decide +kernel)
set_option maxRecDepth 20000 in
theorem gX1_showTop_X0_put : GoodIn wsX1_showTop (wsV RX1 44 RX0 yX0_put wsX0_put) := goodIn_app (goodIn_of _ (by decide +kernel)) ggX1_showTop_X0_put
theorem dX1_showTop_0 : decode cX1_showTop 0 = .ok (.aload_n 0, 1) := by decide +kernel
theorem dX1_showTop_1 : decode cX1_showTop 1 = .ok (.getfield 33, 3) := by decide +kernel
theorem dX1_showTop_4 : decode cX1_showTop 4 = .ok (.sipush 161, 3) := by decide +kernel
theorem dX1_showTop_7 : decode cX1_showTop 7 = .ok (.imul, 1) := by decide +kernel
theorem dX1_showTop_8 : decode cX1_showTop 8 = .ok (.istore_n 2, 1) := by decide +kernel
theorem dX1_showTop_9 : decode cX1_showTop 9 = .ok (.iconst 0, 1) := by decide +kernel
theorem dX1_showTop_10 : decode cX1_showTop 10 = .ok (.istore_n 3, 1) := by decide +kernel
theorem dX1_showTop_11 : decode cX1_showTop 11 = .ok (.iload_n 3, 1) := by decide +kernel
theorem dX1_showTop_12 : decode cX1_showTop 12 = .ok (.sipush 161, 3) := by decide +kernel
theorem dX1_showTop_15 : decode cX1_showTop 15 = .ok (.if_icmp .ge 32, 3) := by decide +kernel
theorem dX1_showTop_18 : decode cX1_showTop 18 = .ok (.aload_n 0, 1) := by decide +kernel
theorem dX1_showTop_19 : decode cX1_showTop 19 = .ok (.iload_n 2, 1) := by decide +kernel
theorem dX1_showTop_20 : decode cX1_showTop 20 = .ok (.iload_n 3, 1) := by decide +kernel
theorem dX1_showTop_21 : decode cX1_showTop 21 = .ok (.iadd, 1) := by decide +kernel
theorem dX1_showTop_22 : decode cX1_showTop 22 = .ok (.invokevirtual 36, 3) := by decide +kernel
theorem dX1_showTop_25 : decode cX1_showTop 25 = .ok (.ifCond .eq 16, 3) := by decide +kernel
theorem dX1_showTop_28 : decode cX1_showTop 28 = .ok (.aload_n 1, 1) := by decide +kernel
theorem dX1_showTop_29 : decode cX1_showTop 29 = .ok (.iload_n 3, 1) := by decide +kernel
theorem dX1_showTop_30 : decode cX1_showTop 30 = .ok (.aload_n 0, 1) := by decide +kernel
theorem dX1_showTop_31 : decode cX1_showTop 31 = .ok (.getfield 26, 3) := by decide +kernel
theorem dX1_showTop_34 : decode cX1_showTop 34 = .ok (.iload_n 2, 1) := by decide +kernel
theorem dX1_showTop_35 : decode cX1_showTop 35 = .ok (.iload_n 3, 1) := by decide +kernel
theorem dX1_showTop_36 : decode cX1_showTop 36 = .ok (.iadd, 1) := by decide +kernel
theorem dX1_showTop_37 : decode cX1_showTop 37 = .ok (.iaload, 1) := by decide +kernel
theorem dX1_showTop_38 : decode cX1_showTop 38 = .ok (.invokevirtual 44, 3) := by decide +kernel
theorem dX1_showTop_41 : decode cX1_showTop 41 = .ok (.iinc 3 1, 3) := by decide +kernel
theorem dX1_showTop_44 : decode cX1_showTop 44 = .ok (.goto (-33), 3) := by decide +kernel
theorem dX1_showTop_47 : decode cX1_showTop 47 = .ok (.return_, 1) := by decide +kernel
theorem dX1_dropTop_0 : decode cX1_dropTop 0 = .ok (.aload_n 0, 1) := by decide +kernel
theorem dX1_dropTop_1 : decode cX1_dropTop 1 = .ok (.aload_n 0, 1) := by decide +kernel
theorem dX1_dropTop_2 : decode cX1_dropTop 2 = .ok (.getfield 33, 3) := by decide +kernel
theorem dX1_dropTop_5 : decode cX1_dropTop 5 = .ok (.ifCond .le 12, 3) := by decide +kernel
theorem dX1_dropTop_8 : decode cX1_dropTop 8 = .ok (.aload_n 0, 1) := by decide +kernel
theorem dX1_dropTop_9 : decode cX1_dropTop 9 = .ok (.getfield 33, 3) := by decide +kernel
theorem dX1_dropTop_12 : decode cX1_dropTop 12 = .ok (.iconst 1, 1) := by decide +kernel
theorem dX1_dropTop_13 : decode cX1_dropTop 13 = .ok (.isub, 1) := by decide +kernel
theorem dX1_dropTop_14 : decode cX1_dropTop 14 = .ok (.goto 9, 3) := by decide +kernel
theorem dX1_dropTop_17 : decode cX1_dropTop 17 = .ok (.aload_n 0, 1) := by decide +kernel
theorem dX1_dropTop_18 : decode cX1_dropTop 18 = .ok (.getfield 18, 3) := by decide +kernel
theorem dX1_dropTop_21 : decode cX1_dropTop 21 = .ok (.iconst 1, 1) := by decide +kernel
theorem dX1_dropTop_22 : decode cX1_dropTop 22 = .ok (.isub, 1) := by decide +kernel
theorem dX1_dropTop_23 : decode cX1_dropTop 23 = .ok (.putfield 33, 3) := by decide +kernel
theorem dX1_dropTop_26 : decode cX1_dropTop 26 = .ok (.aload_n 0, 1) := by decide +kernel
theorem dX1_dropTop_27 : decode cX1_dropTop 27 = .ok (.iconst 0, 1) := by decide +kernel
theorem dX1_dropTop_28 : decode cX1_dropTop 28 = .ok (.aload_n 0, 1) := by decide +kernel
theorem dX1_dropTop_29 : decode cX1_dropTop 29 = .ok (.getfield 30, 3) := by decide +kernel
theorem dX1_dropTop_32 : decode cX1_dropTop 32 = .ok (.iconst 1, 1) := by decide +kernel
theorem dX1_dropTop_33 : decode cX1_dropTop 33 = .ok (.isub, 1) := by decide +kernel
theorem dX1_dropTop_34 : decode cX1_dropTop 34 = .ok (.invokestatic 15, 3) := by decide +kernel
theorem dX1_dropTop_37 : decode cX1_dropTop 37 = .ok (.putfield 30, 3) := by decide +kernel
theorem dX1_dropTop_40 : decode cX1_dropTop 40 = .ok (.return_, 1) := by decide +kernel
theorem dX1_isInside_0 : decode cX1_isInside 0 = .ok (.iload_n 1, 1) := by decide +kernel
theorem dX1_isInside_1 : decode cX1_isInside 1 = .ok (.ifCond .lt 16, 3) := by decide +kernel
theorem dX1_isInside_4 : decode cX1_isInside 4 = .ok (.iload_n 1, 1) := by decide +kernel
theorem dX1_isInside_5 : decode cX1_isInside 5 = .ok (.aload_n 0, 1) := by decide +kernel
theorem dX1_isInside_6 : decode cX1_isInside 6 = .ok (.getfield 26, 3) := by decide +kernel
theorem dX1_isInside_9 : decode cX1_isInside 9 = .ok (.arraylength, 1) := by decide +kernel
theorem dX1_isInside_10 : decode cX1_isInside 10 = .ok (.if_icmp .ge 7, 3) := by decide +kernel
theorem dX1_isInside_13 : decode cX1_isInside 13 = .ok (.iconst 1, 1) := by decide +kernel
theorem dX1_isInside_14 : decode cX1_isInside 14 = .ok (.goto 4, 3) := by decide +kernel
theorem dX1_isInside_17 : decode cX1_isInside 17 = .ok (.iconst 0, 1) := by decide +kernel
theorem dX1_isInside_18 : decode cX1_isInside 18 = .ok (.ireturn, 1) := by decide +kernel
theorem dX2_init_0 : decode cX2_init 0 = .ok (.aload_n 0, 1) := by decide +kernel
theorem dX2_init_1 : decode cX2_init 1 = .ok (.invokespecial 3, 3) := by decide +kernel
theorem dX2_init_4 : decode cX2_init 4 = .ok (.aload_n 0, 1) := by decide +kernel
theorem dX2_init_5 : decode cX2_init 5 = .ok (.bipush 60, 2) := by decide +kernel
theorem dX2_init_7 : decode cX2_init 7 = .ok (.newarray .char, 2) := by decide +kernel
theorem dX2_init_9 : decode cX2_init 9 = .ok (.putfield 9, 3) := by decide +kernel
theorem dX2_init_12 : decode cX2_init 12 = .ok (.return_, 1) := by decide +kernel

abbrev rmX1_dropTop : Room := { frames := 1, cells := 0, slots := 0, locals := 21 }
abbrev MX1_dropTop : mj_M := (RX1, 1, wsX1_dropTop, rmX1_dropTop, false, none)
abbrev rmX1_init : Room := { frames := 1, cells := 1, slots := 966, locals := 21 }
abbrev MX1_init : mj_M := (RX1, 2, wsX1_init, rmX1_init, true, none)
abbrev rmX1_isInside : Room := { frames := 0, cells := 0, slots := 0, locals := 0 }
abbrev MX1_isInside : mj_M := (RX1, 2, wsX1_isInside, rmX1_isInside, false, none)
abbrev rmX1_push : Room := { frames := 1, cells := 0, slots := 0, locals := 21 }
abbrev MX1_push : mj_M := (RX1, 4, wsX1_push, rmX1_push, false, none)
abbrev rmX1_showTop : Room := { frames := 1, cells := 0, slots := 0, locals := 22 }
abbrev MX1_showTop : mj_M := (RX1, 4, wsX1_showTop, rmX1_showTop, false, none)
abbrev rmX1_size : Room := { frames := 0, cells := 0, slots := 0, locals := 0 }
abbrev MX1_size : mj_M := (RX1, 1, wsX1_size, rmX1_size, false, none)
theorem kX1_dropTop_Mmax : Cond.methodLink MX1_dropTop.1 15 Lib.Math.max.name ∈ MX1_dropTop.2.2.1 ∧ Cond.static Lib.Math.max.name ∈ MX1_dropTop.2.2.1 ∧ Cond.initialized "java/lang/Math" ∈ MX1_dropTop.2.2.1 ∧ Cond.code Lib.Math.max.name Lib.Math.max.code 2 (some .int) ∈ MX1_dropTop.2.2.1 := by decide +kernel
theorem fX1_dropTop_33 : mj_fl MX1_dropTop 33 1 2 := ⟨_, _, _, rfl, by decide +kernel, by decide, by decide +kernel⟩
theorem fX1_dropTop_18 : mj_fl MX1_dropTop 18 1 1 := ⟨_, _, _, rfl, by decide +kernel, by decide, by decide +kernel⟩
theorem pX1_dropTop_33 : mj_flp MX1_dropTop 33 1 2 .int := ⟨_, _, _, tyX1, rfl, by decide +kernel, by decide, by decide +kernel, tyX1_ok, nmX1, by decide +kernel, by decide +kernel⟩
theorem fX1_dropTop_30 : mj_fl MX1_dropTop 30 1 3 := ⟨_, _, _, rfl, by decide +kernel, by decide, by decide +kernel⟩
theorem pX1_dropTop_30 : mj_flp MX1_dropTop 30 1 3 .int := ⟨_, _, _, tyX1, rfl, by decide +kernel, by decide, by decide +kernel, tyX1_ok, nmX1, by decide +kernel, by decide +kernel⟩
theorem kX1_init_Mmin : Cond.methodLink MX1_init.1 9 Lib.Math.min.name ∈ MX1_init.2.2.1 ∧ Cond.static Lib.Math.min.name ∈ MX1_init.2.2.1 ∧ Cond.initialized "java/lang/Math" ∈ MX1_init.2.2.1 ∧ Cond.code Lib.Math.min.name Lib.Math.min.code 2 (some .int) ∈ MX1_init.2.2.1 := by decide +kernel
theorem kX1_init_Mmax : Cond.methodLink MX1_init.1 15 Lib.Math.max.name ∈ MX1_init.2.2.1 ∧ Cond.static Lib.Math.max.name ∈ MX1_init.2.2.1 ∧ Cond.initialized "java/lang/Math" ∈ MX1_init.2.2.1 ∧ Cond.code Lib.Math.max.name Lib.Math.max.code 2 (some .int) ∈ MX1_init.2.2.1 := by decide +kernel
theorem pX1_init_18 : mj_flp MX1_init 18 1 1 .int := ⟨_, _, _, tyX1, rfl, by decide +kernel, by decide, by decide +kernel, tyX1_ok, nmX1, by decide +kernel, by decide +kernel⟩
theorem fX1_init_18 : mj_fl MX1_init 18 1 1 := ⟨_, _, _, rfl, by decide +kernel, by decide, by decide +kernel⟩
theorem pX1_init_26 : mj_flp MX1_init 26 1 0 (.array .int) := ⟨_, _, _, tyX1, rfl, by decide +kernel, by decide, by decide +kernel, tyX1_ok, nmX1, by decide +kernel, by decide +kernel⟩
theorem fX1_isInside_26 : mj_fl MX1_isInside 26 1 0 := ⟨_, _, _, rfl, by decide +kernel, by decide, by decide +kernel⟩
theorem kX1_push_Mmin : Cond.methodLink MX1_push.1 9 Lib.Math.min.name ∈ MX1_push.2.2.1 ∧ Cond.static Lib.Math.min.name ∈ MX1_push.2.2.1 ∧ Cond.initialized "java/lang/Math" ∈ MX1_push.2.2.1 ∧ Cond.code Lib.Math.min.name Lib.Math.min.code 2 (some .int) ∈ MX1_push.2.2.1 := by decide +kernel
theorem kX1_push_X1_isInside : mj_cwV MX1_push 36 RX1 yX1_isInside wsX1_isInside rmX1_isInside 1 := ⟨_, _, _, _, gX1_push_X1_isInside, rfl, by decide +kernel, by decide⟩
theorem kX1_push_X0_at : mj_cwV MX1_push 40 RX0 yX0_at wsX0_at rmX0_at 1 := ⟨_, _, _, _, gX1_push_X0_at, rfl, by decide +kernel, by decide⟩
theorem fX1_push_33 : mj_fl MX1_push 33 1 2 := ⟨_, _, _, rfl, by decide +kernel, by decide, by decide +kernel⟩
theorem fX1_push_18 : mj_fl MX1_push 18 1 1 := ⟨_, _, _, rfl, by decide +kernel, by decide, by decide +kernel⟩
theorem pX1_push_33 : mj_flp MX1_push 33 1 2 .int := ⟨_, _, _, tyX1, rfl, by decide +kernel, by decide, by decide +kernel, tyX1_ok, nmX1, by decide +kernel, by decide +kernel⟩
theorem fX1_push_30 : mj_fl MX1_push 30 1 3 := ⟨_, _, _, rfl, by decide +kernel, by decide, by decide +kernel⟩
theorem pX1_push_30 : mj_flp MX1_push 30 1 3 .int := ⟨_, _, _, tyX1, rfl, by decide +kernel, by decide, by decide +kernel, tyX1_ok, nmX1, by decide +kernel, by decide +kernel⟩
theorem fX1_push_26 : mj_fl MX1_push 26 1 0 := ⟨_, _, _, rfl, by decide +kernel, by decide, by decide +kernel⟩
theorem kX1_showTop_X1_isInside : mj_cwV MX1_showTop 36 RX1 yX1_isInside wsX1_isInside rmX1_isInside 1 := ⟨_, _, _, _, gX1_showTop_X1_isInside, rfl, by decide +kernel, by decide⟩
theorem kX1_showTop_X0_put : mj_cwV MX1_showTop 44 RX0 yX0_put wsX0_put rmX0_put 2 := ⟨_, _, _, _, gX1_showTop_X0_put, rfl, by decide +kernel, by decide⟩
theorem fX1_showTop_33 : mj_fl MX1_showTop 33 1 2 := ⟨_, _, _, rfl, by decide +kernel, by decide, by decide +kernel⟩
theorem fX1_showTop_26 : mj_fl MX1_showTop 26 1 0 := ⟨_, _, _, rfl, by decide +kernel, by decide, by decide +kernel⟩
theorem fX1_size_30 : mj_fl MX1_size 30 1 3 := ⟨_, _, _, rfl, by decide +kernel, by decide, by decide +kernel⟩
abbrev rmX2_beginDays : Room := { frames := 1, cells := 0, slots := 0, locals := 21 }
abbrev rmX2_beginPart : Room := { frames := 0, cells := 0, slots := 0, locals := 0 }
abbrev rmX2_endsPart : Room := { frames := 0, cells := 0, slots := 0, locals := 0 }
abbrev rmX2_init : Room := { frames := 1, cells := 1, slots := 60, locals := 21 }
abbrev MX2_init : mj_M := (RX2, 1, wsX2_init, rmX2_init, true, none)
abbrev rmX2_isComplete : Room := { frames := 3, cells := 0, slots := 0, locals := 62 }
abbrev rmX2_isDigit : Room := { frames := 0, cells := 0, slots := 0, locals := 0 }
abbrev rmX2_isPartBegin : Room := { frames := 1, cells := 0, slots := 0, locals := 21 }
abbrev rmX2_length : Room := { frames := 0, cells := 0, slots := 0, locals := 0 }
abbrev rmX2_numberAt : Room := { frames := 1, cells := 0, slots := 0, locals := 21 }
abbrev rmX2_push : Room := { frames := 0, cells := 0, slots := 0, locals := 0 }
abbrev rmX2_readNext : Room := { frames := 2, cells := 0, slots := 0, locals := 41 }
abbrev rmX2_rightSigns : Room := { frames := 3, cells := 0, slots := 0, locals := 62 }
abbrev rmX2_signAt : Room := { frames := 0, cells := 0, slots := 0, locals := 0 }
abbrev rmX2_wipe : Room := { frames := 0, cells := 0, slots := 0, locals := 0 }
theorem pX2_init_9 : mj_flp MX2_init 9 2 0 (.array .char) := ⟨_, _, _, tyX2, rfl, by decide +kernel, by decide, by decide +kernel, tyX2_ok, nmX2, by decide +kernel, by decide +kernel⟩

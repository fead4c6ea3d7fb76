theorem dX1_init_0 : decode cX1_init 0 = .ok (.aload_n 0, 1) := by decide +kernel
theorem dX1_init_1 : decode cX1_init 1 = .ok (.invokespecial 3, 3) := by decide +kernel
theorem dX1_init_4 : decode cX1_init 4 = .ok (.aload_n 0, 1) := by decide +kernel
theorem dX1_init_5 : decode cX1_init 5 = .ok (.bipush 12, 2) := by decide +kernel
theorem dX1_init_7 : decode cX1_init 7 = .ok (.anewarray 9, 3) := by decide +kernel
theorem dX1_init_10 : decode cX1_init 10 = .ok (.putfield 11, 3) := by decide +kernel
theorem dX1_init_13 : decode cX1_init 13 = .ok (.aload_n 0, 1) := by decide +kernel
theorem dX1_init_14 : decode cX1_init 14 = .ok (.bipush 12, 2) := by decide +kernel
theorem dX1_init_16 : decode cX1_init 16 = .ok (.newarray .int, 2) := by decide +kernel
theorem dX1_init_18 : decode cX1_init 18 = .ok (.putfield 17, 3) := by decide +kernel
theorem dX1_init_21 : decode cX1_init 21 = .ok (.aload_n 0, 1) := by decide +kernel
theorem dX1_init_22 : decode cX1_init 22 = .ok (.bipush 12, 2) := by decide +kernel
theorem dX1_init_24 : decode cX1_init 24 = .ok (.newarray .int, 2) := by decide +kernel
theorem dX1_init_26 : decode cX1_init 26 = .ok (.putfield 21, 3) := by decide +kernel
theorem dX1_init_29 : decode cX1_init 29 = .ok (.aload_n 0, 1) := by decide +kernel
theorem dX1_init_30 : decode cX1_init 30 = .ok (.iconst 0, 1) := by decide +kernel
theorem dX1_init_31 : decode cX1_init 31 = .ok (.putfield 24, 3) := by decide +kernel
theorem dX1_init_34 : decode cX1_init 34 = .ok (.return_, 1) := by decide +kernel
theorem dX1_isUnderWay_0 : decode cX1_isUnderWay 0 = .ok (.aload_n 0, 1) := by decide +kernel
theorem dX1_isUnderWay_1 : decode cX1_isUnderWay 1 = .ok (.getfield 24, 3) := by decide +kernel
theorem dX1_isUnderWay_4 : decode cX1_isUnderWay 4 = .ok (.ifCond .le 19, 3) := by decide +kernel
theorem dX1_isUnderWay_7 : decode cX1_isUnderWay 7 = .ok (.aload_n 0, 1) := by decide +kernel
theorem dX1_isUnderWay_8 : decode cX1_isUnderWay 8 = .ok (.getfield 24, 3) := by decide +kernel
theorem dX1_isUnderWay_11 : decode cX1_isUnderWay 11 = .ok (.aload_n 0, 1) := by decide +kernel
theorem dX1_isUnderWay_12 : decode cX1_isUnderWay 12 = .ok (.getfield 11, 3) := by decide +kernel
theorem dX1_isUnderWay_15 : decode cX1_isUnderWay 15 = .ok (.arraylength, 1) := by decide +kernel
theorem dX1_isUnderWay_16 : decode cX1_isUnderWay 16 = .ok (.if_icmp .gt 7, 3) := by decide +kernel
theorem dX1_isUnderWay_19 : decode cX1_isUnderWay 19 = .ok (.iconst 1, 1) := by decide +kernel
theorem dX1_isUnderWay_20 : decode cX1_isUnderWay 20 = .ok (.goto 4, 3) := by decide +kernel
theorem dX1_isUnderWay_23 : decode cX1_isUnderWay 23 = .ok (.iconst 0, 1) := by decide +kernel
theorem dX1_isUnderWay_24 : decode cX1_isUnderWay 24 = .ok (.ireturn, 1) := by decide +kernel
theorem dX1_enter_0 : decode cX1_enter 0 = .ok (.aload_n 0, 1) := by decide +kernel
theorem dX1_enter_1 : decode cX1_enter 1 = .ok (.getfield 24, 3) := by decide +kernel
theorem dX1_enter_4 : decode cX1_enter 4 = .ok (.ifCond .lt 15, 3) := by decide +kernel
theorem dX1_enter_7 : decode cX1_enter 7 = .ok (.aload_n 0, 1) := by decide +kernel
theorem dX1_enter_8 : decode cX1_enter 8 = .ok (.getfield 24, 3) := by decide +kernel
theorem dX1_enter_11 : decode cX1_enter 11 = .ok (.aload_n 0, 1) := by decide +kernel
theorem dX1_enter_12 : decode cX1_enter 12 = .ok (.getfield 11, 3) := by decide +kernel
theorem dX1_enter_15 : decode cX1_enter 15 = .ok (.arraylength, 1) := by decide +kernel
theorem dX1_enter_16 : decode cX1_enter 16 = .ok (.if_icmp .lt 13, 3) := by decide +kernel
theorem dX1_enter_19 : decode cX1_enter 19 = .ok (.new 28, 3) := by decide +kernel
theorem dX1_enter_22 : decode cX1_enter 22 = .ok (.dup, 1) := by decide +kernel
theorem dX1_enter_23 : decode cX1_enter 23 = .ok (.ldc 30, 2) := by decide +kernel
theorem dX1_enter_25 : decode cX1_enter 25 = .ok (.invokespecial 32, 3) := by decide +kernel
theorem dX1_enter_28 : decode cX1_enter 28 = .ok (.athrow, 1) := by decide +kernel
theorem dX1_enter_29 : decode cX1_enter 29 = .ok (.aload_n 0, 1) := by decide +kernel
theorem dX1_enter_30 : decode cX1_enter 30 = .ok (.getfield 11, 3) := by decide +kernel
theorem dX1_enter_33 : decode cX1_enter 33 = .ok (.aload_n 0, 1) := by decide +kernel
theorem dX1_enter_34 : decode cX1_enter 34 = .ok (.getfield 24, 3) := by decide +kernel
theorem dX1_enter_37 : decode cX1_enter 37 = .ok (.aload_n 1, 1) := by decide +kernel
theorem dX1_enter_38 : decode cX1_enter 38 = .ok (.aastore, 1) := by decide +kernel
theorem dX1_enter_39 : decode cX1_enter 39 = .ok (.aload_n 0, 1) := by decide +kernel
theorem dX1_enter_40 : decode cX1_enter 40 = .ok (.getfield 17, 3) := by decide +kernel
theorem dX1_enter_43 : decode cX1_enter 43 = .ok (.aload_n 0, 1) := by decide +kernel
theorem dX1_enter_44 : decode cX1_enter 44 = .ok (.getfield 24, 3) := by decide +kernel
theorem dX1_enter_47 : decode cX1_enter 47 = .ok (.iload_n 2, 1) := by decide +kernel
theorem dX1_enter_48 : decode cX1_enter 48 = .ok (.iastore, 1) := by decide +kernel
theorem dX1_enter_49 : decode cX1_enter 49 = .ok (.aload_n 0, 1) := by decide +kernel
theorem dX1_enter_50 : decode cX1_enter 50 = .ok (.getfield 21, 3) := by decide +kernel
theorem dX1_enter_53 : decode cX1_enter 53 = .ok (.aload_n 0, 1) := by decide +kernel
theorem dX1_enter_54 : decode cX1_enter 54 = .ok (.getfield 24, 3) := by decide +kernel
theorem dX1_enter_57 : decode cX1_enter 57 = .ok (.iload_n 2, 1) := by decide +kernel
theorem dX1_enter_58 : decode cX1_enter 58 = .ok (.iload_n 3, 1) := by decide +kernel
theorem dX1_enter_59 : decode cX1_enter 59 = .ok (.iadd, 1) := by decide +kernel
theorem dX1_enter_60 : decode cX1_enter 60 = .ok (.iastore, 1) := by decide +kernel
theorem dX1_enter_61 : decode cX1_enter 61 = .ok (.aload_n 0, 1) := by decide +kernel
theorem dX1_enter_62 : decode cX1_enter 62 = .ok (.dup, 1) := by decide +kernel
theorem dX1_enter_63 : decode cX1_enter 63 = .ok (.getfield 24, 3) := by decide +kernel
theorem dX1_enter_66 : decode cX1_enter 66 = .ok (.iconst 1, 1) := by decide +kernel
theorem dX1_enter_67 : decode cX1_enter 67 = .ok (.iadd, 1) := by decide +kernel
theorem dX1_enter_68 : decode cX1_enter 68 = .ok (.putfield 24, 3) := by decide +kernel
theorem dX1_enter_71 : decode cX1_enter 71 = .ok (.return_, 1) := by decide +kernel
set_option maxRecDepth 20000 in
theorem ggX1_enterMacro_X1_skipBlanks : GoodIn wsX1_enterMacro wsX1_skipBlanks := goodIn_r _ [5, 6, 7, 8, 4, 9, 10, 11, 12, 13, 14, 15, 16, 17, 18, 19, 20, 21, 22, 23, 24, 25, 26, 27, 28, 43, 44, 45, 46, 47, 48] (by decide +kernel) (by decide +kernel)
set_option maxRecDepth 20000 in
theorem gX1_enterMacro_X1_skipBlanks : GoodIn wsX1_enterMacro (wsV RX1 35 RX1 yX1_skipBlanks wsX1_skipBlanks) := goodIn_app (goodIn_of _ (by decide +kernel)) ggX1_enterMacro_X1_skipBlanks
set_option maxRecDepth 20000 in
theorem ggX1_enterMacro_X1_look : GoodIn wsX1_enterMacro wsX1_look := goodIn_r _ [9, 10, 11, 12, 13, 14, 15, 16, 4, 17, 18, 19, 20, 21, 22, 23, 24, 43, 44, 45, 46, 47, 48] (by decide +kernel) (by decide +kernel)
set_option maxRecDepth 20000 in
theorem gX1_enterMacro_X1_look : GoodIn wsX1_enterMacro (wsV RX1 38 RX1 yX1_look wsX1_look) := goodIn_app (goodIn_of _ (by decide +kernel)) ggX1_enterMacro_X1_look
set_option maxRecDepth 20000 in
theorem ggX1_enterMacro_X1_leave : GoodIn wsX1_enterMacro wsX1_leave := goodIn_r _ [32, 11, 33, 34, 35, 36, 43, 44, 45, 46] (by decide +kernel) (by decide +kernel)
set_option maxRecDepth 20000 in
theorem gX1_enterMacro_X1_leave : GoodIn wsX1_enterMacro (wsV RX1 42 RX1 yX1_leave wsX1_leave) := goodIn_app (goodIn_of _ (by decide +kernel)) ggX1_enterMacro_X1_leave
set_option maxRecDepth 20000 in
theorem ggX1_enterMacro_X1_enter : GoodIn wsX1_enterMacro wsX1_enter := goodIn_ca (goodIn_r _ [40, 41, 42, 11, 13, 10, 12, 43, 44, 45, 46] (by decide +kernel) (by decide +kernel)) (goodIn_sub (fun _ h => List.mem_cons_of_mem _ (List.mem_append_right _ h)) (by decide +kernel))
set_option maxRecDepth 20000 in
theorem gX1_enterMacro_X1_enter : GoodIn wsX1_enterMacro (wsV RX1 45 RX1 yX1_enter wsX1_enter) := goodIn_app (goodIn_of _ (by decide +kernel)) ggX1_enterMacro_X1_enter
theorem dX1_enterMacro_0 : decode cX1_enterMacro 0 = .ok (.aload_n 0, 1) := by decide +kernel
theorem dX1_enterMacro_1 : decode cX1_enterMacro 1 = .ok (.invokevirtual 35, 3) := by decide +kernel
theorem dX1_enterMacro_4 : decode cX1_enterMacro 4 = .ok (.aload_n 0, 1) := by decide +kernel
theorem dX1_enterMacro_5 : decode cX1_enterMacro 5 = .ok (.invokevirtual 38, 3) := by decide +kernel
theorem dX1_enterMacro_8 : decode cX1_enterMacro 8 = .ok (.ifCond .ne 7, 3) := by decide +kernel
theorem dX1_enterMacro_11 : decode cX1_enterMacro 11 = .ok (.aload_n 0, 1) := by decide +kernel
theorem dX1_enterMacro_12 : decode cX1_enterMacro 12 = .ok (.invokevirtual 42, 3) := by decide +kernel
theorem dX1_enterMacro_15 : decode cX1_enterMacro 15 = .ok (.aload_n 0, 1) := by decide +kernel
theorem dX1_enterMacro_16 : decode cX1_enterMacro 16 = .ok (.aload_n 1, 1) := by decide +kernel
theorem dX1_enterMacro_17 : decode cX1_enterMacro 17 = .ok (.iload_n 2, 1) := by decide +kernel
theorem dX1_enterMacro_18 : decode cX1_enterMacro 18 = .ok (.iload_n 3, 1) := by decide +kernel
theorem dX1_enterMacro_19 : decode cX1_enterMacro 19 = .ok (.invokevirtual 45, 3) := by decide +kernel
theorem dX1_enterMacro_22 : decode cX1_enterMacro 22 = .ok (.return_, 1) := by decide +kernel
theorem dX1_leave_0 : decode cX1_leave 0 = .ok (.aload_n 0, 1) := by decide +kernel
theorem dX1_leave_1 : decode cX1_leave 1 = .ok (.iconst 0, 1) := by decide +kernel
theorem dX1_leave_2 : decode cX1_leave 2 = .ok (.aload_n 0, 1) := by decide +kernel
theorem dX1_leave_3 : decode cX1_leave 3 = .ok (.getfield 24, 3) := by decide +kernel
theorem dX1_leave_6 : decode cX1_leave 6 = .ok (.iconst 1, 1) := by decide +kernel
theorem dX1_leave_7 : decode cX1_leave 7 = .ok (.isub, 1) := by decide +kernel
theorem dX1_leave_8 : decode cX1_leave 8 = .ok (.invokestatic 49, 3) := by decide +kernel
theorem dX1_leave_11 : decode cX1_leave 11 = .ok (.putfield 24, 3) := by decide +kernel
theorem dX1_leave_14 : decode cX1_leave 14 = .ok (.return_, 1) := by decide +kernel
theorem dX1_leaveAll_0 : decode cX1_leaveAll 0 = .ok (.aload_n 0, 1) := by decide +kernel
theorem dX1_leaveAll_1 : decode cX1_leaveAll 1 = .ok (.iconst 0, 1) := by decide +kernel
theorem dX1_leaveAll_2 : decode cX1_leaveAll 2 = .ok (.putfield 24, 3) := by decide +kernel
theorem dX1_leaveAll_5 : decode cX1_leaveAll 5 = .ok (.return_, 1) := by decide +kernel
set_option maxRecDepth 20000 in
theorem ggX1_innermostRow_X1_isUnderWay : GoodIn wsX1_innermostRow wsX1_isUnderWay := goodIn_r _ [7, 2, 1, 8, 9, 10, 11] (by decide +kernel) (by decide +kernel)
set_option maxRecDepth 20000 in
theorem gX1_innermostRow_X1_isUnderWay : GoodIn wsX1_innermostRow (wsV RX1 55 RX1 yX1_isUnderWay wsX1_isUnderWay) := goodIn_app (goodIn_of _ (by decide +kernel)) ggX1_innermostRow_X1_isUnderWay
theorem dX1_innermostRow_0 : decode cX1_innermostRow 0 = .ok (.aload_n 0, 1) := by decide +kernel
theorem dX1_innermostRow_1 : decode cX1_innermostRow 1 = .ok (.invokevirtual 55, 3) := by decide +kernel
theorem dX1_innermostRow_4 : decode cX1_innermostRow 4 = .ok (.ifCond .eq 17, 3) := by decide +kernel
theorem dX1_innermostRow_7 : decode cX1_innermostRow 7 = .ok (.aload_n 0, 1) := by decide +kernel
theorem dX1_innermostRow_8 : decode cX1_innermostRow 8 = .ok (.getfield 11, 3) := by decide +kernel
theorem dX1_innermostRow_11 : decode cX1_innermostRow 11 = .ok (.aload_n 0, 1) := by decide +kernel
theorem dX1_innermostRow_12 : decode cX1_innermostRow 12 = .ok (.getfield 24, 3) := by decide +kernel
theorem dX1_innermostRow_15 : decode cX1_innermostRow 15 = .ok (.iconst 1, 1) := by decide +kernel
theorem dX1_innermostRow_16 : decode cX1_innermostRow 16 = .ok (.isub, 1) := by decide +kernel
theorem dX1_innermostRow_17 : decode cX1_innermostRow 17 = .ok (.aaload, 1) := by decide +kernel
theorem dX1_innermostRow_18 : decode cX1_innermostRow 18 = .ok (.goto 4, 3) := by decide +kernel
theorem dX1_innermostRow_21 : decode cX1_innermostRow 21 = .ok (.aconst_null, 1) := by decide +kernel
theorem dX1_innermostRow_22 : decode cX1_innermostRow 22 = .ok (.areturn, 1) := by decide +kernel
set_option maxRecDepth 20000 in
theorem ggX1_position_X1_isUnderWay : GoodIn wsX1_position wsX1_isUnderWay := goodIn_r _ [7, 2, 8, 9, 10, 11, 12] (by decide +kernel) (by decide +kernel)
set_option maxRecDepth 20000 in
theorem gX1_position_X1_isUnderWay : GoodIn wsX1_position (wsV RX1 55 RX1 yX1_isUnderWay wsX1_isUnderWay) := goodIn_app (goodIn_of _ (by decide +kernel)) ggX1_position_X1_isUnderWay
theorem dX1_position_0 : decode cX1_position 0 = .ok (.aload_n 0, 1) := by decide +kernel
theorem dX1_position_1 : decode cX1_position 1 = .ok (.invokevirtual 55, 3) := by decide +kernel
theorem dX1_position_4 : decode cX1_position 4 = .ok (.ifCond .eq 17, 3) := by decide +kernel
theorem dX1_position_7 : decode cX1_position 7 = .ok (.aload_n 0, 1) := by decide +kernel
theorem dX1_position_8 : decode cX1_position 8 = .ok (.getfield 17, 3) := by decide +kernel
theorem dX1_position_11 : decode cX1_position 11 = .ok (.aload_n 0, 1) := by decide +kernel
theorem dX1_position_12 : decode cX1_position 12 = .ok (.getfield 24, 3) := by decide +kernel
theorem dX1_position_15 : decode cX1_position 15 = .ok (.iconst 1, 1) := by decide +kernel
theorem dX1_position_16 : decode cX1_position 16 = .ok (.isub, 1) := by decide +kernel
theorem dX1_position_17 : decode cX1_position 17 = .ok (.iaload, 1) := by decide +kernel
theorem dX1_position_18 : decode cX1_position 18 = .ok (.goto 4, 3) := by decide +kernel
theorem dX1_position_21 : decode cX1_position 21 = .ok (.iconst 0, 1) := by decide +kernel
theorem dX1_position_22 : decode cX1_position 22 = .ok (.ireturn, 1) := by decide +kernel
set_option maxRecDepth 20000 in
theorem ggX1_look_X1_isUnderWay : GoodIn wsX1_look wsX1_isUnderWay := goodIn_r _ [9, 2, 4, 17, 18, 19, 20] (by decide +kernel) (by decide +kernel)
set_option maxRecDepth 20000 in
theorem gX1_look_X1_isUnderWay : GoodIn wsX1_look (wsV RX1 55 RX1 yX1_isUnderWay wsX1_isUnderWay) := goodIn_app (goodIn_of _ (by decide +kernel)) ggX1_look_X1_isUnderWay
set_option maxRecDepth 20000 in
theorem ggX1_look_X2_charAt : GoodIn wsX1_look wsX2_charAt := goodIn_r _ [14, 15, 16, 21, 22] (by decide +kernel) (by decide +kernel)
set_option maxRecDepth 20000 in
theorem gX1_look_X2_charAt : GoodIn wsX1_look (wsV RX1 59 RX2 yX2_charAt wsX2_charAt) := goodIn_app (goodIn_of _ (by decide +kernel)) ggX1_look_X2_charAt
theorem dX1_look_0 : decode cX1_look 0 = .ok (.aload_n 0, 1) := by decide +kernel
theorem dX1_look_1 : decode cX1_look 1 = .ok (.invokevirtual 55, 3) := by decide +kernel
theorem dX1_look_4 : decode cX1_look 4 = .ok (.ifCond .eq 28, 3) := by decide +kernel
theorem dX1_look_7 : decode cX1_look 7 = .ok (.aload_n 0, 1) := by decide +kernel
theorem dX1_look_8 : decode cX1_look 8 = .ok (.getfield 17, 3) := by decide +kernel
theorem dX1_look_11 : decode cX1_look 11 = .ok (.aload_n 0, 1) := by decide +kernel
theorem dX1_look_12 : decode cX1_look 12 = .ok (.getfield 24, 3) := by decide +kernel
theorem dX1_look_15 : decode cX1_look 15 = .ok (.iconst 1, 1) := by decide +kernel
theorem dX1_look_16 : decode cX1_look 16 = .ok (.isub, 1) := by decide +kernel
theorem dX1_look_17 : decode cX1_look 17 = .ok (.iaload, 1) := by decide +kernel
theorem dX1_look_18 : decode cX1_look 18 = .ok (.aload_n 0, 1) := by decide +kernel
theorem dX1_look_19 : decode cX1_look 19 = .ok (.getfield 21, 3) := by decide +kernel
theorem dX1_look_22 : decode cX1_look 22 = .ok (.aload_n 0, 1) := by decide +kernel
theorem dX1_look_23 : decode cX1_look 23 = .ok (.getfield 24, 3) := by decide +kernel
theorem dX1_look_26 : decode cX1_look 26 = .ok (.iconst 1, 1) := by decide +kernel
theorem dX1_look_27 : decode cX1_look 27 = .ok (.isub, 1) := by decide +kernel
theorem dX1_look_28 : decode cX1_look 28 = .ok (.iaload, 1) := by decide +kernel
theorem dX1_look_29 : decode cX1_look 29 = .ok (.if_icmp .lt 5, 3) := by decide +kernel
theorem dX1_look_32 : decode cX1_look 32 = .ok (.iconst 0, 1) := by decide +kernel
theorem dX1_look_33 : decode cX1_look 33 = .ok (.ireturn, 1) := by decide +kernel
theorem dX1_look_34 : decode cX1_look 34 = .ok (.aload_n 0, 1) := by decide +kernel
theorem dX1_look_35 : decode cX1_look 35 = .ok (.getfield 11, 3) := by decide +kernel
theorem dX1_look_38 : decode cX1_look 38 = .ok (.aload_n 0, 1) := by decide +kernel
theorem dX1_look_39 : decode cX1_look 39 = .ok (.getfield 24, 3) := by decide +kernel
theorem dX1_look_42 : decode cX1_look 42 = .ok (.iconst 1, 1) := by decide +kernel
theorem dX1_look_43 : decode cX1_look 43 = .ok (.isub, 1) := by decide +kernel
theorem dX1_look_44 : decode cX1_look 44 = .ok (.aaload, 1) := by decide +kernel
theorem dX1_look_45 : decode cX1_look 45 = .ok (.astore_n 1, 1) := by decide +kernel
theorem dX1_look_46 : decode cX1_look 46 = .ok (.aload_n 1, 1) := by decide +kernel
theorem dX1_look_47 : decode cX1_look 47 = .ok (.ifnonnull 7, 3) := by decide +kernel
theorem dX1_look_50 : decode cX1_look 50 = .ok (.iconst 0, 1) := by decide +kernel
theorem dX1_look_51 : decode cX1_look 51 = .ok (.goto 18, 3) := by decide +kernel
theorem dX1_look_54 : decode cX1_look 54 = .ok (.aload_n 1, 1) := by decide +kernel
theorem dX1_look_55 : decode cX1_look 55 = .ok (.aload_n 0, 1) := by decide +kernel
theorem dX1_look_56 : decode cX1_look 56 = .ok (.getfield 17, 3) := by decide +kernel
theorem dX1_look_59 : decode cX1_look 59 = .ok (.aload_n 0, 1) := by decide +kernel
theorem dX1_look_60 : decode cX1_look 60 = .ok (.getfield 24, 3) := by decide +kernel
theorem dX1_look_63 : decode cX1_look 63 = .ok (.iconst 1, 1) := by decide +kernel
theorem dX1_look_64 : decode cX1_look 64 = .ok (.isub, 1) := by decide +kernel
theorem dX1_look_65 : decode cX1_look 65 = .ok (.iaload, 1) := by decide +kernel
theorem dX1_look_66 : decode cX1_look 66 = .ok (.invokevirtual 59, 3) := by decide +kernel
theorem dX1_look_69 : decode cX1_look 69 = .ok (.ireturn, 1) := by decide +kernel
set_option maxRecDepth 20000 in
theorem ggX1_pass_X1_isUnderWay : GoodIn wsX1_pass wsX1_isUnderWay := goodIn_r _ [7, 2, 8, 9, 10, 11, 12] (by decide +kernel) (by decide +kernel)
set_option maxRecDepth 20000 in
theorem gX1_pass_X1_isUnderWay : GoodIn wsX1_pass (wsV RX1 55 RX1 yX1_isUnderWay wsX1_isUnderWay) := goodIn_app (goodIn_of _ (by decide +kernel)) ggX1_pass_X1_isUnderWay
theorem dX1_pass_0 : decode cX1_pass 0 = .ok (.aload_n 0, 1) := by decide +kernel
theorem dX1_pass_1 : decode cX1_pass 1 = .ok (.invokevirtual 55, 3) := by decide +kernel
theorem dX1_pass_4 : decode cX1_pass 4 = .ok (.ifCond .eq 18, 3) := by decide +kernel
theorem dX1_pass_7 : decode cX1_pass 7 = .ok (.aload_n 0, 1) := by decide +kernel
theorem dX1_pass_8 : decode cX1_pass 8 = .ok (.getfield 17, 3) := by decide +kernel
theorem dX1_pass_11 : decode cX1_pass 11 = .ok (.aload_n 0, 1) := by decide +kernel
theorem dX1_pass_12 : decode cX1_pass 12 = .ok (.getfield 24, 3) := by decide +kernel
theorem dX1_pass_15 : decode cX1_pass 15 = .ok (.iconst 1, 1) := by decide +kernel
theorem dX1_pass_16 : decode cX1_pass 16 = .ok (.isub, 1) := by decide +kernel
theorem dX1_pass_17 : decode cX1_pass 17 = .ok (.dup2, 1) := by decide +kernel
theorem dX1_pass_18 : decode cX1_pass 18 = .ok (.iaload, 1) := by decide +kernel
theorem dX1_pass_19 : decode cX1_pass 19 = .ok (.iconst 1, 1) := by decide +kernel
theorem dX1_pass_20 : decode cX1_pass 20 = .ok (.iadd, 1) := by decide +kernel
theorem dX1_pass_21 : decode cX1_pass 21 = .ok (.iastore, 1) := by decide +kernel
theorem dX1_pass_22 : decode cX1_pass 22 = .ok (.return_, 1) := by decide +kernel
set_option maxRecDepth 20000 in
theorem ggX1_skipBlanks_X1_look : GoodIn wsX1_skipBlanks wsX1_look := goodIn_r _ [5, 6, 7, 8, 9, 10, 11, 12, 4, 13, 14, 15, 16, 17, 18, 19, 20, 25, 26, 27, 28, 29, 30] (by decide +kernel) (by decide +kernel)
set_option maxRecDepth 20000 in
theorem gX1_skipBlanks_X1_look : GoodIn wsX1_skipBlanks (wsV RX1 38 RX1 yX1_look wsX1_look) := goodIn_app (goodIn_of _ (by decide +kernel)) ggX1_skipBlanks_X1_look
set_option maxRecDepth 20000 in
theorem ggX1_skipBlanks_X1_pass : GoodIn wsX1_skipBlanks wsX1_pass := goodIn_r _ [24, 6, 7, 10, 11, 12, 4, 13, 9, 25, 26, 27, 28] (by decide +kernel) (by decide +kernel)
set_option maxRecDepth 20000 in
theorem gX1_skipBlanks_X1_pass : GoodIn wsX1_skipBlanks (wsV RX1 63 RX1 yX1_pass wsX1_pass) := goodIn_app (goodIn_of _ (by decide +kernel)) ggX1_skipBlanks_X1_pass
theorem dX1_skipBlanks_0 : decode cX1_skipBlanks 0 = .ok (.iconst 0, 1) := by decide +kernel
theorem dX1_skipBlanks_1 : decode cX1_skipBlanks 1 = .ok (.istore_n 1, 1) := by decide +kernel
theorem dX1_skipBlanks_2 : decode cX1_skipBlanks 2 = .ok (.iload_n 1, 1) := by decide +kernel
theorem dX1_skipBlanks_3 : decode cX1_skipBlanks 3 = .ok (.sipush 160, 3) := by decide +kernel
theorem dX1_skipBlanks_6 : decode cX1_skipBlanks 6 = .ok (.if_icmp .ge 31, 3) := by decide +kernel
theorem dX1_skipBlanks_9 : decode cX1_skipBlanks 9 = .ok (.aload_n 0, 1) := by decide +kernel
theorem dX1_skipBlanks_10 : decode cX1_skipBlanks 10 = .ok (.invokevirtual 38, 3) := by decide +kernel
theorem dX1_skipBlanks_13 : decode cX1_skipBlanks 13 = .ok (.bipush 32, 2) := by decide +kernel
theorem dX1_skipBlanks_15 : decode cX1_skipBlanks 15 = .ok (.if_icmp .eq 12, 3) := by decide +kernel
theorem dX1_skipBlanks_18 : decode cX1_skipBlanks 18 = .ok (.aload_n 0, 1) := by decide +kernel
theorem dX1_skipBlanks_19 : decode cX1_skipBlanks 19 = .ok (.invokevirtual 38, 3) := by decide +kernel
theorem dX1_skipBlanks_22 : decode cX1_skipBlanks 22 = .ok (.bipush 10, 2) := by decide +kernel
theorem dX1_skipBlanks_24 : decode cX1_skipBlanks 24 = .ok (.if_icmp .ne 13, 3) := by decide +kernel
theorem dX1_skipBlanks_27 : decode cX1_skipBlanks 27 = .ok (.aload_n 0, 1) := by decide +kernel
theorem dX1_skipBlanks_28 : decode cX1_skipBlanks 28 = .ok (.invokevirtual 63, 3) := by decide +kernel
theorem dX1_skipBlanks_31 : decode cX1_skipBlanks 31 = .ok (.iinc 1 1, 3) := by decide +kernel
theorem dX1_skipBlanks_34 : decode cX1_skipBlanks 34 = .ok (.goto (-32), 3) := by decide +kernel
theorem dX1_skipBlanks_37 : decode cX1_skipBlanks 37 = .ok (.return_, 1) := by decide +kernel

theorem dX5_isDone_10 : decode cX5_isDone 10 = .ok (.aload_n 0, 1) := by decide +kernel
theorem dX5_isDone_11 : decode cX5_isDone 11 = .ok (.getfield 29, 3) := by decide +kernel
theorem dX5_isDone_14 : decode cX5_isDone 14 = .ok (.iload_n 2, 1) := by decide +kernel
theorem dX5_isDone_15 : decode cX5_isDone 15 = .ok (.iaload, 1) := by decide +kernel
theorem dX5_isDone_16 : decode cX5_isDone 16 = .ok (.if_icmp .ge 30, 3) := by decide +kernel
theorem dX5_isDone_19 : decode cX5_isDone 19 = .ok (.aload_n 0, 1) := by decide +kernel
theorem dX5_isDone_20 : decode cX5_isDone 20 = .ok (.aload_n 0, 1) := by decide +kernel
theorem dX5_isDone_21 : decode cX5_isDone 21 = .ok (.getfield 26, 3) := by decide +kernel
theorem dX5_isDone_24 : decode cX5_isDone 24 = .ok (.sipush 160, 3) := by decide +kernel
theorem dX5_isDone_27 : decode cX5_isDone 27 = .ok (.iload_n 2, 1) := by decide +kernel
theorem dX5_isDone_28 : decode cX5_isDone 28 = .ok (.imul, 1) := by decide +kernel
theorem dX5_isDone_29 : decode cX5_isDone 29 = .ok (.iload_n 3, 1) := by decide +kernel
theorem dX5_isDone_30 : decode cX5_isDone 30 = .ok (.iadd, 1) := by decide +kernel
theorem dX5_isDone_31 : decode cX5_isDone 31 = .ok (.iaload, 1) := by decide +kernel
theorem dX5_isDone_32 : decode cX5_isDone 32 = .ok (.invokevirtual 114, 3) := by decide +kernel
theorem dX5_isDone_35 : decode cX5_isDone 35 = .ok (.ifCond .ne 5, 3) := by decide +kernel
theorem dX5_isDone_38 : decode cX5_isDone 38 = .ok (.iconst 0, 1) := by decide +kernel
theorem dX5_isDone_39 : decode cX5_isDone 39 = .ok (.ireturn, 1) := by decide +kernel
theorem dX5_isDone_40 : decode cX5_isDone 40 = .ok (.iinc 3 1, 3) := by decide +kernel
theorem dX5_isDone_43 : decode cX5_isDone 43 = .ok (.goto (-34), 3) := by decide +kernel
theorem dX5_isDone_46 : decode cX5_isDone 46 = .ok (.iconst 1, 1) := by decide +kernel
theorem dX5_isDone_47 : decode cX5_isDone 47 = .ok (.ireturn, 1) := by decide +kernel
set_option maxRecDepth 20000 in
theorem ggX5_mayRun_X5_isDone : GoodIn wsX5_mayRun wsX5_isDone := goodIn_r _ [6, 1, 7, 8, 9, 10, 11, 5, 12, 18, 19, 20, 21, 22, 23, 24, 25, 26, 27, 28, 29, 30, 31, 32, 33, 34, 35, 36, 37, 38] (by decide +kernel) (by decide +kernel)
set_option maxRecDepth 20000 in
theorem gX5_mayRun_X5_isDone : GoodIn wsX5_mayRun (wsV RX5 117 RX5 yX5_isDone wsX5_isDone) := goodIn_app (goodIn_of _ (by decide +kernel)) ggX5_mayRun_X5_isDone
set_option maxRecDepth 20000 in
theorem ggX5_mayRun_X5_fail : GoodIn wsX5_mayRun wsX5_fail := goodIn_r _ [16, 17, 18, 19, 20, 21, 22, 23, 24, 25, 26, 27, 28, 29, 30, 31, 32, 33, 34, 35, 36, 37, 38] (by decide +kernel) (by decide +kernel)
set_option maxRecDepth 20000 in
theorem gX5_mayRun_X5_fail : GoodIn wsX5_mayRun (wsV RX5 54 RX5 yX5_fail wsX5_fail) := goodIn_app (goodIn_of _ (by decide +kernel)) ggX5_mayRun_X5_fail
theorem dX5_mayRun_0 : decode cX5_mayRun 0 = .ok (.aload_n 0, 1) := by decide +kernel
theorem dX5_mayRun_1 : decode cX5_mayRun 1 = .ok (.getfield 111, 3) := by decide +kernel
theorem dX5_mayRun_4 : decode cX5_mayRun 4 = .ok (.bipush 12, 2) := by decide +kernel
theorem dX5_mayRun_6 : decode cX5_mayRun 6 = .ok (.if_icmp .lt 19, 3) := by decide +kernel
theorem dX5_mayRun_9 : decode cX5_mayRun 9 = .ok (.aload_n 0, 1) := by decide +kernel
theorem dX5_mayRun_10 : decode cX5_mayRun 10 = .ok (.iload_n 1, 1) := by decide +kernel
theorem dX5_mayRun_11 : decode cX5_mayRun 11 = .ok (.invokevirtual 117, 3) := by decide +kernel
theorem dX5_mayRun_14 : decode cX5_mayRun 14 = .ok (.ifCond .ne 11, 3) := by decide +kernel
theorem dX5_mayRun_17 : decode cX5_mayRun 17 = .ok (.aload_n 0, 1) := by decide +kernel
theorem dX5_mayRun_18 : decode cX5_mayRun 18 = .ok (.iconst 5, 1) := by decide +kernel
theorem dX5_mayRun_19 : decode cX5_mayRun 19 = .ok (.invokevirtual 54, 3) := by decide +kernel
theorem dX5_mayRun_22 : decode cX5_mayRun 22 = .ok (.ifCond .eq 7, 3) := by decide +kernel
theorem dX5_mayRun_25 : decode cX5_mayRun 25 = .ok (.iconst 1, 1) := by decide +kernel
theorem dX5_mayRun_26 : decode cX5_mayRun 26 = .ok (.goto 4, 3) := by decide +kernel
theorem dX5_mayRun_29 : decode cX5_mayRun 29 = .ok (.iconst 0, 1) := by decide +kernel
theorem dX5_mayRun_30 : decode cX5_mayRun 30 = .ok (.ireturn, 1) := by decide +kernel
set_option maxRecDepth 20000 in
theorem ggX5_begin_X5_isDone : GoodIn wsX5_begin wsX5_isDone := goodIn_r _ [11, 2, 3, 5, 12, 13, 14, 10, 15, 16, 17, 18, 19, 20, 21, 22, 23, 24, 25, 26, 27, 28, 29, 30, 31, 32, 33, 34, 35, 36] (by decide +kernel) (by decide +kernel)
set_option maxRecDepth 20000 in
theorem gX5_begin_X5_isDone : GoodIn wsX5_begin (wsV RX5 117 RX5 yX5_isDone wsX5_isDone) := goodIn_app (goodIn_of _ (by decide +kernel)) ggX5_begin_X5_isDone
theorem dX5_begin_0 : decode cX5_begin 0 = .ok (.aload_n 0, 1) := by decide +kernel
theorem dX5_begin_1 : decode cX5_begin 1 = .ok (.getfield 32, 3) := by decide +kernel
theorem dX5_begin_4 : decode cX5_begin 4 = .ok (.aload_n 0, 1) := by decide +kernel
theorem dX5_begin_5 : decode cX5_begin 5 = .ok (.getfield 111, 3) := by decide +kernel
theorem dX5_begin_8 : decode cX5_begin 8 = .ok (.iconst 1, 1) := by decide +kernel
theorem dX5_begin_9 : decode cX5_begin 9 = .ok (.isub, 1) := by decide +kernel
theorem dX5_begin_10 : decode cX5_begin 10 = .ok (.iload_n 2, 1) := by decide +kernel
theorem dX5_begin_11 : decode cX5_begin 11 = .ok (.iastore, 1) := by decide +kernel
theorem dX5_begin_12 : decode cX5_begin 12 = .ok (.aload_n 0, 1) := by decide +kernel
theorem dX5_begin_13 : decode cX5_begin 13 = .ok (.iload_n 2, 1) := by decide +kernel
theorem dX5_begin_14 : decode cX5_begin 14 = .ok (.invokevirtual 117, 3) := by decide +kernel
theorem dX5_begin_17 : decode cX5_begin 17 = .ok (.ifCond .eq 13, 3) := by decide +kernel
theorem dX5_begin_20 : decode cX5_begin 20 = .ok (.aload_n 0, 1) := by decide +kernel
theorem dX5_begin_21 : decode cX5_begin 21 = .ok (.dup, 1) := by decide +kernel
theorem dX5_begin_22 : decode cX5_begin 22 = .ok (.getfield 111, 3) := by decide +kernel
theorem dX5_begin_25 : decode cX5_begin 25 = .ok (.iconst 1, 1) := by decide +kernel
theorem dX5_begin_26 : decode cX5_begin 26 = .ok (.isub, 1) := by decide +kernel
theorem dX5_begin_27 : decode cX5_begin 27 = .ok (.putfield 111, 3) := by decide +kernel
theorem dX5_begin_30 : decode cX5_begin 30 = .ok (.aload_n 0, 1) := by decide +kernel
theorem dX5_begin_31 : decode cX5_begin 31 = .ok (.getfield 29, 3) := by decide +kernel
theorem dX5_begin_34 : decode cX5_begin 34 = .ok (.aload_n 0, 1) := by decide +kernel
theorem dX5_begin_35 : decode cX5_begin 35 = .ok (.getfield 111, 3) := by decide +kernel
theorem dX5_begin_38 : decode cX5_begin 38 = .ok (.aload_n 0, 1) := by decide +kernel
theorem dX5_begin_39 : decode cX5_begin 39 = .ok (.getfield 13, 3) := by decide +kernel
theorem dX5_begin_42 : decode cX5_begin 42 = .ok (.iload_n 1, 1) := by decide +kernel
theorem dX5_begin_43 : decode cX5_begin 43 = .ok (.laload, 1) := by decide +kernel
theorem dX5_begin_44 : decode cX5_begin 44 = .ok (.l2i, 1) := by decide +kernel
theorem dX5_begin_45 : decode cX5_begin 45 = .ok (.iastore, 1) := by decide +kernel
theorem dX5_begin_46 : decode cX5_begin 46 = .ok (.aload_n 0, 1) := by decide +kernel
theorem dX5_begin_47 : decode cX5_begin 47 = .ok (.getfield 32, 3) := by decide +kernel
theorem dX5_begin_50 : decode cX5_begin 50 = .ok (.aload_n 0, 1) := by decide +kernel
theorem dX5_begin_51 : decode cX5_begin 51 = .ok (.getfield 111, 3) := by decide +kernel
theorem dX5_begin_54 : decode cX5_begin 54 = .ok (.iconst 0, 1) := by decide +kernel
theorem dX5_begin_55 : decode cX5_begin 55 = .ok (.iastore, 1) := by decide +kernel
theorem dX5_begin_56 : decode cX5_begin 56 = .ok (.iconst 0, 1) := by decide +kernel
theorem dX5_begin_57 : decode cX5_begin 57 = .ok (.istore_n 3, 1) := by decide +kernel
theorem dX5_begin_58 : decode cX5_begin 58 = .ok (.iload_n 3, 1) := by decide +kernel
theorem dX5_begin_59 : decode cX5_begin 59 = .ok (.aload_n 0, 1) := by decide +kernel
theorem dX5_begin_60 : decode cX5_begin 60 = .ok (.getfield 29, 3) := by decide +kernel
theorem dX5_begin_63 : decode cX5_begin 63 = .ok (.aload_n 0, 1) := by decide +kernel
theorem dX5_begin_64 : decode cX5_begin 64 = .ok (.getfield 111, 3) := by decide +kernel
theorem dX5_begin_67 : decode cX5_begin 67 = .ok (.iaload, 1) := by decide +kernel
theorem dX5_begin_68 : decode cX5_begin 68 = .ok (.if_icmp .ge 36, 3) := by decide +kernel
theorem dX5_begin_71 : decode cX5_begin 71 = .ok (.aload_n 0, 1) := by decide +kernel
theorem dX5_begin_72 : decode cX5_begin 72 = .ok (.getfield 26, 3) := by decide +kernel
theorem dX5_begin_75 : decode cX5_begin 75 = .ok (.sipush 160, 3) := by decide +kernel
theorem dX5_begin_78 : decode cX5_begin 78 = .ok (.aload_n 0, 1) := by decide +kernel
theorem dX5_begin_79 : decode cX5_begin 79 = .ok (.getfield 111, 3) := by decide +kernel
theorem dX5_begin_82 : decode cX5_begin 82 = .ok (.imul, 1) := by decide +kernel
theorem dX5_begin_83 : decode cX5_begin 83 = .ok (.iload_n 3, 1) := by decide +kernel
theorem dX5_begin_84 : decode cX5_begin 84 = .ok (.iadd, 1) := by decide +kernel
theorem dX5_begin_85 : decode cX5_begin 85 = .ok (.aload_n 0, 1) := by decide +kernel
theorem dX5_begin_86 : decode cX5_begin 86 = .ok (.getfield 20, 3) := by decide +kernel
theorem dX5_begin_89 : decode cX5_begin 89 = .ok (.sipush 160, 3) := by decide +kernel
theorem dX5_begin_92 : decode cX5_begin 92 = .ok (.iload_n 1, 1) := by decide +kernel
theorem dX5_begin_93 : decode cX5_begin 93 = .ok (.imul, 1) := by decide +kernel
theorem dX5_begin_94 : decode cX5_begin 94 = .ok (.iload_n 3, 1) := by decide +kernel
theorem dX5_begin_95 : decode cX5_begin 95 = .ok (.iadd, 1) := by decide +kernel
theorem dX5_begin_96 : decode cX5_begin 96 = .ok (.iaload, 1) := by decide +kernel
theorem dX5_begin_97 : decode cX5_begin 97 = .ok (.iastore, 1) := by decide +kernel
theorem dX5_begin_98 : decode cX5_begin 98 = .ok (.iinc 3 1, 3) := by decide +kernel
theorem dX5_begin_101 : decode cX5_begin 101 = .ok (.goto (-43), 3) := by decide +kernel
theorem dX5_begin_104 : decode cX5_begin 104 = .ok (.aload_n 0, 1) := by decide +kernel
theorem dX5_begin_105 : decode cX5_begin 105 = .ok (.dup, 1) := by decide +kernel
theorem dX5_begin_106 : decode cX5_begin 106 = .ok (.getfield 111, 3) := by decide +kernel
theorem dX5_begin_109 : decode cX5_begin 109 = .ok (.iconst 1, 1) := by decide +kernel
theorem dX5_begin_110 : decode cX5_begin 110 = .ok (.iadd, 1) := by decide +kernel
theorem dX5_begin_111 : decode cX5_begin 111 = .ok (.putfield 111, 3) := by decide +kernel
theorem dX5_begin_114 : decode cX5_begin 114 = .ok (.return_, 1) := by decide +kernel
set_option maxRecDepth 20000 in
theorem ggX5_digits_X5_charAt : GoodIn wsX5_digits wsX5_charAt := goodIn_r _ [10, 11, 12, 32, 33, 34, 35, 36, 37, 38, 39, 40, 41, 42, 43, 44, 45, 46, 47, 48, 49, 50, 51, 52] (by decide +kernel) (by decide +kernel)
set_option maxRecDepth 20000 in
theorem gX5_digits_X5_charAt : GoodIn wsX5_digits (wsV RX5 120 RX5 yX5_charAt wsX5_charAt) := goodIn_app (goodIn_of _ (by decide +kernel)) ggX5_digits_X5_charAt
set_option maxRecDepth 20000 in
theorem ggX5_digits_X5_within : GoodIn wsX5_digits wsX5_within := goodIn_r _ [15] (by decide +kernel) (by decide +kernel)
set_option maxRecDepth 20000 in
theorem gX5_digits_X5_within : GoodIn wsX5_digits (va_wsS RX5 127 yX5_within wsX5_within) := goodIn_app (goodIn_of _ (by decide +kernel)) ggX5_digits_X5_within
set_option maxRecDepth 20000 in
theorem ggX5_digits_X5_fail : GoodIn wsX5_digits wsX5_fail := goodIn_r _ [19, 20, 32, 33, 34, 35, 36, 37, 38, 39, 40, 41, 42, 43, 44, 45, 46, 47, 48, 49, 50, 51, 52] (by decide +kernel) (by decide +kernel)
set_option maxRecDepth 20000 in
theorem gX5_digits_X5_fail : GoodIn wsX5_digits (wsV RX5 54 RX5 yX5_fail wsX5_fail) := goodIn_app (goodIn_of _ (by decide +kernel)) ggX5_digits_X5_fail
set_option maxRecDepth 20000 in
theorem ggX5_digits_X5_room : GoodIn wsX5_digits wsX5_room := goodIn_r _ [24, 25, 16, 17, 18, 9, 19, 20, 32, 33, 34, 35, 36, 37, 38, 39, 40, 41, 42, 43, 44, 45, 46, 47, 48, 49, 50, 51, 52] (by decide +kernel) (by decide +kernel)
set_option maxRecDepth 20000 in
theorem gX5_digits_X5_room : GoodIn wsX5_digits (wsV RX5 131 RX5 yX5_room wsX5_room) := goodIn_app (goodIn_of _ (by decide +kernel)) ggX5_digits_X5_room
set_option maxRecDepth 20000 in
theorem ggX5_digits_X5_put : GoodIn wsX5_digits wsX5_put := goodIn_r _ [29, 25, 30, 31, 32, 33, 34, 35, 36, 37, 38, 39, 40, 41, 42, 43, 44, 45, 46, 47, 48, 49, 50, 51, 52] (by decide +kernel) (by decide +kernel)
set_option maxRecDepth 20000 in
theorem gX5_digits_X5_put : GoodIn wsX5_digits (wsV RX5 134 RX5 yX5_put wsX5_put) := goodIn_app (goodIn_of _ (by decide +kernel)) ggX5_digits_X5_put
theorem dX5_digits_0 : decode cX5_digits 0 = .ok (.aload_n 0, 1) := by decide +kernel
theorem dX5_digits_1 : decode cX5_digits 1 = .ok (.getfield 111, 3) := by decide +kernel
theorem dX5_digits_4 : decode cX5_digits 4 = .ok (.iconst 1, 1) := by decide +kernel
theorem dX5_digits_5 : decode cX5_digits 5 = .ok (.isub, 1) := by decide +kernel
theorem dX5_digits_6 : decode cX5_digits 6 = .ok (.istore_n 2, 1) := by decide +kernel
theorem dX5_digits_7 : decode cX5_digits 7 = .ok (.iload_n 1, 1) := by decide +kernel
theorem dX5_digits_8 : decode cX5_digits 8 = .ok (.istore_n 3, 1) := by decide +kernel
theorem dX5_digits_9 : decode cX5_digits 9 = .ok (.aload_n 0, 1) := by decide +kernel
theorem dX5_digits_10 : decode cX5_digits 10 = .ok (.iload_n 2, 1) := by decide +kernel
theorem dX5_digits_11 : decode cX5_digits 11 = .ok (.iload_n 3, 1) := by decide +kernel
theorem dX5_digits_12 : decode cX5_digits 12 = .ok (.invokevirtual 120, 3) := by decide +kernel
theorem dX5_digits_15 : decode cX5_digits 15 = .ok (.bipush 95, 2) := by decide +kernel
theorem dX5_digits_17 : decode cX5_digits 17 = .ok (.if_icmp .ne 7, 3) := by decide +kernel
theorem dX5_digits_20 : decode cX5_digits 20 = .ok (.iconst 1, 1) := by decide +kernel
theorem dX5_digits_21 : decode cX5_digits 21 = .ok (.goto 4, 3) := by decide +kernel
theorem dX5_digits_24 : decode cX5_digits 24 = .ok (.iconst 0, 1) := by decide +kernel
theorem dX5_digits_25 : decode cX5_digits 25 = .ok (.istore 4, 2) := by decide +kernel
theorem dX5_digits_27 : decode cX5_digits 27 = .ok (.iload 4, 2) := by decide +kernel
theorem dX5_digits_29 : decode cX5_digits 29 = .ok (.ifCond .eq 6, 3) := by decide +kernel
theorem dX5_digits_32 : decode cX5_digits 32 = .ok (.iinc 3 1, 3) := by decide +kernel
theorem dX5_digits_35 : decode cX5_digits 35 = .ok (.lconst 0, 1) := by decide +kernel
theorem dX5_digits_36 : decode cX5_digits 36 = .ok (.lstore 5, 2) := by decide +kernel
theorem dX5_digits_38 : decode cX5_digits 38 = .ok (.iconst 0, 1) := by decide +kernel
theorem dX5_digits_39 : decode cX5_digits 39 = .ok (.istore 7, 2) := by decide +kernel
theorem dX5_digits_41 : decode cX5_digits 41 = .ok (.iconst (-1), 1) := by decide +kernel
theorem dX5_digits_42 : decode cX5_digits 42 = .ok (.istore 8, 2) := by decide +kernel
theorem dX5_digits_44 : decode cX5_digits 44 = .ok (.iconst 0, 1) := by decide +kernel
theorem dX5_digits_45 : decode cX5_digits 45 = .ok (.istore 9, 2) := by decide +kernel
theorem dX5_digits_47 : decode cX5_digits 47 = .ok (.iload 9, 2) := by decide +kernel
theorem dX5_digits_49 : decode cX5_digits 49 = .ok (.sipush 160, 3) := by decide +kernel
theorem dX5_digits_52 : decode cX5_digits 52 = .ok (.if_icmp .ge 87, 3) := by decide +kernel
theorem dX5_digits_55 : decode cX5_digits 55 = .ok (.aload_n 0, 1) := by decide +kernel
theorem dX5_digits_56 : decode cX5_digits 56 = .ok (.iload_n 2, 1) := by decide +kernel
theorem dX5_digits_57 : decode cX5_digits 57 = .ok (.iload_n 3, 1) := by decide +kernel
theorem dX5_digits_58 : decode cX5_digits 58 = .ok (.invokevirtual 120, 3) := by decide +kernel
theorem dX5_digits_61 : decode cX5_digits 61 = .ok (.istore 10, 2) := by decide +kernel
theorem dX5_digits_63 : decode cX5_digits 63 = .ok (.iload 10, 2) := by decide +kernel
theorem dX5_digits_65 : decode cX5_digits 65 = .ok (.bipush 46, 2) := by decide +kernel
theorem dX5_digits_67 : decode cX5_digits 67 = .ok (.if_icmp .ne 14, 3) := by decide +kernel
theorem dX5_digits_70 : decode cX5_digits 70 = .ok (.iload 8, 2) := by decide +kernel
theorem dX5_digits_72 : decode cX5_digits 72 = .ok (.ifCond .ge 9, 3) := by decide +kernel
theorem dX5_digits_75 : decode cX5_digits 75 = .ok (.iconst 0, 1) := by decide +kernel
theorem dX5_digits_76 : decode cX5_digits 76 = .ok (.istore 8, 2) := by decide +kernel
theorem dX5_digits_78 : decode cX5_digits 78 = .ok (.goto 52, 3) := by decide +kernel
theorem dX5_digits_81 : decode cX5_digits 81 = .ok (.iload 10, 2) := by decide +kernel
theorem dX5_digits_83 : decode cX5_digits 83 = .ok (.i2l, 1) := by decide +kernel
theorem dX5_digits_84 : decode cX5_digits 84 = .ok (.ldc2_w 123, 3) := by decide +kernel
theorem dX5_digits_87 : decode cX5_digits 87 = .ok (.ldc2_w 125, 3) := by decide +kernel
theorem dX5_digits_90 : decode cX5_digits 90 = .ok (.invokestatic 127, 3) := by decide +kernel
theorem dX5_digits_93 : decode cX5_digits 93 = .ok (.ifCond .eq 46, 3) := by decide +kernel
theorem dX5_digits_96 : decode cX5_digits 96 = .ok (.iload 7, 2) := by decide +kernel
theorem dX5_digits_98 : decode cX5_digits 98 = .ok (.bipush 18, 2) := by decide +kernel
theorem dX5_digits_100 : decode cX5_digits 100 = .ok (.if_icmp .ge 19, 3) := by decide +kernel
theorem dX5_digits_103 : decode cX5_digits 103 = .ok (.ldc2_w 69, 3) := by decide +kernel
theorem dX5_digits_106 : decode cX5_digits 106 = .ok (.lload 5, 2) := by decide +kernel
theorem dX5_digits_108 : decode cX5_digits 108 = .ok (.lmul, 1) := by decide +kernel
theorem dX5_digits_109 : decode cX5_digits 109 = .ok (.iload 10, 2) := by decide +kernel
theorem dX5_digits_111 : decode cX5_digits 111 = .ok (.i2l, 1) := by decide +kernel
theorem dX5_digits_112 : decode cX5_digits 112 = .ok (.ladd, 1) := by decide +kernel
theorem dX5_digits_113 : decode cX5_digits 113 = .ok (.ldc2_w 123, 3) := by decide +kernel
theorem dX5_digits_116 : decode cX5_digits 116 = .ok (.lsub, 1) := by decide +kernel
theorem dX5_digits_117 : decode cX5_digits 117 = .ok (.lstore 5, 2) := by decide +kernel
theorem dX5_digits_119 : decode cX5_digits 119 = .ok (.iinc 7 1, 3) := by decide +kernel
theorem dX5_digits_122 : decode cX5_digits 122 = .ok (.iload 8, 2) := by decide +kernel
theorem dX5_digits_124 : decode cX5_digits 124 = .ok (.ifCond .lt 6, 3) := by decide +kernel
theorem dX5_digits_127 : decode cX5_digits 127 = .ok (.iinc 8 1, 3) := by decide +kernel
theorem dX5_digits_130 : decode cX5_digits 130 = .ok (.iinc 3 1, 3) := by decide +kernel
theorem dX5_digits_133 : decode cX5_digits 133 = .ok (.iinc 9 1, 3) := by decide +kernel
theorem dX5_digits_136 : decode cX5_digits 136 = .ok (.goto (-89), 3) := by decide +kernel
theorem dX5_digits_139 : decode cX5_digits 139 = .ok (.iload 7, 2) := by decide +kernel
theorem dX5_digits_141 : decode cX5_digits 141 = .ok (.iconst 1, 1) := by decide +kernel
theorem dX5_digits_142 : decode cX5_digits 142 = .ok (.if_icmp .lt 17, 3) := by decide +kernel
theorem dX5_digits_145 : decode cX5_digits 145 = .ok (.iload 7, 2) := by decide +kernel
theorem dX5_digits_147 : decode cX5_digits 147 = .ok (.bipush 18, 2) := by decide +kernel
theorem dX5_digits_149 : decode cX5_digits 149 = .ok (.if_icmp .gt 10, 3) := by decide +kernel
theorem dX5_digits_152 : decode cX5_digits 152 = .ok (.iload 8, 2) := by decide +kernel
theorem dX5_digits_154 : decode cX5_digits 154 = .ok (.bipush 9, 2) := by decide +kernel
theorem dX5_digits_156 : decode cX5_digits 156 = .ok (.if_icmp .le 9, 3) := by decide +kernel
theorem dX5_digits_159 : decode cX5_digits 159 = .ok (.aload_n 0, 1) := by decide +kernel
theorem dX5_digits_160 : decode cX5_digits 160 = .ok (.iconst 1, 1) := by decide +kernel
theorem dX5_digits_161 : decode cX5_digits 161 = .ok (.invokevirtual 54, 3) := by decide +kernel
theorem dX5_digits_164 : decode cX5_digits 164 = .ok (.ireturn, 1) := by decide +kernel
theorem dX5_digits_165 : decode cX5_digits 165 = .ok (.aload_n 0, 1) := by decide +kernel
theorem dX5_digits_166 : decode cX5_digits 166 = .ok (.invokevirtual 131, 3) := by decide +kernel
theorem dX5_digits_169 : decode cX5_digits 169 = .ok (.ifCond .ne 5, 3) := by decide +kernel
theorem dX5_digits_172 : decode cX5_digits 172 = .ok (.iconst 0, 1) := by decide +kernel
theorem dX5_digits_173 : decode cX5_digits 173 = .ok (.ireturn, 1) := by decide +kernel
theorem dX5_digits_174 : decode cX5_digits 174 = .ok (.aload_n 0, 1) := by decide +kernel
theorem dX5_digits_175 : decode cX5_digits 175 = .ok (.iconst 0, 1) := by decide +kernel
theorem dX5_digits_176 : decode cX5_digits 176 = .ok (.iload 4, 2) := by decide +kernel
theorem dX5_digits_178 : decode cX5_digits 178 = .ok (.ifCond .eq 9, 3) := by decide +kernel
theorem dX5_digits_181 : decode cX5_digits 181 = .ok (.lload 5, 2) := by decide +kernel
theorem dX5_digits_183 : decode cX5_digits 183 = .ok (.lneg, 1) := by decide +kernel
theorem dX5_digits_184 : decode cX5_digits 184 = .ok (.goto 5, 3) := by decide +kernel
theorem dX5_digits_187 : decode cX5_digits 187 = .ok (.lload 5, 2) := by decide +kernel
theorem dX5_digits_189 : decode cX5_digits 189 = .ok (.iload 8, 2) := by decide +kernel
theorem dX5_digits_191 : decode cX5_digits 191 = .ok (.ifCond .ge 7, 3) := by decide +kernel
theorem dX5_digits_194 : decode cX5_digits 194 = .ok (.iconst 0, 1) := by decide +kernel
theorem dX5_digits_195 : decode cX5_digits 195 = .ok (.goto 5, 3) := by decide +kernel
theorem dX5_digits_198 : decode cX5_digits 198 = .ok (.iload 8, 2) := by decide +kernel
theorem dX5_digits_200 : decode cX5_digits 200 = .ok (.invokevirtual 134, 3) := by decide +kernel
theorem dX5_digits_203 : decode cX5_digits 203 = .ok (.aload_n 0, 1) := by decide +kernel
theorem dX5_digits_204 : decode cX5_digits 204 = .ok (.getfield 32, 3) := by decide +kernel
theorem dX5_digits_207 : decode cX5_digits 207 = .ok (.iload_n 2, 1) := by decide +kernel
theorem dX5_digits_208 : decode cX5_digits 208 = .ok (.iload_n 3, 1) := by decide +kernel
theorem dX5_digits_209 : decode cX5_digits 209 = .ok (.iastore, 1) := by decide +kernel
theorem dX5_digits_210 : decode cX5_digits 210 = .ok (.iconst 1, 1) := by decide +kernel
theorem dX5_digits_211 : decode cX5_digits 211 = .ok (.ireturn, 1) := by decide +kernel
set_option maxRecDepth 20000 in
theorem ggX5_brackets_X5_fail : GoodIn wsX5_brackets wsX5_fail := goodIn_r _ [11, 12, 23, 24, 25, 26, 27, 28, 29, 30, 31, 32, 33, 34, 35, 36, 37, 38, 39, 40, 41, 42, 43] (by decide +kernel) (by decide +kernel)
set_option maxRecDepth 20000 in
theorem gX5_brackets_X5_fail : GoodIn wsX5_brackets (wsV RX5 54 RX5 yX5_fail wsX5_fail) := goodIn_app (goodIn_of _ (by decide +kernel)) ggX5_brackets_X5_fail
set_option maxRecDepth 20000 in
theorem ggX5_brackets_X5_room : GoodIn wsX5_brackets wsX5_room := goodIn_r _ [16, 5, 7, 8, 9, 10, 11, 12, 23, 24, 25, 26, 27, 28, 29, 30, 31, 32, 33, 34, 35, 36, 37, 38, 39, 40, 41, 42, 43] (by decide +kernel) (by decide +kernel)
set_option maxRecDepth 20000 in
theorem gX5_brackets_X5_room : GoodIn wsX5_brackets (wsV RX5 131 RX5 yX5_room wsX5_room) := goodIn_app (goodIn_of _ (by decide +kernel)) ggX5_brackets_X5_room
set_option maxRecDepth 20000 in
theorem ggX5_brackets_X5_put : GoodIn wsX5_brackets wsX5_put := goodIn_r _ [20, 5, 21, 22, 23, 24, 25, 26, 27, 28, 29, 30, 31, 32, 33, 34, 35, 36, 37, 38, 39, 40, 41, 42, 43] (by decide +kernel) (by decide +kernel)
set_option maxRecDepth 20000 in
theorem gX5_brackets_X5_put : GoodIn wsX5_brackets (wsV RX5 134 RX5 yX5_put wsX5_put) := goodIn_app (goodIn_of _ (by decide +kernel)) ggX5_brackets_X5_put
theorem dX5_brackets_0 : decode cX5_brackets 0 = .ok (.aload_n 0, 1) := by decide +kernel
theorem dX5_brackets_1 : decode cX5_brackets 1 = .ok (.getfield 111, 3) := by decide +kernel
theorem dX5_brackets_4 : decode cX5_brackets 4 = .ok (.iconst 1, 1) := by decide +kernel
theorem dX5_brackets_5 : decode cX5_brackets 5 = .ok (.isub, 1) := by decide +kernel
theorem dX5_brackets_6 : decode cX5_brackets 6 = .ok (.istore_n 2, 1) := by decide +kernel
theorem dX5_brackets_7 : decode cX5_brackets 7 = .ok (.iconst 1, 1) := by decide +kernel
theorem dX5_brackets_8 : decode cX5_brackets 8 = .ok (.istore_n 3, 1) := by decide +kernel
theorem dX5_brackets_9 : decode cX5_brackets 9 = .ok (.iload_n 1, 1) := by decide +kernel
theorem dX5_brackets_10 : decode cX5_brackets 10 = .ok (.iconst 1, 1) := by decide +kernel
theorem dX5_brackets_11 : decode cX5_brackets 11 = .ok (.iadd, 1) := by decide +kernel
theorem dX5_brackets_12 : decode cX5_brackets 12 = .ok (.istore 4, 2) := by decide +kernel
theorem dX5_brackets_14 : decode cX5_brackets 14 = .ok (.iload 4, 2) := by decide +kernel
theorem dX5_brackets_16 : decode cX5_brackets 16 = .ok (.aload_n 0, 1) := by decide +kernel
theorem dX5_brackets_17 : decode cX5_brackets 17 = .ok (.getfield 29, 3) := by decide +kernel
theorem dX5_brackets_20 : decode cX5_brackets 20 = .ok (.iload_n 2, 1) := by decide +kernel
theorem dX5_brackets_21 : decode cX5_brackets 21 = .ok (.iaload, 1) := by decide +kernel
theorem dX5_brackets_22 : decode cX5_brackets 22 = .ok (.if_icmp .ge 48, 3) := by decide +kernel
theorem dX5_brackets_25 : decode cX5_brackets 25 = .ok (.iload_n 3, 1) := by decide +kernel
theorem dX5_brackets_26 : decode cX5_brackets 26 = .ok (.ifCond .le 44, 3) := by decide +kernel
theorem dX5_brackets_29 : decode cX5_brackets 29 = .ok (.aload_n 0, 1) := by decide +kernel
theorem dX5_brackets_30 : decode cX5_brackets 30 = .ok (.getfield 26, 3) := by decide +kernel
theorem dX5_brackets_33 : decode cX5_brackets 33 = .ok (.sipush 160, 3) := by decide +kernel
theorem dX5_brackets_36 : decode cX5_brackets 36 = .ok (.iload_n 2, 1) := by decide +kernel
theorem dX5_brackets_37 : decode cX5_brackets 37 = .ok (.imul, 1) := by decide +kernel
theorem dX5_brackets_38 : decode cX5_brackets 38 = .ok (.iload 4, 2) := by decide +kernel
theorem dX5_brackets_40 : decode cX5_brackets 40 = .ok (.iadd, 1) := by decide +kernel
theorem dX5_brackets_41 : decode cX5_brackets 41 = .ok (.iaload, 1) := by decide +kernel
theorem dX5_brackets_42 : decode cX5_brackets 42 = .ok (.istore 5, 2) := by decide +kernel
theorem dX5_brackets_44 : decode cX5_brackets 44 = .ok (.iload 5, 2) := by decide +kernel
theorem dX5_brackets_46 : decode cX5_brackets 46 = .ok (.bipush 91, 2) := by decide +kernel
theorem dX5_brackets_48 : decode cX5_brackets 48 = .ok (.if_icmp .ne 6, 3) := by decide +kernel
theorem dX5_brackets_51 : decode cX5_brackets 51 = .ok (.iinc 3 1, 3) := by decide +kernel
theorem dX5_brackets_54 : decode cX5_brackets 54 = .ok (.iload 5, 2) := by decide +kernel
theorem dX5_brackets_56 : decode cX5_brackets 56 = .ok (.bipush 93, 2) := by decide +kernel
theorem dX5_brackets_58 : decode cX5_brackets 58 = .ok (.if_icmp .ne 6, 3) := by decide +kernel
theorem dX5_brackets_61 : decode cX5_brackets 61 = .ok (.iinc 3 (-1), 3) := by decide +kernel
theorem dX5_brackets_64 : decode cX5_brackets 64 = .ok (.iinc 4 1, 3) := by decide +kernel
theorem dX5_brackets_67 : decode cX5_brackets 67 = .ok (.goto (-53), 3) := by decide +kernel
theorem dX5_brackets_70 : decode cX5_brackets 70 = .ok (.iload_n 3, 1) := by decide +kernel
theorem dX5_brackets_71 : decode cX5_brackets 71 = .ok (.ifCond .le 9, 3) := by decide +kernel
theorem dX5_brackets_74 : decode cX5_brackets 74 = .ok (.aload_n 0, 1) := by decide +kernel
theorem dX5_brackets_75 : decode cX5_brackets 75 = .ok (.iconst 1, 1) := by decide +kernel
theorem dX5_brackets_76 : decode cX5_brackets 76 = .ok (.invokevirtual 54, 3) := by decide +kernel
theorem dX5_brackets_79 : decode cX5_brackets 79 = .ok (.ireturn, 1) := by decide +kernel
theorem dX5_brackets_80 : decode cX5_brackets 80 = .ok (.aload_n 0, 1) := by decide +kernel
theorem dX5_brackets_81 : decode cX5_brackets 81 = .ok (.invokevirtual 131, 3) := by decide +kernel
theorem dX5_brackets_84 : decode cX5_brackets 84 = .ok (.ifCond .ne 5, 3) := by decide +kernel
theorem dX5_brackets_87 : decode cX5_brackets 87 = .ok (.iconst 0, 1) := by decide +kernel
theorem dX5_brackets_88 : decode cX5_brackets 88 = .ok (.ireturn, 1) := by decide +kernel
theorem dX5_brackets_89 : decode cX5_brackets 89 = .ok (.iload 4, 2) := by decide +kernel
theorem dX5_brackets_91 : decode cX5_brackets 91 = .ok (.iload_n 1, 1) := by decide +kernel
theorem dX5_brackets_92 : decode cX5_brackets 92 = .ok (.isub, 1) := by decide +kernel
theorem dX5_brackets_93 : decode cX5_brackets 93 = .ok (.iconst 2, 1) := by decide +kernel
theorem dX5_brackets_94 : decode cX5_brackets 94 = .ok (.isub, 1) := by decide +kernel
theorem dX5_brackets_95 : decode cX5_brackets 95 = .ok (.istore 5, 2) := by decide +kernel
theorem dX5_brackets_97 : decode cX5_brackets 97 = .ok (.iconst 0, 1) := by decide +kernel
theorem dX5_brackets_98 : decode cX5_brackets 98 = .ok (.istore 6, 2) := by decide +kernel
theorem dX5_brackets_100 : decode cX5_brackets 100 = .ok (.iload 6, 2) := by decide +kernel
theorem dX5_brackets_102 : decode cX5_brackets 102 = .ok (.iload 5, 2) := by decide +kernel
theorem dX5_brackets_104 : decode cX5_brackets 104 = .ok (.if_icmp .ge 42, 3) := by decide +kernel
theorem dX5_brackets_107 : decode cX5_brackets 107 = .ok (.aload_n 0, 1) := by decide +kernel
theorem dX5_brackets_108 : decode cX5_brackets 108 = .ok (.getfield 20, 3) := by decide +kernel
theorem dX5_brackets_111 : decode cX5_brackets 111 = .ok (.sipush 160, 3) := by decide +kernel
theorem dX5_brackets_114 : decode cX5_brackets 114 = .ok (.aload_n 0, 1) := by decide +kernel
theorem dX5_brackets_115 : decode cX5_brackets 115 = .ok (.getfield 51, 3) := by decide +kernel
theorem dX5_brackets_118 : decode cX5_brackets 118 = .ok (.imul, 1) := by decide +kernel
theorem dX5_brackets_119 : decode cX5_brackets 119 = .ok (.iload 6, 2) := by decide +kernel
theorem dX5_brackets_121 : decode cX5_brackets 121 = .ok (.iadd, 1) := by decide +kernel
theorem dX5_brackets_122 : decode cX5_brackets 122 = .ok (.aload_n 0, 1) := by decide +kernel
theorem dX5_brackets_123 : decode cX5_brackets 123 = .ok (.getfield 26, 3) := by decide +kernel
theorem dX5_brackets_126 : decode cX5_brackets 126 = .ok (.sipush 160, 3) := by decide +kernel
theorem dX5_brackets_129 : decode cX5_brackets 129 = .ok (.iload_n 2, 1) := by decide +kernel
theorem dX5_brackets_130 : decode cX5_brackets 130 = .ok (.imul, 1) := by decide +kernel
theorem dX5_brackets_131 : decode cX5_brackets 131 = .ok (.iload_n 1, 1) := by decide +kernel
theorem dX5_brackets_132 : decode cX5_brackets 132 = .ok (.iadd, 1) := by decide +kernel
theorem dX5_brackets_133 : decode cX5_brackets 133 = .ok (.iconst 1, 1) := by decide +kernel
theorem dX5_brackets_134 : decode cX5_brackets 134 = .ok (.iadd, 1) := by decide +kernel
theorem dX5_brackets_135 : decode cX5_brackets 135 = .ok (.iload 6, 2) := by decide +kernel
theorem dX5_brackets_137 : decode cX5_brackets 137 = .ok (.iadd, 1) := by decide +kernel
theorem dX5_brackets_138 : decode cX5_brackets 138 = .ok (.iaload, 1) := by decide +kernel
theorem dX5_brackets_139 : decode cX5_brackets 139 = .ok (.iastore, 1) := by decide +kernel
theorem dX5_brackets_140 : decode cX5_brackets 140 = .ok (.iinc 6 1, 3) := by decide +kernel
theorem dX5_brackets_143 : decode cX5_brackets 143 = .ok (.goto (-43), 3) := by decide +kernel
theorem dX5_brackets_146 : decode cX5_brackets 146 = .ok (.aload_n 0, 1) := by decide +kernel
theorem dX5_brackets_147 : decode cX5_brackets 147 = .ok (.iconst 0, 1) := by decide +kernel
theorem dX5_brackets_148 : decode cX5_brackets 148 = .ok (.iload 5, 2) := by decide +kernel
theorem dX5_brackets_150 : decode cX5_brackets 150 = .ok (.i2l, 1) := by decide +kernel
theorem dX5_brackets_151 : decode cX5_brackets 151 = .ok (.iconst (-1), 1) := by decide +kernel
theorem dX5_brackets_152 : decode cX5_brackets 152 = .ok (.invokevirtual 134, 3) := by decide +kernel
theorem dX5_brackets_155 : decode cX5_brackets 155 = .ok (.aload_n 0, 1) := by decide +kernel
theorem dX5_brackets_156 : decode cX5_brackets 156 = .ok (.getfield 32, 3) := by decide +kernel
theorem dX5_brackets_159 : decode cX5_brackets 159 = .ok (.iload_n 2, 1) := by decide +kernel
theorem dX5_brackets_160 : decode cX5_brackets 160 = .ok (.iload 4, 2) := by decide +kernel
theorem dX5_brackets_162 : decode cX5_brackets 162 = .ok (.iastore, 1) := by decide +kernel
theorem dX5_brackets_163 : decode cX5_brackets 163 = .ok (.iconst 1, 1) := by decide +kernel
theorem dX5_brackets_164 : decode cX5_brackets 164 = .ok (.ireturn, 1) := by decide +kernel
set_option maxRecDepth 20000 in
theorem ggX5_calculates_X5_sum : GoodIn wsX5_calculates wsX5_sum := goodIn_r _ [12, 3, 2, 7, 1, 13, 6, 14, 15, 16, 11, 17, 18, 19, 20, 21, 22, 23, 24, 25, 26, 27, 28, 29, 30, 31, 32, 33, 34, 35, 36, 37, 38, 39, 40, 73, 74, 75, 76, 77, 78, 79, 80, 81, 82, 83, 84, 85, 86, 87, 88, 89, 90, 91, 92, 93] (by decide +kernel) (by decide +kernel)
set_option maxRecDepth 20000 in
theorem gX5_calculates_X5_sum : GoodIn wsX5_calculates (wsV RX5 138 RX5 yX5_sum wsX5_sum) := goodIn_app (goodIn_of _ (by decide +kernel)) ggX5_calculates_X5_sum
set_option maxRecDepth 20000 in
theorem ggX5_calculates_X5_times : GoodIn wsX5_calculates wsX5_times := goodIn_r _ [44, 3, 2, 5, 7, 1, 6, 13, 14, 15, 16, 11, 17, 18, 19, 20, 21, 22, 23, 24, 25, 26, 27, 28, 45, 46, 47, 48, 39, 49, 50, 51, 35, 73, 74, 75, 76, 77, 78, 79, 80, 81, 82, 83, 84, 85, 86, 87, 88, 89, 90, 91, 92, 93] (by decide +kernel) (by decide +kernel)
set_option maxRecDepth 20000 in
theorem gX5_calculates_X5_times : GoodIn wsX5_calculates (wsV RX5 142 RX5 yX5_times wsX5_times) := goodIn_app (goodIn_of _ (by decide +kernel)) ggX5_calculates_X5_times
set_option maxRecDepth 20000 in
theorem ggX5_calculates_X5_quotient : GoodIn wsX5_calculates wsX5_quotient := goodIn_r _ [55, 1, 2, 5, 3, 13, 6, 7, 14, 15, 16, 11, 17, 18, 19, 20, 21, 22, 23, 24, 25, 29, 30, 31, 32, 33, 34, 35, 73, 74, 75, 76, 77, 78, 79, 80, 81, 82, 83, 84, 85, 86, 87, 88, 89, 90, 91, 92, 93] (by decide +kernel) (by decide +kernel)
set_option maxRecDepth 20000 in
theorem gX5_calculates_X5_quotient : GoodIn wsX5_calculates (wsV RX5 103 RX5 yX5_quotient wsX5_quotient) := goodIn_app (goodIn_of _ (by decide +kernel)) ggX5_calculates_X5_quotient
set_option maxRecDepth 20000 in
theorem ggX5_calculates_X5_rest : GoodIn wsX5_calculates wsX5_rest := goodIn_r _ [59, 5, 3, 2, 7, 6, 1, 13, 52, 53, 54, 11, 55, 14, 15, 16, 17, 18, 19, 20, 21, 22, 23, 24, 25, 29, 30, 31, 32, 33, 34, 35, 26, 27, 28, 45, 46, 47, 48, 39, 36, 37, 38, 40, 73, 74, 75, 76, 77, 78, 79, 80, 81, 82, 83, 84, 85, 86, 87, 88, 89, 90, 91, 92, 93] (by decide +kernel) (by decide +kernel)
set_option maxRecDepth 20000 in
theorem gX5_calculates_X5_rest : GoodIn wsX5_calculates (wsV RX5 145 RX5 yX5_rest wsX5_rest) := goodIn_app (goodIn_of _ (by decide +kernel)) ggX5_calculates_X5_rest
set_option maxRecDepth 20000 in
theorem ggX5_calculates_X5_root : GoodIn wsX5_calculates wsX5_root := goodIn_r _ [63, 1, 2, 5, 3, 7, 13, 64, 65, 6, 14, 15, 16, 11, 17, 18, 19, 20, 21, 22, 23, 24, 25, 26, 27, 28, 29, 30, 31, 32, 33, 34, 35, 73, 74, 75, 76, 77, 78, 79, 80, 81, 82, 83, 84, 85, 86, 87, 88, 89, 90, 91, 92, 93] (by decide +kernel) (by decide +kernel)
set_option maxRecDepth 20000 in
theorem gX5_calculates_X5_root : GoodIn wsX5_calculates (wsV RX5 148 RX5 yX5_root wsX5_root) := goodIn_app (goodIn_of _ (by decide +kernel)) ggX5_calculates_X5_root
set_option maxRecDepth 20000 in
theorem ggX5_calculates_X5_numbers : GoodIn wsX5_calculates wsX5_numbers := goodIn_r _ [17, 3, 2, 18, 19, 20, 11, 21, 22, 23, 24, 25, 13, 73, 74, 75, 76, 77, 78, 79, 80, 81, 82, 83, 84, 85, 86, 87, 88, 89, 90, 91, 92, 93] (by decide +kernel) (by decide +kernel)
set_option maxRecDepth 20000 in
theorem gX5_calculates_X5_numbers : GoodIn wsX5_calculates (wsV RX5 71 RX5 yX5_numbers wsX5_numbers) := goodIn_app (goodIn_of _ (by decide +kernel)) ggX5_calculates_X5_numbers
set_option maxRecDepth 20000 in
theorem ggX5_calculates_X5_put : GoodIn wsX5_calculates wsX5_put := goodIn_r _ [69, 2, 1, 3, 73, 74, 75, 76, 77, 78, 79, 80, 81, 82, 83, 84, 85, 86, 87, 88, 89, 90, 91, 92, 93] (by decide +kernel) (by decide +kernel)
set_option maxRecDepth 20000 in
theorem gX5_calculates_X5_put : GoodIn wsX5_calculates (wsV RX5 134 RX5 yX5_put wsX5_put) := goodIn_app (goodIn_of _ (by decide +kernel)) ggX5_calculates_X5_put
set_option maxRecDepth 20000 in
theorem ggX5_calculates_X5_cut : GoodIn wsX5_calculates wsX5_cut := goodIn_r _ [51, 35] (by decide +kernel) (by decide +kernel)
set_option maxRecDepth 20000 in
theorem gX5_calculates_X5_cut : GoodIn wsX5_calculates (va_wsS RX5 100 yX5_cut wsX5_cut) := goodIn_app (goodIn_of _ (by decide +kernel)) ggX5_calculates_X5_cut
set_option maxRecDepth 20000 in
theorem ggX5_calculates_X5_raised : GoodIn wsX5_calculates wsX5_raised := goodIn_r _ [32, 13, 33, 34, 35, 73, 74, 75, 76, 77, 78, 79, 80, 81, 82, 83, 84, 85, 86, 87, 88, 89, 90, 91, 92, 93] (by decide +kernel) (by decide +kernel)
set_option maxRecDepth 20000 in
theorem gX5_calculates_X5_raised : GoodIn wsX5_calculates (wsV RX5 81 RX5 yX5_raised wsX5_raised) := goodIn_app (goodIn_of _ (by decide +kernel)) ggX5_calculates_X5_raised
set_option maxRecDepth 20000 in
theorem ggX5_calculates_X5_within : GoodIn wsX5_calculates wsX5_within := goodIn_r _ [72] (by decide +kernel) (by decide +kernel)
set_option maxRecDepth 20000 in
theorem gX5_calculates_X5_within : GoodIn wsX5_calculates (va_wsS RX5 127 yX5_within wsX5_within) := goodIn_app (goodIn_of _ (by decide +kernel)) ggX5_calculates_X5_within
set_option maxRecDepth 20000 in
theorem ggX5_calculates_X5_fail : GoodIn wsX5_calculates wsX5_fail := goodIn_r _ [25, 13, 73, 74, 75, 76, 77, 78, 79, 80, 81, 82, 83, 84, 85, 86, 87, 88, 89, 90, 91, 92, 93] (by decide +kernel) (by decide +kernel)
set_option maxRecDepth 20000 in
theorem gX5_calculates_X5_fail : GoodIn wsX5_calculates (wsV RX5 54 RX5 yX5_fail wsX5_fail) := goodIn_app (goodIn_of _ (by decide +kernel)) ggX5_calculates_X5_fail
theorem dX5_calculates_0 : decode cX5_calculates 0 = .ok (.iload_n 1, 1) := by decide +kernel
theorem dX5_calculates_1 : decode cX5_calculates 1 = .ok (.bipush 43, 2) := by decide +kernel
theorem dX5_calculates_3 : decode cX5_calculates 3 = .ok (.if_icmp .eq 9, 3) := by decide +kernel
theorem dX5_calculates_6 : decode cX5_calculates 6 = .ok (.iload_n 1, 1) := by decide +kernel
theorem dX5_calculates_7 : decode cX5_calculates 7 = .ok (.bipush 45, 2) := by decide +kernel
theorem dX5_calculates_9 : decode cX5_calculates 9 = .ok (.if_icmp .ne 21, 3) := by decide +kernel
theorem dX5_calculates_12 : decode cX5_calculates 12 = .ok (.aload_n 0, 1) := by decide +kernel
theorem dX5_calculates_13 : decode cX5_calculates 13 = .ok (.iload_n 1, 1) := by decide +kernel
theorem dX5_calculates_14 : decode cX5_calculates 14 = .ok (.bipush 45, 2) := by decide +kernel
theorem dX5_calculates_16 : decode cX5_calculates 16 = .ok (.if_icmp .ne 7, 3) := by decide +kernel
theorem dX5_calculates_19 : decode cX5_calculates 19 = .ok (.iconst 1, 1) := by decide +kernel
theorem dX5_calculates_20 : decode cX5_calculates 20 = .ok (.goto 4, 3) := by decide +kernel
theorem dX5_calculates_23 : decode cX5_calculates 23 = .ok (.iconst 0, 1) := by decide +kernel
theorem dX5_calculates_24 : decode cX5_calculates 24 = .ok (.invokevirtual 138, 3) := by decide +kernel
theorem dX5_calculates_27 : decode cX5_calculates 27 = .ok (.goto 60, 3) := by decide +kernel
theorem dX5_calculates_30 : decode cX5_calculates 30 = .ok (.iload_n 1, 1) := by decide +kernel
theorem dX5_calculates_31 : decode cX5_calculates 31 = .ok (.bipush 42, 2) := by decide +kernel
theorem dX5_calculates_33 : decode cX5_calculates 33 = .ok (.if_icmp .ne 10, 3) := by decide +kernel
theorem dX5_calculates_36 : decode cX5_calculates 36 = .ok (.aload_n 0, 1) := by decide +kernel
theorem dX5_calculates_37 : decode cX5_calculates 37 = .ok (.invokevirtual 142, 3) := by decide +kernel
theorem dX5_calculates_40 : decode cX5_calculates 40 = .ok (.goto 47, 3) := by decide +kernel
theorem dX5_calculates_43 : decode cX5_calculates 43 = .ok (.iload_n 1, 1) := by decide +kernel
theorem dX5_calculates_44 : decode cX5_calculates 44 = .ok (.bipush 47, 2) := by decide +kernel
theorem dX5_calculates_46 : decode cX5_calculates 46 = .ok (.if_icmp .ne 10, 3) := by decide +kernel
theorem dX5_calculates_49 : decode cX5_calculates 49 = .ok (.aload_n 0, 1) := by decide +kernel
theorem dX5_calculates_50 : decode cX5_calculates 50 = .ok (.invokevirtual 103, 3) := by decide +kernel
theorem dX5_calculates_53 : decode cX5_calculates 53 = .ok (.goto 34, 3) := by decide +kernel
theorem dX5_calculates_56 : decode cX5_calculates 56 = .ok (.iload_n 1, 1) := by decide +kernel
theorem dX5_calculates_57 : decode cX5_calculates 57 = .ok (.bipush 37, 2) := by decide +kernel
theorem dX5_calculates_59 : decode cX5_calculates 59 = .ok (.if_icmp .ne 10, 3) := by decide +kernel
theorem dX5_calculates_62 : decode cX5_calculates 62 = .ok (.aload_n 0, 1) := by decide +kernel
theorem dX5_calculates_63 : decode cX5_calculates 63 = .ok (.invokevirtual 145, 3) := by decide +kernel
theorem dX5_calculates_66 : decode cX5_calculates 66 = .ok (.goto 21, 3) := by decide +kernel
theorem dX5_calculates_69 : decode cX5_calculates 69 = .ok (.iload_n 1, 1) := by decide +kernel
theorem dX5_calculates_70 : decode cX5_calculates 70 = .ok (.bipush 118, 2) := by decide +kernel
theorem dX5_calculates_72 : decode cX5_calculates 72 = .ok (.if_icmp .ne 10, 3) := by decide +kernel
theorem dX5_calculates_75 : decode cX5_calculates 75 = .ok (.aload_n 0, 1) := by decide +kernel
theorem dX5_calculates_76 : decode cX5_calculates 76 = .ok (.invokevirtual 148, 3) := by decide +kernel
theorem dX5_calculates_79 : decode cX5_calculates 79 = .ok (.goto 8, 3) := by decide +kernel
theorem dX5_calculates_82 : decode cX5_calculates 82 = .ok (.aload_n 0, 1) := by decide +kernel
theorem dX5_calculates_83 : decode cX5_calculates 83 = .ok (.iconst 1, 1) := by decide +kernel
theorem dX5_calculates_84 : decode cX5_calculates 84 = .ok (.invokevirtual 71, 3) := by decide +kernel
theorem dX5_calculates_87 : decode cX5_calculates 87 = .ok (.istore_n 2, 1) := by decide +kernel
theorem dX5_calculates_88 : decode cX5_calculates 88 = .ok (.iload_n 2, 1) := by decide +kernel
theorem dX5_calculates_89 : decode cX5_calculates 89 = .ok (.ifCond .ne 5, 3) := by decide +kernel
theorem dX5_calculates_92 : decode cX5_calculates 92 = .ok (.iconst 0, 1) := by decide +kernel
theorem dX5_calculates_93 : decode cX5_calculates 93 = .ok (.ireturn, 1) := by decide +kernel
theorem dX5_calculates_94 : decode cX5_calculates 94 = .ok (.iload_n 1, 1) := by decide +kernel
theorem dX5_calculates_95 : decode cX5_calculates 95 = .ok (.bipush 126, 2) := by decide +kernel
theorem dX5_calculates_97 : decode cX5_calculates 97 = .ok (.if_icmp .ne 34, 3) := by decide +kernel
theorem dX5_calculates_100 : decode cX5_calculates 100 = .ok (.aload_n 0, 1) := by decide +kernel
theorem dX5_calculates_101 : decode cX5_calculates 101 = .ok (.iconst 1, 1) := by decide +kernel
theorem dX5_calculates_102 : decode cX5_calculates 102 = .ok (.aload_n 0, 1) := by decide +kernel
theorem dX5_calculates_103 : decode cX5_calculates 103 = .ok (.getfield 13, 3) := by decide +kernel
theorem dX5_calculates_106 : decode cX5_calculates 106 = .ok (.aload_n 0, 1) := by decide +kernel
theorem dX5_calculates_107 : decode cX5_calculates 107 = .ok (.getfield 51, 3) := by decide +kernel
theorem dX5_calculates_110 : decode cX5_calculates 110 = .ok (.iconst 1, 1) := by decide +kernel
theorem dX5_calculates_111 : decode cX5_calculates 111 = .ok (.isub, 1) := by decide +kernel
theorem dX5_calculates_112 : decode cX5_calculates 112 = .ok (.laload, 1) := by decide +kernel
theorem dX5_calculates_113 : decode cX5_calculates 113 = .ok (.lneg, 1) := by decide +kernel
theorem dX5_calculates_114 : decode cX5_calculates 114 = .ok (.aload_n 0, 1) := by decide +kernel
theorem dX5_calculates_115 : decode cX5_calculates 115 = .ok (.getfield 17, 3) := by decide +kernel
theorem dX5_calculates_118 : decode cX5_calculates 118 = .ok (.aload_n 0, 1) := by decide +kernel
theorem dX5_calculates_119 : decode cX5_calculates 119 = .ok (.getfield 51, 3) := by decide +kernel
theorem dX5_calculates_122 : decode cX5_calculates 122 = .ok (.iconst 1, 1) := by decide +kernel
theorem dX5_calculates_123 : decode cX5_calculates 123 = .ok (.isub, 1) := by decide +kernel
theorem dX5_calculates_124 : decode cX5_calculates 124 = .ok (.iaload, 1) := by decide +kernel
theorem dX5_calculates_125 : decode cX5_calculates 125 = .ok (.invokevirtual 134, 3) := by decide +kernel
theorem dX5_calculates_128 : decode cX5_calculates 128 = .ok (.goto 143, 3) := by decide +kernel
theorem dX5_calculates_131 : decode cX5_calculates 131 = .ok (.iload_n 1, 1) := by decide +kernel
theorem dX5_calculates_132 : decode cX5_calculates 132 = .ok (.bipush 88, 2) := by decide +kernel
theorem dX5_calculates_134 : decode cX5_calculates 134 = .ok (.if_icmp .ne 24, 3) := by decide +kernel
theorem dX5_calculates_137 : decode cX5_calculates 137 = .ok (.aload_n 0, 1) := by decide +kernel
theorem dX5_calculates_138 : decode cX5_calculates 138 = .ok (.iconst 1, 1) := by decide +kernel
theorem dX5_calculates_139 : decode cX5_calculates 139 = .ok (.aload_n 0, 1) := by decide +kernel
theorem dX5_calculates_140 : decode cX5_calculates 140 = .ok (.getfield 17, 3) := by decide +kernel
theorem dX5_calculates_143 : decode cX5_calculates 143 = .ok (.aload_n 0, 1) := by decide +kernel
theorem dX5_calculates_144 : decode cX5_calculates 144 = .ok (.getfield 51, 3) := by decide +kernel
theorem dX5_calculates_147 : decode cX5_calculates 147 = .ok (.iconst 1, 1) := by decide +kernel
theorem dX5_calculates_148 : decode cX5_calculates 148 = .ok (.isub, 1) := by decide +kernel
theorem dX5_calculates_149 : decode cX5_calculates 149 = .ok (.iaload, 1) := by decide +kernel
theorem dX5_calculates_150 : decode cX5_calculates 150 = .ok (.i2l, 1) := by decide +kernel
theorem dX5_calculates_151 : decode cX5_calculates 151 = .ok (.iconst 0, 1) := by decide +kernel
theorem dX5_calculates_152 : decode cX5_calculates 152 = .ok (.invokevirtual 134, 3) := by decide +kernel
theorem dX5_calculates_155 : decode cX5_calculates 155 = .ok (.goto 116, 3) := by decide +kernel
theorem dX5_calculates_158 : decode cX5_calculates 158 = .ok (.iload_n 1, 1) := by decide +kernel
theorem dX5_calculates_159 : decode cX5_calculates 159 = .ok (.bipush 107, 2) := by decide +kernel
theorem dX5_calculates_161 : decode cX5_calculates 161 = .ok (.if_icmp .ne 87, 3) := by decide +kernel
theorem dX5_calculates_164 : decode cX5_calculates 164 = .ok (.aload_n 0, 1) := by decide +kernel
theorem dX5_calculates_165 : decode cX5_calculates 165 = .ok (.getfield 13, 3) := by decide +kernel
theorem dX5_calculates_168 : decode cX5_calculates 168 = .ok (.aload_n 0, 1) := by decide +kernel
theorem dX5_calculates_169 : decode cX5_calculates 169 = .ok (.getfield 51, 3) := by decide +kernel
theorem dX5_calculates_172 : decode cX5_calculates 172 = .ok (.iconst 1, 1) := by decide +kernel
theorem dX5_calculates_173 : decode cX5_calculates 173 = .ok (.isub, 1) := by decide +kernel
theorem dX5_calculates_174 : decode cX5_calculates 174 = .ok (.laload, 1) := by decide +kernel

set_option maxRecDepth 20000 in
theorem ggX0_sum_X0_raise : GoodIn wsX0_sum wsX0_raise := goodIn_ca (goodIn_r _ [8, 9, 10, 7, 11, 12, 1, 2, 3, 4, 13, 14, 15, 16, 17, 18, 19, 20, 21, 22, 23, 24] (by decide +kernel) (by decide +kernel)) (goodIn_sub (fun _ h => List.mem_cons_of_mem _ (List.mem_append_right _ h)) (by decide +kernel))
set_option maxRecDepth 20000 in
theorem gX0_sum_X0_raise : GoodIn wsX0_sum (va_wsS RX0 15 yX0_raise wsX0_raise) := goodIn_app (goodIn_of _ (by decide +kernel)) ggX0_sum_X0_raise
set_option maxRecDepth 20000 in
theorem ggX0_sum_X0_fitting : GoodIn wsX0_sum wsX0_fitting := goodIn_ca (goodIn_r _ [27, 19, 20, 21, 22, 3, 23, 24] (by decide +kernel) (by decide +kernel)) (goodIn_sub (fun _ h => List.mem_cons_of_mem _ (List.mem_append_right _ h)) (by decide +kernel))
set_option maxRecDepth 20000 in
theorem gX0_sum_X0_fitting : GoodIn wsX0_sum (va_wsS RX0 21 yX0_fitting wsX0_fitting) := goodIn_app (goodIn_of _ (by decide +kernel)) ggX0_sum_X0_fitting
theorem dX0_sum_0 : decode cX0_sum 0 = .ok (.iload_n 2, 1) := by decide +kernel
theorem dX0_sum_1 : decode cX0_sum 1 = .ok (.iload 5, 2) := by decide +kernel
theorem dX0_sum_3 : decode cX0_sum 3 = .ok (.invokestatic 9, 3) := by decide +kernel
theorem dX0_sum_6 : decode cX0_sum 6 = .ok (.istore 6, 2) := by decide +kernel
theorem dX0_sum_8 : decode cX0_sum 8 = .ok (.lload_n 0, 1) := by decide +kernel
theorem dX0_sum_9 : decode cX0_sum 9 = .ok (.iload 6, 2) := by decide +kernel
theorem dX0_sum_11 : decode cX0_sum 11 = .ok (.iload_n 2, 1) := by decide +kernel
theorem dX0_sum_12 : decode cX0_sum 12 = .ok (.isub, 1) := by decide +kernel
theorem dX0_sum_13 : decode cX0_sum 13 = .ok (.invokestatic 15, 3) := by decide +kernel
theorem dX0_sum_16 : decode cX0_sum 16 = .ok (.lload_n 3, 1) := by decide +kernel
theorem dX0_sum_17 : decode cX0_sum 17 = .ok (.iload 6, 2) := by decide +kernel
theorem dX0_sum_19 : decode cX0_sum 19 = .ok (.iload 5, 2) := by decide +kernel
theorem dX0_sum_21 : decode cX0_sum 21 = .ok (.isub, 1) := by decide +kernel
theorem dX0_sum_22 : decode cX0_sum 22 = .ok (.invokestatic 15, 3) := by decide +kernel
theorem dX0_sum_25 : decode cX0_sum 25 = .ok (.ladd, 1) := by decide +kernel
theorem dX0_sum_26 : decode cX0_sum 26 = .ok (.invokestatic 21, 3) := by decide +kernel
theorem dX0_sum_29 : decode cX0_sum 29 = .ok (.lreturn, 1) := by decide +kernel
set_option maxRecDepth 20000 in
theorem ggX0_order_X0_raise : GoodIn wsX0_order wsX0_raise := goodIn_ca (goodIn_r _ [8, 9, 10, 7, 11, 12, 1, 2, 3, 4, 13, 14, 15, 16, 17, 18, 19, 20, 21, 22, 23, 24] (by decide +kernel) (by decide +kernel)) (goodIn_sub (fun _ h => List.mem_cons_of_mem _ (List.mem_append_right _ h)) (by decide +kernel))
set_option maxRecDepth 20000 in
theorem gX0_order_X0_raise : GoodIn wsX0_order (va_wsS RX0 15 yX0_raise wsX0_raise) := goodIn_app (goodIn_of _ (by decide +kernel)) ggX0_order_X0_raise
set_option maxRecDepth 20000 in
theorem ggX0_order_J13_compare_74951 : GoodIn wsX0_order wsJ13_compare_74951 := goodIn_r _ [28] (by decide +kernel) (by decide +kernel)
set_option maxRecDepth 20000 in
theorem gX0_order_J13_compare_74951 : GoodIn wsX0_order (va_wsS RX0 25 yJ13_compare_74951 wsJ13_compare_74951) := goodIn_app (goodIn_of _ (by decide +kernel)) ggX0_order_J13_compare_74951
theorem dX0_order_0 : decode cX0_order 0 = .ok (.iload_n 2, 1) := by decide +kernel
theorem dX0_order_1 : decode cX0_order 1 = .ok (.iload 5, 2) := by decide +kernel
theorem dX0_order_3 : decode cX0_order 3 = .ok (.invokestatic 9, 3) := by decide +kernel
theorem dX0_order_6 : decode cX0_order 6 = .ok (.istore 6, 2) := by decide +kernel
theorem dX0_order_8 : decode cX0_order 8 = .ok (.lload_n 0, 1) := by decide +kernel
theorem dX0_order_9 : decode cX0_order 9 = .ok (.iload 6, 2) := by decide +kernel
theorem dX0_order_11 : decode cX0_order 11 = .ok (.iload_n 2, 1) := by decide +kernel
theorem dX0_order_12 : decode cX0_order 12 = .ok (.isub, 1) := by decide +kernel
theorem dX0_order_13 : decode cX0_order 13 = .ok (.invokestatic 15, 3) := by decide +kernel
theorem dX0_order_16 : decode cX0_order 16 = .ok (.lload_n 3, 1) := by decide +kernel
theorem dX0_order_17 : decode cX0_order 17 = .ok (.iload 6, 2) := by decide +kernel
theorem dX0_order_19 : decode cX0_order 19 = .ok (.iload 5, 2) := by decide +kernel
theorem dX0_order_21 : decode cX0_order 21 = .ok (.isub, 1) := by decide +kernel
theorem dX0_order_22 : decode cX0_order 22 = .ok (.invokestatic 15, 3) := by decide +kernel
theorem dX0_order_25 : decode cX0_order 25 = .ok (.invokestatic 25, 3) := by decide +kernel
theorem dX0_order_28 : decode cX0_order 28 = .ok (.ireturn, 1) := by decide +kernel
theorem dX0_times_0 : decode cX0_times 0 = .ok (.lload_n 2, 1) := by decide +kernel
theorem dX0_times_1 : decode cX0_times 1 = .ok (.lconst 0, 1) := by decide +kernel
theorem dX0_times_2 : decode cX0_times 2 = .ok (.lcmp, 1) := by decide +kernel
theorem dX0_times_3 : decode cX0_times 3 = .ok (.ifCond .eq 29, 3) := by decide +kernel
theorem dX0_times_6 : decode cX0_times 6 = .ok (.lload_n 0, 1) := by decide +kernel
theorem dX0_times_7 : decode cX0_times 7 = .ok (.invokestatic 31, 3) := by decide +kernel
theorem dX0_times_10 : decode cX0_times 10 = .ok (.ldc2_w 34, 3) := by decide +kernel
theorem dX0_times_13 : decode cX0_times 13 = .ok (.lload_n 2, 1) := by decide +kernel
theorem dX0_times_14 : decode cX0_times 14 = .ok (.invokestatic 31, 3) := by decide +kernel
theorem dX0_times_17 : decode cX0_times 17 = .ok (.ldiv, 1) := by decide +kernel
theorem dX0_times_18 : decode cX0_times 18 = .ok (.lcmp, 1) := by decide +kernel
theorem dX0_times_19 : decode cX0_times 19 = .ok (.ifCond .le 13, 3) := by decide +kernel
theorem dX0_times_22 : decode cX0_times 22 = .ok (.new 36, 3) := by decide +kernel
theorem dX0_times_25 : decode cX0_times 25 = .ok (.dup, 1) := by decide +kernel
theorem dX0_times_26 : decode cX0_times 26 = .ok (.ldc 38, 2) := by decide +kernel
theorem dX0_times_28 : decode cX0_times 28 = .ok (.invokespecial 40, 3) := by decide +kernel
theorem dX0_times_31 : decode cX0_times 31 = .ok (.athrow, 1) := by decide +kernel
theorem dX0_times_32 : decode cX0_times 32 = .ok (.lload_n 0, 1) := by decide +kernel
theorem dX0_times_33 : decode cX0_times 33 = .ok (.lload_n 2, 1) := by decide +kernel
theorem dX0_times_34 : decode cX0_times 34 = .ok (.lmul, 1) := by decide +kernel
theorem dX0_times_35 : decode cX0_times 35 = .ok (.lreturn, 1) := by decide +kernel
set_option maxRecDepth 20000 in
theorem ggX0_quotient_X0_raise : GoodIn wsX0_quotient wsX0_raise := goodIn_ca (goodIn_r _ [6, 7, 8, 5, 9, 10, 11, 12, 13, 14, 15, 16, 17, 18, 19, 20, 21, 22, 23, 24, 25, 26] (by decide +kernel) (by decide +kernel)) (goodIn_sub (fun _ h => List.mem_cons_of_mem _ (List.mem_append_right _ h)) (by decide +kernel))
set_option maxRecDepth 20000 in
theorem gX0_quotient_X0_raise : GoodIn wsX0_quotient (va_wsS RX0 15 yX0_raise wsX0_raise) := goodIn_app (goodIn_of _ (by decide +kernel)) ggX0_quotient_X0_raise
set_option maxRecDepth 20000 in
theorem ggX0_quotient_X0_divide : GoodIn wsX0_quotient wsX0_divide := goodIn_r _ [29] (by decide +kernel) (by decide +kernel)
set_option maxRecDepth 20000 in
theorem gX0_quotient_X0_divide : GoodIn wsX0_quotient (va_wsS RX0 48 yX0_divide wsX0_divide) := goodIn_app (goodIn_of _ (by decide +kernel)) ggX0_quotient_X0_divide
theorem dX0_quotient_0 : decode cX0_quotient 0 = .ok (.lload_n 3, 1) := by decide +kernel
theorem dX0_quotient_1 : decode cX0_quotient 1 = .ok (.lconst 0, 1) := by decide +kernel
theorem dX0_quotient_2 : decode cX0_quotient 2 = .ok (.lcmp, 1) := by decide +kernel
theorem dX0_quotient_3 : decode cX0_quotient 3 = .ok (.ifCond .ne 13, 3) := by decide +kernel
theorem dX0_quotient_6 : decode cX0_quotient 6 = .ok (.new 43, 3) := by decide +kernel
theorem dX0_quotient_9 : decode cX0_quotient 9 = .ok (.dup, 1) := by decide +kernel
theorem dX0_quotient_10 : decode cX0_quotient 10 = .ok (.ldc 45, 2) := by decide +kernel
theorem dX0_quotient_12 : decode cX0_quotient 12 = .ok (.invokespecial 47, 3) := by decide +kernel
theorem dX0_quotient_15 : decode cX0_quotient 15 = .ok (.athrow, 1) := by decide +kernel
theorem dX0_quotient_16 : decode cX0_quotient 16 = .ok (.iload 6, 2) := by decide +kernel
theorem dX0_quotient_18 : decode cX0_quotient 18 = .ok (.iload 5, 2) := by decide +kernel
theorem dX0_quotient_20 : decode cX0_quotient 20 = .ok (.iadd, 1) := by decide +kernel
theorem dX0_quotient_21 : decode cX0_quotient 21 = .ok (.iload_n 2, 1) := by decide +kernel
theorem dX0_quotient_22 : decode cX0_quotient 22 = .ok (.isub, 1) := by decide +kernel
theorem dX0_quotient_23 : decode cX0_quotient 23 = .ok (.istore 7, 2) := by decide +kernel
theorem dX0_quotient_25 : decode cX0_quotient 25 = .ok (.iload 7, 2) := by decide +kernel
theorem dX0_quotient_27 : decode cX0_quotient 27 = .ok (.ifCond .le 16, 3) := by decide +kernel
theorem dX0_quotient_30 : decode cX0_quotient 30 = .ok (.lload_n 0, 1) := by decide +kernel
theorem dX0_quotient_31 : decode cX0_quotient 31 = .ok (.iload 7, 2) := by decide +kernel
theorem dX0_quotient_33 : decode cX0_quotient 33 = .ok (.invokestatic 15, 3) := by decide +kernel
theorem dX0_quotient_36 : decode cX0_quotient 36 = .ok (.lload_n 3, 1) := by decide +kernel
theorem dX0_quotient_37 : decode cX0_quotient 37 = .ok (.invokestatic 48, 3) := by decide +kernel
theorem dX0_quotient_40 : decode cX0_quotient 40 = .ok (.goto 14, 3) := by decide +kernel
theorem dX0_quotient_43 : decode cX0_quotient 43 = .ok (.lload_n 0, 1) := by decide +kernel
theorem dX0_quotient_44 : decode cX0_quotient 44 = .ok (.lload_n 3, 1) := by decide +kernel
theorem dX0_quotient_45 : decode cX0_quotient 45 = .ok (.iload 7, 2) := by decide +kernel
theorem dX0_quotient_47 : decode cX0_quotient 47 = .ok (.ineg, 1) := by decide +kernel
theorem dX0_quotient_48 : decode cX0_quotient 48 = .ok (.invokestatic 15, 3) := by decide +kernel
theorem dX0_quotient_51 : decode cX0_quotient 51 = .ok (.invokestatic 48, 3) := by decide +kernel
theorem dX0_quotient_54 : decode cX0_quotient 54 = .ok (.lreturn, 1) := by decide +kernel
set_option maxRecDepth 20000 in
theorem ggX0_remainder_X0_quotient : GoodIn wsX0_remainder wsX0_quotient := goodIn_ca (goodIn_ca (goodIn_r _ [10, 11, 12, 13, 14, 9, 15, 16, 17, 18, 19, 3, 4, 5, 6, 20, 21, 22, 23, 24, 25, 1, 2, 26, 27, 28, 29, 30, 31, 32] (by decide +kernel) (by decide +kernel)) (goodIn_sub (fun _ h => List.mem_cons_of_mem _ (List.mem_append_right _ h)) (by decide +kernel))) (goodIn_sub (fun _ h => List.mem_cons_of_mem _ (List.mem_append_left _ (List.mem_append_right _ h))) (by decide +kernel))
set_option maxRecDepth 20000 in
theorem gX0_remainder_X0_quotient : GoodIn wsX0_remainder (va_wsS RX0 52 yX0_quotient wsX0_quotient) := goodIn_app (goodIn_of _ (by decide +kernel)) ggX0_remainder_X0_quotient
set_option maxRecDepth 20000 in
theorem ggX0_remainder_X0_times : GoodIn wsX0_remainder wsX0_times := goodIn_ca (goodIn_r _ [25, 1, 2, 26, 27, 5, 28, 29] (by decide +kernel) (by decide +kernel)) (goodIn_sub (fun _ h => List.mem_cons_of_mem _ (List.mem_append_left _ (List.mem_append_right _ h))) (by decide +kernel))
set_option maxRecDepth 20000 in
theorem gX0_remainder_X0_times : GoodIn wsX0_remainder (va_wsS RX0 58 yX0_times wsX0_times) := goodIn_app (goodIn_of _ (by decide +kernel)) ggX0_remainder_X0_times
set_option maxRecDepth 20000 in
theorem ggX0_remainder_X0_raise : GoodIn wsX0_remainder wsX0_raise := goodIn_ca (goodIn_r _ [15, 16, 17, 9, 18, 19, 3, 4, 5, 6, 20, 21, 22, 23, 24, 25, 1, 2, 26, 27, 28, 29] (by decide +kernel) (by decide +kernel)) (goodIn_sub (fun _ h => List.mem_cons_of_mem _ (List.mem_append_left _ (List.mem_append_right _ h))) (by decide +kernel))
set_option maxRecDepth 20000 in
theorem gX0_remainder_X0_raise : GoodIn wsX0_remainder (va_wsS RX0 15 yX0_raise wsX0_raise) := goodIn_app (goodIn_of _ (by decide +kernel)) ggX0_remainder_X0_raise
set_option maxRecDepth 20000 in
theorem ggX0_remainder_X0_fitting : GoodIn wsX0_remainder wsX0_fitting := goodIn_ca (goodIn_r _ [35, 1, 2, 26, 27, 5, 28, 29] (by decide +kernel) (by decide +kernel)) (goodIn_sub (fun _ h => List.mem_cons_of_mem _ (List.mem_append_left _ (List.mem_append_right _ h))) (by decide +kernel))
set_option maxRecDepth 20000 in
theorem gX0_remainder_X0_fitting : GoodIn wsX0_remainder (va_wsS RX0 21 yX0_fitting wsX0_fitting) := goodIn_app (goodIn_of _ (by decide +kernel)) ggX0_remainder_X0_fitting
theorem dX0_remainder_0 : decode cX0_remainder 0 = .ok (.lload_n 0, 1) := by decide +kernel
theorem dX0_remainder_1 : decode cX0_remainder 1 = .ok (.iload_n 2, 1) := by decide +kernel
theorem dX0_remainder_2 : decode cX0_remainder 2 = .ok (.lload_n 3, 1) := by decide +kernel
theorem dX0_remainder_3 : decode cX0_remainder 3 = .ok (.iload 5, 2) := by decide +kernel
theorem dX0_remainder_5 : decode cX0_remainder 5 = .ok (.iload 6, 2) := by decide +kernel
theorem dX0_remainder_7 : decode cX0_remainder 7 = .ok (.invokestatic 52, 3) := by decide +kernel
theorem dX0_remainder_10 : decode cX0_remainder 10 = .ok (.lstore 7, 2) := by decide +kernel
theorem dX0_remainder_12 : decode cX0_remainder 12 = .ok (.iload 6, 2) := by decide +kernel
theorem dX0_remainder_14 : decode cX0_remainder 14 = .ok (.iload 5, 2) := by decide +kernel
theorem dX0_remainder_16 : decode cX0_remainder 16 = .ok (.iadd, 1) := by decide +kernel
theorem dX0_remainder_17 : decode cX0_remainder 17 = .ok (.istore 9, 2) := by decide +kernel
theorem dX0_remainder_19 : decode cX0_remainder 19 = .ok (.iload 9, 2) := by decide +kernel
theorem dX0_remainder_21 : decode cX0_remainder 21 = .ok (.iload_n 2, 1) := by decide +kernel
theorem dX0_remainder_22 : decode cX0_remainder 22 = .ok (.invokestatic 9, 3) := by decide +kernel
theorem dX0_remainder_25 : decode cX0_remainder 25 = .ok (.istore 10, 2) := by decide +kernel
theorem dX0_remainder_27 : decode cX0_remainder 27 = .ok (.iload 10, 2) := by decide +kernel
theorem dX0_remainder_29 : decode cX0_remainder 29 = .ok (.bipush 9, 2) := by decide +kernel
theorem dX0_remainder_31 : decode cX0_remainder 31 = .ok (.if_icmp .le 13, 3) := by decide +kernel
theorem dX0_remainder_34 : decode cX0_remainder 34 = .ok (.new 36, 3) := by decide +kernel
theorem dX0_remainder_37 : decode cX0_remainder 37 = .ok (.dup, 1) := by decide +kernel
theorem dX0_remainder_38 : decode cX0_remainder 38 = .ok (.ldc 56, 2) := by decide +kernel
theorem dX0_remainder_40 : decode cX0_remainder 40 = .ok (.invokespecial 40, 3) := by decide +kernel
theorem dX0_remainder_43 : decode cX0_remainder 43 = .ok (.athrow, 1) := by decide +kernel
theorem dX0_remainder_44 : decode cX0_remainder 44 = .ok (.lload 7, 2) := by decide +kernel
theorem dX0_remainder_46 : decode cX0_remainder 46 = .ok (.lload_n 3, 1) := by decide +kernel
theorem dX0_remainder_47 : decode cX0_remainder 47 = .ok (.invokestatic 58, 3) := by decide +kernel
theorem dX0_remainder_50 : decode cX0_remainder 50 = .ok (.iload 10, 2) := by decide +kernel
theorem dX0_remainder_52 : decode cX0_remainder 52 = .ok (.iload 9, 2) := by decide +kernel
theorem dX0_remainder_54 : decode cX0_remainder 54 = .ok (.isub, 1) := by decide +kernel
theorem dX0_remainder_55 : decode cX0_remainder 55 = .ok (.invokestatic 15, 3) := by decide +kernel
theorem dX0_remainder_58 : decode cX0_remainder 58 = .ok (.lstore 11, 2) := by decide +kernel
theorem dX0_remainder_60 : decode cX0_remainder 60 = .ok (.lload_n 0, 1) := by decide +kernel
theorem dX0_remainder_61 : decode cX0_remainder 61 = .ok (.iload 10, 2) := by decide +kernel
theorem dX0_remainder_63 : decode cX0_remainder 63 = .ok (.iload_n 2, 1) := by decide +kernel
theorem dX0_remainder_64 : decode cX0_remainder 64 = .ok (.isub, 1) := by decide +kernel
theorem dX0_remainder_65 : decode cX0_remainder 65 = .ok (.invokestatic 15, 3) := by decide +kernel
theorem dX0_remainder_68 : decode cX0_remainder 68 = .ok (.lload 11, 2) := by decide +kernel
theorem dX0_remainder_70 : decode cX0_remainder 70 = .ok (.lsub, 1) := by decide +kernel
theorem dX0_remainder_71 : decode cX0_remainder 71 = .ok (.invokestatic 21, 3) := by decide +kernel
theorem dX0_remainder_74 : decode cX0_remainder 74 = .ok (.lreturn, 1) := by decide +kernel
set_option maxRecDepth 20000 in
theorem ggX0_root_X0_raise : GoodIn wsX0_root wsX0_raise := goodIn_ca (goodIn_r _ [8, 9, 10, 7, 11, 12, 13, 14, 15, 16, 17, 18, 19, 20, 21, 22, 23, 24, 25, 26, 27, 28] (by decide +kernel) (by decide +kernel)) (goodIn_sub (fun _ h => List.mem_cons_of_mem _ (List.mem_append_right _ h)) (by decide +kernel))
set_option maxRecDepth 20000 in
theorem gX0_root_X0_raise : GoodIn wsX0_root (va_wsS RX0 15 yX0_raise wsX0_raise) := goodIn_app (goodIn_of _ (by decide +kernel)) ggX0_root_X0_raise
theorem dX0_root_0 : decode cX0_root 0 = .ok (.lload_n 0, 1) := by decide +kernel
theorem dX0_root_1 : decode cX0_root 1 = .ok (.lconst 0, 1) := by decide +kernel
theorem dX0_root_2 : decode cX0_root 2 = .ok (.lcmp, 1) := by decide +kernel
theorem dX0_root_3 : decode cX0_root 3 = .ok (.ifCond .ge 13, 3) := by decide +kernel
theorem dX0_root_6 : decode cX0_root 6 = .ok (.new 43, 3) := by decide +kernel
theorem dX0_root_9 : decode cX0_root 9 = .ok (.dup, 1) := by decide +kernel
theorem dX0_root_10 : decode cX0_root 10 = .ok (.ldc 61, 2) := by decide +kernel
theorem dX0_root_12 : decode cX0_root 12 = .ok (.invokespecial 47, 3) := by decide +kernel
theorem dX0_root_15 : decode cX0_root 15 = .ok (.athrow, 1) := by decide +kernel
theorem dX0_root_16 : decode cX0_root 16 = .ok (.lload_n 0, 1) := by decide +kernel
theorem dX0_root_17 : decode cX0_root 17 = .ok (.iconst 2, 1) := by decide +kernel
theorem dX0_root_18 : decode cX0_root 18 = .ok (.iload_n 3, 1) := by decide +kernel
theorem dX0_root_19 : decode cX0_root 19 = .ok (.imul, 1) := by decide +kernel
theorem dX0_root_20 : decode cX0_root 20 = .ok (.iload_n 2, 1) := by decide +kernel
theorem dX0_root_21 : decode cX0_root 21 = .ok (.isub, 1) := by decide +kernel
theorem dX0_root_22 : decode cX0_root 22 = .ok (.invokestatic 15, 3) := by decide +kernel
theorem dX0_root_25 : decode cX0_root 25 = .ok (.lstore 4, 2) := by decide +kernel
theorem dX0_root_27 : decode cX0_root 27 = .ok (.lconst 0, 1) := by decide +kernel
theorem dX0_root_28 : decode cX0_root 28 = .ok (.lstore 6, 2) := by decide +kernel
theorem dX0_root_30 : decode cX0_root 30 = .ok (.ldc2_w 63, 3) := by decide +kernel
theorem dX0_root_33 : decode cX0_root 33 = .ok (.lstore 8, 2) := by decide +kernel
theorem dX0_root_35 : decode cX0_root 35 = .ok (.iconst 0, 1) := by decide +kernel
theorem dX0_root_36 : decode cX0_root 36 = .ok (.istore 10, 2) := by decide +kernel
theorem dX0_root_38 : decode cX0_root 38 = .ok (.iload 10, 2) := by decide +kernel
theorem dX0_root_40 : decode cX0_root 40 = .ok (.bipush 31, 2) := by decide +kernel
theorem dX0_root_42 : decode cX0_root 42 = .ok (.if_icmp .ge 54, 3) := by decide +kernel
theorem dX0_root_45 : decode cX0_root 45 = .ok (.lload 6, 2) := by decide +kernel
theorem dX0_root_47 : decode cX0_root 47 = .ok (.lload 8, 2) := by decide +kernel
theorem dX0_root_49 : decode cX0_root 49 = .ok (.lcmp, 1) := by decide +kernel
theorem dX0_root_50 : decode cX0_root 50 = .ok (.ifCond .ge 46, 3) := by decide +kernel
theorem dX0_root_53 : decode cX0_root 53 = .ok (.lload 6, 2) := by decide +kernel
theorem dX0_root_55 : decode cX0_root 55 = .ok (.lload 8, 2) := by decide +kernel
theorem dX0_root_57 : decode cX0_root 57 = .ok (.ladd, 1) := by decide +kernel
theorem dX0_root_58 : decode cX0_root 58 = .ok (.lconst 1, 1) := by decide +kernel
theorem dX0_root_59 : decode cX0_root 59 = .ok (.ladd, 1) := by decide +kernel
theorem dX0_root_60 : decode cX0_root 60 = .ok (.ldc2_w 65, 3) := by decide +kernel
theorem dX0_root_63 : decode cX0_root 63 = .ok (.ldiv, 1) := by decide +kernel
theorem dX0_root_64 : decode cX0_root 64 = .ok (.lstore 11, 2) := by decide +kernel
theorem dX0_root_66 : decode cX0_root 66 = .ok (.lload 11, 2) := by decide +kernel
theorem dX0_root_68 : decode cX0_root 68 = .ok (.lload 11, 2) := by decide +kernel
theorem dX0_root_70 : decode cX0_root 70 = .ok (.lmul, 1) := by decide +kernel
theorem dX0_root_71 : decode cX0_root 71 = .ok (.lload 4, 2) := by decide +kernel
theorem dX0_root_73 : decode cX0_root 73 = .ok (.lcmp, 1) := by decide +kernel
theorem dX0_root_74 : decode cX0_root 74 = .ok (.ifCond .gt 10, 3) := by decide +kernel
theorem dX0_root_77 : decode cX0_root 77 = .ok (.lload 11, 2) := by decide +kernel
theorem dX0_root_79 : decode cX0_root 79 = .ok (.lstore 6, 2) := by decide +kernel
theorem dX0_root_81 : decode cX0_root 81 = .ok (.goto 9, 3) := by decide +kernel
theorem dX0_root_84 : decode cX0_root 84 = .ok (.lload 11, 2) := by decide +kernel
theorem dX0_root_86 : decode cX0_root 86 = .ok (.lconst 1, 1) := by decide +kernel
theorem dX0_root_87 : decode cX0_root 87 = .ok (.lsub, 1) := by decide +kernel
theorem dX0_root_88 : decode cX0_root 88 = .ok (.lstore 8, 2) := by decide +kernel
theorem dX0_root_90 : decode cX0_root 90 = .ok (.iinc 10 1, 3) := by decide +kernel
theorem dX0_root_93 : decode cX0_root 93 = .ok (.goto (-55), 3) := by decide +kernel
theorem dX0_root_96 : decode cX0_root 96 = .ok (.lload 6, 2) := by decide +kernel
theorem dX0_root_98 : decode cX0_root 98 = .ok (.lreturn, 1) := by decide +kernel
set_option maxRecDepth 20000 in
theorem ggX0_asPlaces_X0_cutOff : GoodIn wsX0_asPlaces wsX0_cutOff := goodIn_r _ [7, 8, 9, 6, 10, 11, 12, 13, 14, 15, 16, 17, 18, 19, 20, 21] (by decide +kernel) (by decide +kernel)
set_option maxRecDepth 20000 in
theorem gX0_asPlaces_X0_cutOff : GoodIn wsX0_asPlaces (va_wsS RX0 67 yX0_cutOff wsX0_cutOff) := goodIn_app (goodIn_of _ (by decide +kernel)) ggX0_asPlaces_X0_cutOff
set_option maxRecDepth 20000 in
theorem ggX0_asPlaces_X0_raise : GoodIn wsX0_asPlaces wsX0_raise := goodIn_ca (goodIn_r _ [24, 8, 9, 6, 10, 11, 12, 13, 14, 15, 16, 17, 18, 25, 26, 27, 28, 29, 30, 31, 32, 33] (by decide +kernel) (by decide +kernel)) (goodIn_sub (fun _ h => List.mem_cons_of_mem _ (List.mem_append_right _ h)) (by decide +kernel))
set_option maxRecDepth 20000 in
theorem gX0_asPlaces_X0_raise : GoodIn wsX0_asPlaces (va_wsS RX0 15 yX0_raise wsX0_raise) := goodIn_app (goodIn_of _ (by decide +kernel)) ggX0_asPlaces_X0_raise
theorem dX0_asPlaces_0 : decode cX0_asPlaces 0 = .ok (.lload_n 0, 1) := by decide +kernel
theorem dX0_asPlaces_1 : decode cX0_asPlaces 1 = .ok (.iload_n 2, 1) := by decide +kernel
theorem dX0_asPlaces_2 : decode cX0_asPlaces 2 = .ok (.invokestatic 67, 3) := by decide +kernel
theorem dX0_asPlaces_5 : decode cX0_asPlaces 5 = .ok (.lstore_n 3, 1) := by decide +kernel
theorem dX0_asPlaces_6 : decode cX0_asPlaces 6 = .ok (.lload_n 3, 1) := by decide +kernel
theorem dX0_asPlaces_7 : decode cX0_asPlaces 7 = .ok (.lconst 0, 1) := by decide +kernel
theorem dX0_asPlaces_8 : decode cX0_asPlaces 8 = .ok (.lcmp, 1) := by decide +kernel
theorem dX0_asPlaces_9 : decode cX0_asPlaces 9 = .ok (.ifCond .lt 21, 3) := by decide +kernel
theorem dX0_asPlaces_12 : decode cX0_asPlaces 12 = .ok (.lload_n 3, 1) := by decide +kernel
theorem dX0_asPlaces_13 : decode cX0_asPlaces 13 = .ok (.ldc2_w 70, 3) := by decide +kernel
theorem dX0_asPlaces_16 : decode cX0_asPlaces 16 = .ok (.lcmp, 1) := by decide +kernel
theorem dX0_asPlaces_17 : decode cX0_asPlaces 17 = .ok (.ifCond .gt 13, 3) := by decide +kernel
theorem dX0_asPlaces_20 : decode cX0_asPlaces 20 = .ok (.lload_n 3, 1) := by decide +kernel
theorem dX0_asPlaces_21 : decode cX0_asPlaces 21 = .ok (.iload_n 2, 1) := by decide +kernel
theorem dX0_asPlaces_22 : decode cX0_asPlaces 22 = .ok (.invokestatic 15, 3) := by decide +kernel
theorem dX0_asPlaces_25 : decode cX0_asPlaces 25 = .ok (.lload_n 0, 1) := by decide +kernel
theorem dX0_asPlaces_26 : decode cX0_asPlaces 26 = .ok (.lcmp, 1) := by decide +kernel
theorem dX0_asPlaces_27 : decode cX0_asPlaces 27 = .ok (.ifCond .eq 13, 3) := by decide +kernel
theorem dX0_asPlaces_30 : decode cX0_asPlaces 30 = .ok (.new 43, 3) := by decide +kernel
theorem dX0_asPlaces_33 : decode cX0_asPlaces 33 = .ok (.dup, 1) := by decide +kernel
theorem dX0_asPlaces_34 : decode cX0_asPlaces 34 = .ok (.ldc 72, 2) := by decide +kernel
theorem dX0_asPlaces_36 : decode cX0_asPlaces 36 = .ok (.invokespecial 47, 3) := by decide +kernel
theorem dX0_asPlaces_39 : decode cX0_asPlaces 39 = .ok (.athrow, 1) := by decide +kernel
theorem dX0_asPlaces_40 : decode cX0_asPlaces 40 = .ok (.lload_n 3, 1) := by decide +kernel
theorem dX0_asPlaces_41 : decode cX0_asPlaces 41 = .ok (.l2i, 1) := by decide +kernel
theorem dX0_asPlaces_42 : decode cX0_asPlaces 42 = .ok (.ireturn, 1) := by decide +kernel
set_option maxRecDepth 20000 in
theorem ggX0_cutOff_X0_powerOfTen : GoodIn wsX0_cutOff wsX0_powerOfTen := goodIn_r _ [4, 5, 6, 7, 8, 9, 10, 11, 12] (by decide +kernel) (by decide +kernel)
set_option maxRecDepth 20000 in
theorem gX0_cutOff_X0_powerOfTen : GoodIn wsX0_cutOff (va_wsS RX0 74 yX0_powerOfTen wsX0_powerOfTen) := goodIn_app (goodIn_of _ (by decide +kernel)) ggX0_cutOff_X0_powerOfTen
set_option maxRecDepth 20000 in
theorem ggX0_cutOff_X0_divide : GoodIn wsX0_cutOff wsX0_divide := goodIn_r _ [15] (by decide +kernel) (by decide +kernel)
set_option maxRecDepth 20000 in
theorem gX0_cutOff_X0_divide : GoodIn wsX0_cutOff (va_wsS RX0 48 yX0_divide wsX0_divide) := goodIn_app (goodIn_of _ (by decide +kernel)) ggX0_cutOff_X0_divide
theorem dX0_cutOff_0 : decode cX0_cutOff 0 = .ok (.lload_n 0, 1) := by decide +kernel
theorem dX0_cutOff_1 : decode cX0_cutOff 1 = .ok (.iload_n 2, 1) := by decide +kernel
theorem dX0_cutOff_2 : decode cX0_cutOff 2 = .ok (.invokestatic 74, 3) := by decide +kernel
theorem dX0_cutOff_5 : decode cX0_cutOff 5 = .ok (.invokestatic 48, 3) := by decide +kernel
theorem dX0_cutOff_8 : decode cX0_cutOff 8 = .ok (.lreturn, 1) := by decide +kernel
set_option maxRecDepth 20000 in
theorem ggX0_raise_X0_powerOfTen : GoodIn wsX0_raise wsX0_powerOfTen := goodIn_r _ [4, 5, 6, 7, 8, 9, 10, 11, 12] (by decide +kernel) (by decide +kernel)
set_option maxRecDepth 20000 in
theorem gX0_raise_X0_powerOfTen : GoodIn wsX0_raise (va_wsS RX0 74 yX0_powerOfTen wsX0_powerOfTen) := goodIn_app (goodIn_of _ (by decide +kernel)) ggX0_raise_X0_powerOfTen
set_option maxRecDepth 20000 in
theorem ggX0_raise_X0_times : GoodIn wsX0_raise wsX0_times := goodIn_ca (goodIn_r _ [15, 16, 17, 18, 19, 8, 20, 21] (by decide +kernel) (by decide +kernel)) (goodIn_sub (fun _ h => List.mem_cons_of_mem _ (List.mem_append_right _ h)) (by decide +kernel))
set_option maxRecDepth 20000 in
theorem gX0_raise_X0_times : GoodIn wsX0_raise (va_wsS RX0 58 yX0_times wsX0_times) := goodIn_app (goodIn_of _ (by decide +kernel)) ggX0_raise_X0_times
theorem dX0_raise_0 : decode cX0_raise 0 = .ok (.lload_n 0, 1) := by decide +kernel
theorem dX0_raise_1 : decode cX0_raise 1 = .ok (.iload_n 2, 1) := by decide +kernel
theorem dX0_raise_2 : decode cX0_raise 2 = .ok (.invokestatic 74, 3) := by decide +kernel
theorem dX0_raise_5 : decode cX0_raise 5 = .ok (.invokestatic 58, 3) := by decide +kernel
theorem dX0_raise_8 : decode cX0_raise 8 = .ok (.lreturn, 1) := by decide +kernel
theorem dX0_powerOfTen_0 : decode cX0_powerOfTen 0 = .ok (.getstatic 78, 3) := by decide +kernel
theorem dX0_powerOfTen_3 : decode cX0_powerOfTen 3 = .ok (.iload_n 0, 1) := by decide +kernel
theorem dX0_powerOfTen_4 : decode cX0_powerOfTen 4 = .ok (.iconst 0, 1) := by decide +kernel
theorem dX0_powerOfTen_5 : decode cX0_powerOfTen 5 = .ok (.invokestatic 9, 3) := by decide +kernel
theorem dX0_powerOfTen_8 : decode cX0_powerOfTen 8 = .ok (.getstatic 78, 3) := by decide +kernel
theorem dX0_powerOfTen_11 : decode cX0_powerOfTen 11 = .ok (.arraylength, 1) := by decide +kernel
theorem dX0_powerOfTen_12 : decode cX0_powerOfTen 12 = .ok (.iconst 1, 1) := by decide +kernel
theorem dX0_powerOfTen_13 : decode cX0_powerOfTen 13 = .ok (.isub, 1) := by decide +kernel
theorem dX0_powerOfTen_14 : decode cX0_powerOfTen 14 = .ok (.invokestatic 82, 3) := by decide +kernel
theorem dX0_powerOfTen_17 : decode cX0_powerOfTen 17 = .ok (.laload, 1) := by decide +kernel
theorem dX0_powerOfTen_18 : decode cX0_powerOfTen 18 = .ok (.lreturn, 1) := by decide +kernel
theorem dX0_divide_0 : decode cX0_divide 0 = .ok (.lload_n 2, 1) := by decide +kernel
theorem dX0_divide_1 : decode cX0_divide 1 = .ok (.lconst 0, 1) := by decide +kernel
theorem dX0_divide_2 : decode cX0_divide 2 = .ok (.lcmp, 1) := by decide +kernel
theorem dX0_divide_3 : decode cX0_divide 3 = .ok (.ifCond .ne 7, 3) := by decide +kernel
theorem dX0_divide_6 : decode cX0_divide 6 = .ok (.lconst 0, 1) := by decide +kernel
theorem dX0_divide_7 : decode cX0_divide 7 = .ok (.goto 6, 3) := by decide +kernel
theorem dX0_divide_10 : decode cX0_divide 10 = .ok (.lload_n 0, 1) := by decide +kernel
theorem dX0_divide_11 : decode cX0_divide 11 = .ok (.lload_n 2, 1) := by decide +kernel
theorem dX0_divide_12 : decode cX0_divide 12 = .ok (.ldiv, 1) := by decide +kernel
theorem dX0_divide_13 : decode cX0_divide 13 = .ok (.lreturn, 1) := by decide +kernel
theorem dX0_fitting_0 : decode cX0_fitting 0 = .ok (.lload_n 0, 1) := by decide +kernel
theorem dX0_fitting_1 : decode cX0_fitting 1 = .ok (.invokestatic 31, 3) := by decide +kernel
theorem dX0_fitting_4 : decode cX0_fitting 4 = .ok (.ldc2_w 34, 3) := by decide +kernel
theorem dX0_fitting_7 : decode cX0_fitting 7 = .ok (.lcmp, 1) := by decide +kernel
theorem dX0_fitting_8 : decode cX0_fitting 8 = .ok (.ifCond .le 13, 3) := by decide +kernel
theorem dX0_fitting_11 : decode cX0_fitting 11 = .ok (.new 36, 3) := by decide +kernel
theorem dX0_fitting_14 : decode cX0_fitting 14 = .ok (.dup, 1) := by decide +kernel
theorem dX0_fitting_15 : decode cX0_fitting 15 = .ok (.ldc 38, 2) := by decide +kernel
theorem dX0_fitting_17 : decode cX0_fitting 17 = .ok (.invokespecial 40, 3) := by decide +kernel
theorem dX0_fitting_20 : decode cX0_fitting 20 = .ok (.athrow, 1) := by decide +kernel
theorem dX0_fitting_21 : decode cX0_fitting 21 = .ok (.lload_n 0, 1) := by decide +kernel
theorem dX0_fitting_22 : decode cX0_fitting 22 = .ok (.lreturn, 1) := by decide +kernel
theorem dX1_init_0 : decode cX1_init 0 = .ok (.aload_n 0, 1) := by decide +kernel
theorem dX1_init_1 : decode cX1_init 1 = .ok (.invokespecial 3, 3) := by decide +kernel
theorem dX1_init_4 : decode cX1_init 4 = .ok (.aload_n 0, 1) := by decide +kernel
theorem dX1_init_5 : decode cX1_init 5 = .ok (.bipush 12, 2) := by decide +kernel
theorem dX1_init_7 : decode cX1_init 7 = .ok (.anewarray 9, 3) := by decide +kernel
theorem dX1_init_10 : decode cX1_init 10 = .ok (.putfield 11, 3) := by decide +kernel
theorem dX1_init_13 : decode cX1_init 13 = .ok (.aload_n 0, 1) := by decide +kernel
theorem dX1_init_14 : decode cX1_init 14 = .ok (.bipush 12, 2) := by decide +kernel
theorem dX1_init_16 : decode cX1_init 16 = .ok (.newarray .int, 2) := by decide +kernel
theorem dX1_init_18 : decode cX1_init 18 = .ok (.putfield 17, 3) := by decide +kernel
theorem dX1_init_21 : decode cX1_init 21 = .ok (.aload_n 0, 1) := by decide +kernel
theorem dX1_init_22 : decode cX1_init 22 = .ok (.bipush 12, 2) := by decide +kernel
theorem dX1_init_24 : decode cX1_init 24 = .ok (.newarray .int, 2) := by decide +kernel
theorem dX1_init_26 : decode cX1_init 26 = .ok (.putfield 21, 3) := by decide +kernel
theorem dX1_init_29 : decode cX1_init 29 = .ok (.aload_n 0, 1) := by decide +kernel
theorem dX1_init_30 : decode cX1_init 30 = .ok (.iconst 0, 1) := by decide +kernel
theorem dX1_init_31 : decode cX1_init 31 = .ok (.putfield 24, 3) := by decide +kernel
theorem dX1_init_34 : decode cX1_init 34 = .ok (.return_, 1) := by decide +kernel
theorem dX1_isUnderWay_0 : decode cX1_isUnderWay 0 = .ok (.aload_n 0, 1) := by decide +kernel
theorem dX1_isUnderWay_1 : decode cX1_isUnderWay 1 = .ok (.getfield 24, 3) := by decide +kernel
theorem dX1_isUnderWay_4 : decode cX1_isUnderWay 4 = .ok (.ifCond .le 19, 3) := by decide +kernel
theorem dX1_isUnderWay_7 : decode cX1_isUnderWay 7 = .ok (.aload_n 0, 1) := by decide +kernel
theorem dX1_isUnderWay_8 : decode cX1_isUnderWay 8 = .ok (.getfield 24, 3) := by decide +kernel
theorem dX1_isUnderWay_11 : decode cX1_isUnderWay 11 = .ok (.aload_n 0, 1) := by decide +kernel
theorem dX1_isUnderWay_12 : decode cX1_isUnderWay 12 = .ok (.getfield 11, 3) := by decide +kernel
theorem dX1_isUnderWay_15 : decode cX1_isUnderWay 15 = .ok (.arraylength, 1) := by decide +kernel
theorem dX1_isUnderWay_16 : decode cX1_isUnderWay 16 = .ok (.if_icmp .gt 7, 3) := by decide +kernel
theorem dX1_isUnderWay_19 : decode cX1_isUnderWay 19 = .ok (.iconst 1, 1) := by decide +kernel
theorem dX1_isUnderWay_20 : decode cX1_isUnderWay 20 = .ok (.goto 4, 3) := by decide +kernel
theorem dX1_isUnderWay_23 : decode cX1_isUnderWay 23 = .ok (.iconst 0, 1) := by decide +kernel
theorem dX1_isUnderWay_24 : decode cX1_isUnderWay 24 = .ok (.ireturn, 1) := by decide +kernel
theorem dX1_enter_0 : decode cX1_enter 0 = .ok (.aload_n 0, 1) := by decide +kernel
theorem dX1_enter_1 : decode cX1_enter 1 = .ok (.getfield 24, 3) := by decide +kernel
theorem dX1_enter_4 : decode cX1_enter 4 = .ok (.ifCond .lt 15, 3) := by decide +kernel
theorem dX1_enter_7 : decode cX1_enter 7 = .ok (.aload_n 0, 1) := by decide +kernel
theorem dX1_enter_8 : decode cX1_enter 8 = .ok (.getfield 24, 3) := by decide +kernel
theorem dX1_enter_11 : decode cX1_enter 11 = .ok (.aload_n 0, 1) := by decide +kernel
theorem dX1_enter_12 : decode cX1_enter 12 = .ok (.getfield 11, 3) := by decide +kernel
theorem dX1_enter_15 : decode cX1_enter 15 = .ok (.arraylength, 1) := by decide +kernel
theorem dX1_enter_16 : decode cX1_enter 16 = .ok (.if_icmp .lt 13, 3) := by decide +kernel
theorem dX1_enter_19 : decode cX1_enter 19 = .ok (.new 28, 3) := by decide +kernel
theorem dX1_enter_22 : decode cX1_enter 22 = .ok (.dup, 1) := by decide +kernel
theorem dX1_enter_23 : decode cX1_enter 23 = .ok (.ldc 30, 2) := by decide +kernel
theorem dX1_enter_25 : decode cX1_enter 25 = .ok (.invokespecial 32, 3) := by decide +kernel
theorem dX1_enter_28 : decode cX1_enter 28 = .ok (.athrow, 1) := by decide +kernel
theorem dX1_enter_29 : decode cX1_enter 29 = .ok (.aload_n 0, 1) := by decide +kernel
theorem dX1_enter_30 : decode cX1_enter 30 = .ok (.getfield 11, 3) := by decide +kernel
theorem dX1_enter_33 : decode cX1_enter 33 = .ok (.aload_n 0, 1) := by decide +kernel
theorem dX1_enter_34 : decode cX1_enter 34 = .ok (.getfield 24, 3) := by decide +kernel
theorem dX1_enter_37 : decode cX1_enter 37 = .ok (.aload_n 1, 1) := by decide +kernel
theorem dX1_enter_38 : decode cX1_enter 38 = .ok (.aastore, 1) := by decide +kernel
theorem dX1_enter_39 : decode cX1_enter 39 = .ok (.aload_n 0, 1) := by decide +kernel
theorem dX1_enter_40 : decode cX1_enter 40 = .ok (.getfield 17, 3) := by decide +kernel
theorem dX1_enter_43 : decode cX1_enter 43 = .ok (.aload_n 0, 1) := by decide +kernel
theorem dX1_enter_44 : decode cX1_enter 44 = .ok (.getfield 24, 3) := by decide +kernel
theorem dX1_enter_47 : decode cX1_enter 47 = .ok (.iload_n 2, 1) := by decide +kernel
theorem dX1_enter_48 : decode cX1_enter 48 = .ok (.iastore, 1) := by decide +kernel
theorem dX1_enter_49 : decode cX1_enter 49 = .ok (.aload_n 0, 1) := by decide +kernel
theorem dX1_enter_50 : decode cX1_enter 50 = .ok (.getfield 21, 3) := by decide +kernel
theorem dX1_enter_53 : decode cX1_enter 53 = .ok (.aload_n 0, 1) := by decide +kernel
theorem dX1_enter_54 : decode cX1_enter 54 = .ok (.getfield 24, 3) := by decide +kernel
theorem dX1_enter_57 : decode cX1_enter 57 = .ok (.iload_n 2, 1) := by decide +kernel
theorem dX1_enter_58 : decode cX1_enter 58 = .ok (.iload_n 3, 1) := by decide +kernel
theorem dX1_enter_59 : decode cX1_enter 59 = .ok (.iadd, 1) := by decide +kernel
theorem dX1_enter_60 : decode cX1_enter 60 = .ok (.iastore, 1) := by decide +kernel
theorem dX1_enter_61 : decode cX1_enter 61 = .ok (.aload_n 0, 1) := by decide +kernel
theorem dX1_enter_62 : decode cX1_enter 62 = .ok (.dup, 1) := by decide +kernel
theorem dX1_enter_63 : decode cX1_enter 63 = .ok (.getfield 24, 3) := by decide +kernel
theorem dX1_enter_66 : decode cX1_enter 66 = .ok (.iconst 1, 1) := by decide +kernel
theorem dX1_enter_67 : decode cX1_enter 67 = .ok (.iadd, 1) := by decide +kernel
theorem dX1_enter_68 : decode cX1_enter 68 = .ok (.putfield 24, 3) := by decide +kernel
theorem dX1_enter_71 : decode cX1_enter 71 = .ok (.return_, 1) := by decide +kernel
set_option maxRecDepth 20000 in
theorem ggX1_enterMacro_X1_skipBlanks : GoodIn wsX1_enterMacro wsX1_skipBlanks := goodIn_r _ [5, 6, 7, 8, 4, 9, 10, 11, 12, 13, 14, 15, 16, 17, 18, 19, 20, 21, 22, 23, 24, 25, 26, 27, 28, 43, 44, 45, 46, 47, 48] (by decide +kernel) (by decide +kernel)
set_option maxRecDepth 20000 in
theorem gX1_enterMacro_X1_skipBlanks : GoodIn wsX1_enterMacro (wsV RX1 35 RX1 yX1_skipBlanks wsX1_skipBlanks) := goodIn_app (goodIn_of _ (by decide +kernel)) ggX1_enterMacro_X1_skipBlanks
set_option maxRecDepth 20000 in
theorem ggX1_enterMacro_X1_look : GoodIn wsX1_enterMacro wsX1_look := goodIn_r _ [9, 10, 11, 12, 13, 14, 15, 16, 4, 17, 18, 19, 20, 21, 22, 23, 24, 43, 44, 45, 46, 47, 48] (by decide +kernel) (by decide +kernel)
set_option maxRecDepth 20000 in
theorem gX1_enterMacro_X1_look : GoodIn wsX1_enterMacro (wsV RX1 38 RX1 yX1_look wsX1_look) := goodIn_app (goodIn_of _ (by decide +kernel)) ggX1_enterMacro_X1_look
set_option maxRecDepth 20000 in
theorem ggX1_enterMacro_X1_leave : GoodIn wsX1_enterMacro wsX1_leave := goodIn_r _ [32, 11, 33, 34, 35, 36, 43, 44, 45, 46] (by decide +kernel) (by decide +kernel)
set_option maxRecDepth 20000 in
theorem gX1_enterMacro_X1_leave : GoodIn wsX1_enterMacro (wsV RX1 42 RX1 yX1_leave wsX1_leave) := goodIn_app (goodIn_of _ (by decide +kernel)) ggX1_enterMacro_X1_leave
set_option maxRecDepth 20000 in
theorem ggX1_enterMacro_X1_enter : GoodIn wsX1_enterMacro wsX1_enter := goodIn_ca (goodIn_r _ [40, 41, 42, 11, 13, 10, 12, 43, 44, 45, 46] (by decide +kernel) (by decide +kernel)) (goodIn_sub (fun _ h => List.mem_cons_of_mem _ (List.mem_append_right _ h)) (by decide +kernel))
set_option maxRecDepth 20000 in
theorem gX1_enterMacro_X1_enter : GoodIn wsX1_enterMacro (wsV RX1 45 RX1 yX1_enter wsX1_enter) := goodIn_app (goodIn_of _ (by decide +kernel)) ggX1_enterMacro_X1_enter
theorem dX1_enterMacro_0 : decode cX1_enterMacro 0 = .ok (.aload_n 0, 1) := by decide +kernel
theorem dX1_enterMacro_1 : decode cX1_enterMacro 1 = .ok (.invokevirtual 35, 3) := by decide +kernel
theorem dX1_enterMacro_4 : decode cX1_enterMacro 4 = .ok (.aload_n 0, 1) := by decide +kernel
theorem dX1_enterMacro_5 : decode cX1_enterMacro 5 = .ok (.invokevirtual 38, 3) := by decide +kernel
theorem dX1_enterMacro_8 : decode cX1_enterMacro 8 = .ok (.ifCond .ne 7, 3) := by decide +kernel
theorem dX1_enterMacro_11 : decode cX1_enterMacro 11 = .ok (.aload_n 0, 1) := by decide +kernel
theorem dX1_enterMacro_12 : decode cX1_enterMacro 12 = .ok (.invokevirtual 42, 3) := by decide +kernel
theorem dX1_enterMacro_15 : decode cX1_enterMacro 15 = .ok (.aload_n 0, 1) := by decide +kernel
theorem dX1_enterMacro_16 : decode cX1_enterMacro 16 = .ok (.aload_n 1, 1) := by decide +kernel
theorem dX1_enterMacro_17 : decode cX1_enterMacro 17 = .ok (.iload_n 2, 1) := by decide +kernel
theorem dX1_enterMacro_18 : decode cX1_enterMacro 18 = .ok (.iload_n 3, 1) := by decide +kernel
theorem dX1_enterMacro_19 : decode cX1_enterMacro 19 = .ok (.invokevirtual 45, 3) := by decide +kernel
theorem dX1_enterMacro_22 : decode cX1_enterMacro 22 = .ok (.return_, 1) := by decide +kernel
theorem dX1_leave_0 : decode cX1_leave 0 = .ok (.aload_n 0, 1) := by decide +kernel
theorem dX1_leave_1 : decode cX1_leave 1 = .ok (.iconst 0, 1) := by decide +kernel
theorem dX1_leave_2 : decode cX1_leave 2 = .ok (.aload_n 0, 1) := by decide +kernel
theorem dX1_leave_3 : decode cX1_leave 3 = .ok (.getfield 24, 3) := by decide +kernel
theorem dX1_leave_6 : decode cX1_leave 6 = .ok (.iconst 1, 1) := by decide +kernel
theorem dX1_leave_7 : decode cX1_leave 7 = .ok (.isub, 1) := by decide +kernel
theorem dX1_leave_8 : decode cX1_leave 8 = .ok (.invokestatic 49, 3) := by decide +kernel
theorem dX1_leave_11 : decode cX1_leave 11 = .ok (.putfield 24, 3) := by decide +kernel
theorem dX1_leave_14 : decode cX1_leave 14 = .ok (.return_, 1) := by decide +kernel
theorem dX1_leaveAll_0 : decode cX1_leaveAll 0 = .ok (.aload_n 0, 1) := by decide +kernel
theorem dX1_leaveAll_1 : decode cX1_leaveAll 1 = .ok (.iconst 0, 1) := by decide +kernel
theorem dX1_leaveAll_2 : decode cX1_leaveAll 2 = .ok (.putfield 24, 3) := by decide +kernel
theorem dX1_leaveAll_5 : decode cX1_leaveAll 5 = .ok (.return_, 1) := by decide +kernel
set_option maxRecDepth 20000 in
theorem ggX1_innermostRow_X1_isUnderWay : GoodIn wsX1_innermostRow wsX1_isUnderWay := goodIn_r _ [7, 2, 1, 8, 9, 10, 11] (by decide +kernel) (by decide +kernel)
set_option maxRecDepth 20000 in
theorem gX1_innermostRow_X1_isUnderWay : GoodIn wsX1_innermostRow (wsV RX1 55 RX1 yX1_isUnderWay wsX1_isUnderWay) := goodIn_app (goodIn_of _ (by decide +kernel)) ggX1_innermostRow_X1_isUnderWay
theorem dX1_innermostRow_0 : decode cX1_innermostRow 0 = .ok (.aload_n 0, 1) := by decide +kernel
theorem dX1_innermostRow_1 : decode cX1_innermostRow 1 = .ok (.invokevirtual 55, 3) := by decide +kernel
theorem dX1_innermostRow_4 : decode cX1_innermostRow 4 = .ok (.ifCond .eq 17, 3) := by decide +kernel
theorem dX1_innermostRow_7 : decode cX1_innermostRow 7 = .ok (.aload_n 0, 1) := by decide +kernel
theorem dX1_innermostRow_8 : decode cX1_innermostRow 8 = .ok (.getfield 11, 3) := by decide +kernel
theorem dX1_innermostRow_11 : decode cX1_innermostRow 11 = .ok (.aload_n 0, 1) := by decide +kernel
theorem dX1_innermostRow_12 : decode cX1_innermostRow 12 = .ok (.getfield 24, 3) := by decide +kernel
theorem dX1_innermostRow_15 : decode cX1_innermostRow 15 = .ok (.iconst 1, 1) := by decide +kernel
theorem dX1_innermostRow_16 : decode cX1_innermostRow 16 = .ok (.isub, 1) := by decide +kernel
theorem dX1_innermostRow_17 : decode cX1_innermostRow 17 = .ok (.aaload, 1) := by decide +kernel
theorem dX1_innermostRow_18 : decode cX1_innermostRow 18 = .ok (.goto 4, 3) := by decide +kernel
theorem dX1_innermostRow_21 : decode cX1_innermostRow 21 = .ok (.aconst_null, 1) := by decide +kernel
theorem dX1_innermostRow_22 : decode cX1_innermostRow 22 = .ok (.areturn, 1) := by decide +kernel
set_option maxRecDepth 20000 in
theorem ggX1_position_X1_isUnderWay : GoodIn wsX1_position wsX1_isUnderWay := goodIn_r _ [7, 2, 8, 9, 10, 11, 12] (by decide +kernel) (by decide +kernel)
set_option maxRecDepth 20000 in
theorem gX1_position_X1_isUnderWay : GoodIn wsX1_position (wsV RX1 55 RX1 yX1_isUnderWay wsX1_isUnderWay) := goodIn_app (goodIn_of _ (by decide +kernel)) ggX1_position_X1_isUnderWay
theorem dX1_position_0 : decode cX1_position 0 = .ok (.aload_n 0, 1) := by decide +kernel
theorem dX1_position_1 : decode cX1_position 1 = .ok (.invokevirtual 55, 3) := by decide +kernel
theorem dX1_position_4 : decode cX1_position 4 = .ok (.ifCond .eq 17, 3) := by decide +kernel
theorem dX1_position_7 : decode cX1_position 7 = .ok (.aload_n 0, 1) := by decide +kernel
theorem dX1_position_8 : decode cX1_position 8 = .ok (.getfield 17, 3) := by decide +kernel
theorem dX1_position_11 : decode cX1_position 11 = .ok (.aload_n 0, 1) := by decide +kernel
theorem dX1_position_12 : decode cX1_position 12 = .ok (.getfield 24, 3) := by decide +kernel
theorem dX1_position_15 : decode cX1_position 15 = .ok (.iconst 1, 1) := by decide +kernel
theorem dX1_position_16 : decode cX1_position 16 = .ok (.isub, 1) := by decide +kernel
theorem dX1_position_17 : decode cX1_position 17 = .ok (.iaload, 1) := by decide +kernel
theorem dX1_position_18 : decode cX1_position 18 = .ok (.goto 4, 3) := by decide +kernel
theorem dX1_position_21 : decode cX1_position 21 = .ok (.iconst 0, 1) := by decide +kernel
theorem dX1_position_22 : decode cX1_position 22 = .ok (.ireturn, 1) := by decide +kernel
set_option maxRecDepth 20000 in
theorem ggX1_look_X1_isUnderWay : GoodIn wsX1_look wsX1_isUnderWay := goodIn_r _ [9, 2, 4, 17, 18, 19, 20] (by decide +kernel) (by decide +kernel)
set_option maxRecDepth 20000 in
theorem gX1_look_X1_isUnderWay : GoodIn wsX1_look (wsV RX1 55 RX1 yX1_isUnderWay wsX1_isUnderWay) := goodIn_app (goodIn_of _ (by decide +kernel)) ggX1_look_X1_isUnderWay
set_option maxRecDepth 20000 in
theorem ggX1_look_X2_charAt : GoodIn wsX1_look wsX2_charAt := goodIn_r _ [14, 15, 16, 21, 22] (by decide +kernel) (by decide +kernel)
set_option maxRecDepth 20000 in
theorem gX1_look_X2_charAt : GoodIn wsX1_look (wsV RX1 59 RX2 yX2_charAt wsX2_charAt) := goodIn_app (goodIn_of _ (by decide +kernel)) ggX1_look_X2_charAt
theorem dX1_look_0 : decode cX1_look 0 = .ok (.aload_n 0, 1) := by decide +kernel
theorem dX1_look_1 : decode cX1_look 1 = .ok (.invokevirtual 55, 3) := by decide +kernel
theorem dX1_look_4 : decode cX1_look 4 = .ok (.ifCond .eq 28, 3) := by decide +kernel
theorem dX1_look_7 : decode cX1_look 7 = .ok (.aload_n 0, 1) := by decide +kernel
theorem dX1_look_8 : decode cX1_look 8 = .ok (.getfield 17, 3) := by decide +kernel
theorem dX1_look_11 : decode cX1_look 11 = .ok (.aload_n 0, 1) := by decide +kernel
theorem dX1_look_12 : decode cX1_look 12 = .ok (.getfield 24, 3) := by decide +kernel
theorem dX1_look_15 : decode cX1_look 15 = .ok (.iconst 1, 1) := by decide +kernel
theorem dX1_look_16 : decode cX1_look 16 = .ok (.isub, 1) := by decide +kernel
theorem dX1_look_17 : decode cX1_look 17 = .ok (.iaload, 1) := by decide +kernel
theorem dX1_look_18 : decode cX1_look 18 = .ok (.aload_n 0, 1) := by decide +kernel
theorem dX1_look_19 : decode cX1_look 19 = .ok (.getfield 21, 3) := by decide +kernel
theorem dX1_look_22 : decode cX1_look 22 = .ok (.aload_n 0, 1) := by decide +kernel
theorem dX1_look_23 : decode cX1_look 23 = .ok (.getfield 24, 3) := by decide +kernel
theorem dX1_look_26 : decode cX1_look 26 = .ok (.iconst 1, 1) := by decide +kernel
theorem dX1_look_27 : decode cX1_look 27 = .ok (.isub, 1) := by decide +kernel
theorem dX1_look_28 : decode cX1_look 28 = .ok (.iaload, 1) := by decide +kernel
theorem dX1_look_29 : decode cX1_look 29 = .ok (.if_icmp .lt 5, 3) := by decide +kernel
theorem dX1_look_32 : decode cX1_look 32 = .ok (.iconst 0, 1) := by decide +kernel
theorem dX1_look_33 : decode cX1_look 33 = .ok (.ireturn, 1) := by decide +kernel
theorem dX1_look_34 : decode cX1_look 34 = .ok (.aload_n 0, 1) := by decide +kernel
theorem dX1_look_35 : decode cX1_look 35 = .ok (.getfield 11, 3) := by decide +kernel
theorem dX1_look_38 : decode cX1_look 38 = .ok (.aload_n 0, 1) := by decide +kernel
theorem dX1_look_39 : decode cX1_look 39 = .ok (.getfield 24, 3) := by decide +kernel
theorem dX1_look_42 : decode cX1_look 42 = .ok (.iconst 1, 1) := by decide +kernel
theorem dX1_look_43 : decode cX1_look 43 = .ok (.isub, 1) := by decide +kernel
theorem dX1_look_44 : decode cX1_look 44 = .ok (.aaload, 1) := by decide +kernel
theorem dX1_look_45 : decode cX1_look 45 = .ok (.astore_n 1, 1) := by decide +kernel
theorem dX1_look_46 : decode cX1_look 46 = .ok (.aload_n 1, 1) := by decide +kernel
theorem dX1_look_47 : decode cX1_look 47 = .ok (.ifnonnull 7, 3) := by decide +kernel
theorem dX1_look_50 : decode cX1_look 50 = .ok (.iconst 0, 1) := by decide +kernel
theorem dX1_look_51 : decode cX1_look 51 = .ok (.goto 18, 3) := by decide +kernel
theorem dX1_look_54 : decode cX1_look 54 = .ok (.aload_n 1, 1) := by decide +kernel
theorem dX1_look_55 : decode cX1_look 55 = .ok (.aload_n 0, 1) := by decide +kernel
theorem dX1_look_56 : decode cX1_look 56 = .ok (.getfield 17, 3) := by decide +kernel
theorem dX1_look_59 : decode cX1_look 59 = .ok (.aload_n 0, 1) := by decide +kernel
theorem dX1_look_60 : decode cX1_look 60 = .ok (.getfield 24, 3) := by decide +kernel
theorem dX1_look_63 : decode cX1_look 63 = .ok (.iconst 1, 1) := by decide +kernel
theorem dX1_look_64 : decode cX1_look 64 = .ok (.isub, 1) := by decide +kernel
theorem dX1_look_65 : decode cX1_look 65 = .ok (.iaload, 1) := by decide +kernel
theorem dX1_look_66 : decode cX1_look 66 = .ok (.invokevirtual 59, 3) := by decide +kernel
theorem dX1_look_69 : decode cX1_look 69 = .ok (.ireturn, 1) := by decide +kernel
set_option maxRecDepth 20000 in
theorem ggX1_pass_X1_isUnderWay : GoodIn wsX1_pass wsX1_isUnderWay := goodIn_r _ [7, 2, 8, 9, 10, 11, 12] (by decide +kernel) (by decide +kernel)
set_option maxRecDepth 20000 in
theorem gX1_pass_X1_isUnderWay : GoodIn wsX1_pass (wsV RX1 55 RX1 yX1_isUnderWay wsX1_isUnderWay) := goodIn_app (goodIn_of _ (by decide +kernel)) ggX1_pass_X1_isUnderWay
theorem dX1_pass_0 : decode cX1_pass 0 = .ok (.aload_n 0, 1) := by decide +kernel
theorem dX1_pass_1 : decode cX1_pass 1 = .ok (.invokevirtual 55, 3) := by decide +kernel
theorem dX1_pass_4 : decode cX1_pass 4 = .ok (.ifCond .eq 18, 3) := by decide +kernel
theorem dX1_pass_7 : decode cX1_pass 7 = .ok (.aload_n 0, 1) := by decide +kernel
theorem dX1_pass_8 : decode cX1_pass 8 = .ok (.getfield 17, 3) := by decide +kernel
theorem dX1_pass_11 : decode cX1_pass 11 = .ok (.aload_n 0, 1) := by decide +kernel
theorem dX1_pass_12 : decode cX1_pass 12 = .ok (.getfield 24, 3) := by decide +kernel
theorem dX1_pass_15 : decode cX1_pass 15 = .ok (.iconst 1, 1) := by decide +kernel
theorem dX1_pass_16 : decode cX1_pass 16 = .ok (.isub, 1) := by decide +kernel
theorem dX1_pass_17 : decode cX1_pass 17 = .ok (.dup2, 1) := by decide +kernel
theorem dX1_pass_18 : decode cX1_pass 18 = .ok (.iaload, 1) := by decide +kernel
theorem dX1_pass_19 : decode cX1_pass 19 = .ok (.iconst 1, 1) := by decide +kernel
theorem dX1_pass_20 : decode cX1_pass 20 = .ok (.iadd, 1) := by decide +kernel
theorem dX1_pass_21 : decode cX1_pass 21 = .ok (.iastore, 1) := by decide +kernel
theorem dX1_pass_22 : decode cX1_pass 22 = .ok (.return_, 1) := by decide +kernel
set_option maxRecDepth 20000 in
theorem ggX1_skipBlanks_X1_look : GoodIn wsX1_skipBlanks wsX1_look := goodIn_r _ [5, 6, 7, 8, 9, 10, 11, 12, 4, 13, 14, 15, 16, 17, 18, 19, 20, 25, 26, 27, 28, 29, 30] (by decide +kernel) (by decide +kernel)
set_option maxRecDepth 20000 in
theorem gX1_skipBlanks_X1_look : GoodIn wsX1_skipBlanks (wsV RX1 38 RX1 yX1_look wsX1_look) := goodIn_app (goodIn_of _ (by decide +kernel)) ggX1_skipBlanks_X1_look
set_option maxRecDepth 20000 in
theorem ggX1_skipBlanks_X1_pass : GoodIn wsX1_skipBlanks wsX1_pass := goodIn_r _ [24, 6, 7, 10, 11, 12, 4, 13, 9, 25, 26, 27, 28] (by decide +kernel) (by decide +kernel)
set_option maxRecDepth 20000 in
theorem gX1_skipBlanks_X1_pass : GoodIn wsX1_skipBlanks (wsV RX1 63 RX1 yX1_pass wsX1_pass) := goodIn_app (goodIn_of _ (by decide +kernel)) ggX1_skipBlanks_X1_pass
theorem dX1_skipBlanks_0 : decode cX1_skipBlanks 0 = .ok (.iconst 0, 1) := by decide +kernel
theorem dX1_skipBlanks_1 : decode cX1_skipBlanks 1 = .ok (.istore_n 1, 1) := by decide +kernel
theorem dX1_skipBlanks_2 : decode cX1_skipBlanks 2 = .ok (.iload_n 1, 1) := by decide +kernel
theorem dX1_skipBlanks_3 : decode cX1_skipBlanks 3 = .ok (.sipush 160, 3) := by decide +kernel
theorem dX1_skipBlanks_6 : decode cX1_skipBlanks 6 = .ok (.if_icmp .ge 31, 3) := by decide +kernel
theorem dX1_skipBlanks_9 : decode cX1_skipBlanks 9 = .ok (.aload_n 0, 1) := by decide +kernel
theorem dX1_skipBlanks_10 : decode cX1_skipBlanks 10 = .ok (.invokevirtual 38, 3) := by decide +kernel
theorem dX1_skipBlanks_13 : decode cX1_skipBlanks 13 = .ok (.bipush 32, 2) := by decide +kernel
theorem dX1_skipBlanks_15 : decode cX1_skipBlanks 15 = .ok (.if_icmp .eq 12, 3) := by decide +kernel
theorem dX1_skipBlanks_18 : decode cX1_skipBlanks 18 = .ok (.aload_n 0, 1) := by decide +kernel
theorem dX1_skipBlanks_19 : decode cX1_skipBlanks 19 = .ok (.invokevirtual 38, 3) := by decide +kernel
theorem dX1_skipBlanks_22 : decode cX1_skipBlanks 22 = .ok (.bipush 10, 2) := by decide +kernel
theorem dX1_skipBlanks_24 : decode cX1_skipBlanks 24 = .ok (.if_icmp .ne 13, 3) := by decide +kernel
theorem dX1_skipBlanks_27 : decode cX1_skipBlanks 27 = .ok (.aload_n 0, 1) := by decide +kernel
theorem dX1_skipBlanks_28 : decode cX1_skipBlanks 28 = .ok (.invokevirtual 63, 3) := by decide +kernel
theorem dX1_skipBlanks_31 : decode cX1_skipBlanks 31 = .ok (.iinc 1 1, 3) := by decide +kernel
theorem dX1_skipBlanks_34 : decode cX1_skipBlanks 34 = .ok (.goto (-32), 3) := by decide +kernel
theorem dX1_skipBlanks_37 : decode cX1_skipBlanks 37 = .ok (.return_, 1) := by decide +kernel
theorem dX2_init_0 : decode cX2_init 0 = .ok (.aload_n 0, 1) := by decide +kernel
theorem dX2_init_1 : decode cX2_init 1 = .ok (.invokespecial 3, 3) := by decide +kernel
theorem dX2_init_4 : decode cX2_init 4 = .ok (.aload_n 0, 1) := by decide +kernel
theorem dX2_init_5 : decode cX2_init 5 = .ok (.sipush 160, 3) := by decide +kernel
theorem dX2_init_8 : decode cX2_init 8 = .ok (.newarray .byte, 2) := by decide +kernel
theorem dX2_init_10 : decode cX2_init 10 = .ok (.putfield 9, 3) := by decide +kernel
theorem dX2_init_13 : decode cX2_init 13 = .ok (.aload_n 0, 1) := by decide +kernel
theorem dX2_init_14 : decode cX2_init 14 = .ok (.iconst 0, 1) := by decide +kernel
theorem dX2_init_15 : decode cX2_init 15 = .ok (.putfield 15, 3) := by decide +kernel
theorem dX2_init_18 : decode cX2_init 18 = .ok (.return_, 1) := by decide +kernel
theorem dX2_append_0 : decode cX2_append 0 = .ok (.aload_n 0, 1) := by decide +kernel
theorem dX2_append_1 : decode cX2_append 1 = .ok (.getfield 15, 3) := by decide +kernel
theorem dX2_append_4 : decode cX2_append 4 = .ok (.aload_n 0, 1) := by decide +kernel
theorem dX2_append_5 : decode cX2_append 5 = .ok (.getfield 9, 3) := by decide +kernel
theorem dX2_append_8 : decode cX2_append 8 = .ok (.arraylength, 1) := by decide +kernel
theorem dX2_append_9 : decode cX2_append 9 = .ok (.if_icmp .ge 24, 3) := by decide +kernel
theorem dX2_append_12 : decode cX2_append 12 = .ok (.aload_n 0, 1) := by decide +kernel
theorem dX2_append_13 : decode cX2_append 13 = .ok (.getfield 9, 3) := by decide +kernel
theorem dX2_append_16 : decode cX2_append 16 = .ok (.aload_n 0, 1) := by decide +kernel
theorem dX2_append_17 : decode cX2_append 17 = .ok (.getfield 15, 3) := by decide +kernel
theorem dX2_append_20 : decode cX2_append 20 = .ok (.iload_n 1, 1) := by decide +kernel
theorem dX2_append_21 : decode cX2_append 21 = .ok (.i2b, 1) := by decide +kernel
theorem dX2_append_22 : decode cX2_append 22 = .ok (.bastore, 1) := by decide +kernel
theorem dX2_append_23 : decode cX2_append 23 = .ok (.aload_n 0, 1) := by decide +kernel
theorem dX2_append_24 : decode cX2_append 24 = .ok (.dup, 1) := by decide +kernel
theorem dX2_append_25 : decode cX2_append 25 = .ok (.getfield 15, 3) := by decide +kernel
theorem dX2_append_28 : decode cX2_append 28 = .ok (.iconst 1, 1) := by decide +kernel
theorem dX2_append_29 : decode cX2_append 29 = .ok (.iadd, 1) := by decide +kernel
theorem dX2_append_30 : decode cX2_append 30 = .ok (.putfield 15, 3) := by decide +kernel
theorem dX2_append_33 : decode cX2_append 33 = .ok (.return_, 1) := by decide +kernel
theorem dX2_charAt_0 : decode cX2_charAt 0 = .ok (.iload_n 1, 1) := by decide +kernel
theorem dX2_charAt_1 : decode cX2_charAt 1 = .ok (.ifCond .lt 20, 3) := by decide +kernel
theorem dX2_charAt_4 : decode cX2_charAt 4 = .ok (.iload_n 1, 1) := by decide +kernel
theorem dX2_charAt_5 : decode cX2_charAt 5 = .ok (.aload_n 0, 1) := by decide +kernel
theorem dX2_charAt_6 : decode cX2_charAt 6 = .ok (.getfield 15, 3) := by decide +kernel
theorem dX2_charAt_9 : decode cX2_charAt 9 = .ok (.if_icmp .ge 12, 3) := by decide +kernel
theorem dX2_charAt_12 : decode cX2_charAt 12 = .ok (.iload_n 1, 1) := by decide +kernel
theorem dX2_charAt_13 : decode cX2_charAt 13 = .ok (.aload_n 0, 1) := by decide +kernel
theorem dX2_charAt_14 : decode cX2_charAt 14 = .ok (.getfield 9, 3) := by decide +kernel
theorem dX2_charAt_17 : decode cX2_charAt 17 = .ok (.arraylength, 1) := by decide +kernel
theorem dX2_charAt_18 : decode cX2_charAt 18 = .ok (.if_icmp .lt 7, 3) := by decide +kernel
theorem dX2_charAt_21 : decode cX2_charAt 21 = .ok (.iconst 0, 1) := by decide +kernel
theorem dX2_charAt_22 : decode cX2_charAt 22 = .ok (.goto 9, 3) := by decide +kernel
theorem dX2_charAt_25 : decode cX2_charAt 25 = .ok (.aload_n 0, 1) := by decide +kernel
theorem dX2_charAt_26 : decode cX2_charAt 26 = .ok (.getfield 9, 3) := by decide +kernel
theorem dX2_charAt_29 : decode cX2_charAt 29 = .ok (.iload_n 1, 1) := by decide +kernel
theorem dX2_charAt_30 : decode cX2_charAt 30 = .ok (.baload, 1) := by decide +kernel
theorem dX2_charAt_31 : decode cX2_charAt 31 = .ok (.ireturn, 1) := by decide +kernel
theorem dX3_init_0 : decode cX3_init 0 = .ok (.aload_n 0, 1) := by decide +kernel
theorem dX3_init_1 : decode cX3_init 1 = .ok (.invokespecial 3, 3) := by decide +kernel
theorem dX3_init_4 : decode cX3_init 4 = .ok (.iload_n 1, 1) := by decide +kernel
theorem dX3_init_5 : decode cX3_init 5 = .ok (.ifCond .ge 7, 3) := by decide +kernel
theorem dX3_init_8 : decode cX3_init 8 = .ok (.iconst 0, 1) := by decide +kernel
theorem dX3_init_9 : decode cX3_init 9 = .ok (.goto 4, 3) := by decide +kernel
theorem dX3_init_12 : decode cX3_init 12 = .ok (.iload_n 1, 1) := by decide +kernel
theorem dX3_init_13 : decode cX3_init 13 = .ok (.istore_n 2, 1) := by decide +kernel
theorem dX3_init_14 : decode cX3_init 14 = .ok (.aload_n 0, 1) := by decide +kernel
theorem dX3_init_15 : decode cX3_init 15 = .ok (.iload_n 2, 1) := by decide +kernel
theorem dX3_init_16 : decode cX3_init 16 = .ok (.newarray .long, 2) := by decide +kernel
theorem dX3_init_18 : decode cX3_init 18 = .ok (.putfield 9, 3) := by decide +kernel
theorem dX3_init_21 : decode cX3_init 21 = .ok (.aload_n 0, 1) := by decide +kernel
theorem dX3_init_22 : decode cX3_init 22 = .ok (.iload_n 2, 1) := by decide +kernel
theorem dX3_init_23 : decode cX3_init 23 = .ok (.newarray .int, 2) := by decide +kernel
theorem dX3_init_25 : decode cX3_init 25 = .ok (.putfield 15, 3) := by decide +kernel
theorem dX3_init_28 : decode cX3_init 28 = .ok (.aload_n 0, 1) := by decide +kernel
theorem dX3_init_29 : decode cX3_init 29 = .ok (.iload_n 2, 1) := by decide +kernel
theorem dX3_init_30 : decode cX3_init 30 = .ok (.anewarray 19, 3) := by decide +kernel
theorem dX3_init_33 : decode cX3_init 33 = .ok (.putfield 21, 3) := by decide +kernel
theorem dX3_init_36 : decode cX3_init 36 = .ok (.aload_n 0, 1) := by decide +kernel
theorem dX3_init_37 : decode cX3_init 37 = .ok (.iload_n 2, 1) := by decide +kernel
theorem dX3_init_38 : decode cX3_init 38 = .ok (.newarray .int, 2) := by decide +kernel
theorem dX3_init_40 : decode cX3_init 40 = .ok (.putfield 25, 3) := by decide +kernel
theorem dX3_init_43 : decode cX3_init 43 = .ok (.aload_n 0, 1) := by decide +kernel
theorem dX3_init_44 : decode cX3_init 44 = .ok (.iconst 0, 1) := by decide +kernel
theorem dX3_init_45 : decode cX3_init 45 = .ok (.putfield 28, 3) := by decide +kernel
theorem dX3_init_48 : decode cX3_init 48 = .ok (.return_, 1) := by decide +kernel
theorem dX3_isFull_0 : decode cX3_isFull 0 = .ok (.aload_n 0, 1) := by decide +kernel
theorem dX3_isFull_1 : decode cX3_isFull 1 = .ok (.getfield 28, 3) := by decide +kernel
theorem dX3_isFull_4 : decode cX3_isFull 4 = .ok (.aload_n 0, 1) := by decide +kernel
theorem dX3_isFull_5 : decode cX3_isFull 5 = .ok (.getfield 9, 3) := by decide +kernel
theorem dX3_isFull_8 : decode cX3_isFull 8 = .ok (.arraylength, 1) := by decide +kernel
theorem dX3_isFull_9 : decode cX3_isFull 9 = .ok (.if_icmp .lt 7, 3) := by decide +kernel
theorem dX3_isFull_12 : decode cX3_isFull 12 = .ok (.iconst 1, 1) := by decide +kernel
theorem dX3_isFull_13 : decode cX3_isFull 13 = .ok (.goto 4, 3) := by decide +kernel
theorem dX3_isFull_16 : decode cX3_isFull 16 = .ok (.iconst 0, 1) := by decide +kernel
theorem dX3_isFull_17 : decode cX3_isFull 17 = .ok (.ireturn, 1) := by decide +kernel
theorem dX3_has_0 : decode cX3_has 0 = .ok (.iload_n 1, 1) := by decide +kernel
theorem dX3_has_1 : decode cX3_has 1 = .ok (.ifCond .lt 24, 3) := by decide +kernel
theorem dX3_has_4 : decode cX3_has 4 = .ok (.iload_n 1, 1) := by decide +kernel
theorem dX3_has_5 : decode cX3_has 5 = .ok (.aload_n 0, 1) := by decide +kernel
theorem dX3_has_6 : decode cX3_has 6 = .ok (.getfield 28, 3) := by decide +kernel
theorem dX3_has_9 : decode cX3_has 9 = .ok (.if_icmp .ge 16, 3) := by decide +kernel
theorem dX3_has_12 : decode cX3_has 12 = .ok (.iload_n 1, 1) := by decide +kernel
theorem dX3_has_13 : decode cX3_has 13 = .ok (.aload_n 0, 1) := by decide +kernel
theorem dX3_has_14 : decode cX3_has 14 = .ok (.getfield 9, 3) := by decide +kernel
theorem dX3_has_17 : decode cX3_has 17 = .ok (.arraylength, 1) := by decide +kernel
theorem dX3_has_18 : decode cX3_has 18 = .ok (.if_icmp .ge 7, 3) := by decide +kernel
theorem dX3_has_21 : decode cX3_has 21 = .ok (.iconst 1, 1) := by decide +kernel
theorem dX3_has_22 : decode cX3_has 22 = .ok (.goto 4, 3) := by decide +kernel
theorem dX3_has_25 : decode cX3_has 25 = .ok (.iconst 0, 1) := by decide +kernel
theorem dX3_has_26 : decode cX3_has 26 = .ok (.ireturn, 1) := by decide +kernel
theorem dX3_slotBelowTop_0 : decode cX3_slotBelowTop 0 = .ok (.iload_n 1, 1) := by decide +kernel
theorem dX3_slotBelowTop_1 : decode cX3_slotBelowTop 1 = .ok (.ifCond .lt 11, 3) := by decide +kernel
theorem dX3_slotBelowTop_4 : decode cX3_slotBelowTop 4 = .ok (.iload_n 1, 1) := by decide +kernel
theorem dX3_slotBelowTop_5 : decode cX3_slotBelowTop 5 = .ok (.aload_n 0, 1) := by decide +kernel
theorem dX3_slotBelowTop_6 : decode cX3_slotBelowTop 6 = .ok (.getfield 28, 3) := by decide +kernel
theorem dX3_slotBelowTop_9 : decode cX3_slotBelowTop 9 = .ok (.if_icmp .lt 7, 3) := by decide +kernel
theorem dX3_slotBelowTop_12 : decode cX3_slotBelowTop 12 = .ok (.iconst (-1), 1) := by decide +kernel
theorem dX3_slotBelowTop_13 : decode cX3_slotBelowTop 13 = .ok (.goto 11, 3) := by decide +kernel
theorem dX3_slotBelowTop_16 : decode cX3_slotBelowTop 16 = .ok (.aload_n 0, 1) := by decide +kernel
theorem dX3_slotBelowTop_17 : decode cX3_slotBelowTop 17 = .ok (.getfield 28, 3) := by decide +kernel
theorem dX3_slotBelowTop_20 : decode cX3_slotBelowTop 20 = .ok (.iconst 1, 1) := by decide +kernel
theorem dX3_slotBelowTop_21 : decode cX3_slotBelowTop 21 = .ok (.isub, 1) := by decide +kernel
theorem dX3_slotBelowTop_22 : decode cX3_slotBelowTop 22 = .ok (.iload_n 1, 1) := by decide +kernel
theorem dX3_slotBelowTop_23 : decode cX3_slotBelowTop 23 = .ok (.isub, 1) := by decide +kernel
theorem dX3_slotBelowTop_24 : decode cX3_slotBelowTop 24 = .ok (.ireturn, 1) := by decide +kernel
set_option maxRecDepth 20000 in
theorem ggX3_valueAt_X3_has : GoodIn wsX3_valueAt wsX3_has := goodIn_r _ [6, 7, 1, 8, 9, 10, 11, 12] (by decide +kernel) (by decide +kernel)
set_option maxRecDepth 20000 in
theorem gX3_valueAt_X3_has : GoodIn wsX3_valueAt (wsV RX3 32 RX3 yX3_has wsX3_has) := goodIn_app (goodIn_of _ (by decide +kernel)) ggX3_valueAt_X3_has
theorem dX3_valueAt_0 : decode cX3_valueAt 0 = .ok (.aload_n 0, 1) := by decide +kernel
theorem dX3_valueAt_1 : decode cX3_valueAt 1 = .ok (.iload_n 1, 1) := by decide +kernel
theorem dX3_valueAt_2 : decode cX3_valueAt 2 = .ok (.invokevirtual 32, 3) := by decide +kernel
theorem dX3_valueAt_5 : decode cX3_valueAt 5 = .ok (.ifCond .eq 12, 3) := by decide +kernel
theorem dX3_valueAt_8 : decode cX3_valueAt 8 = .ok (.aload_n 0, 1) := by decide +kernel
theorem dX3_valueAt_9 : decode cX3_valueAt 9 = .ok (.getfield 9, 3) := by decide +kernel
theorem dX3_valueAt_12 : decode cX3_valueAt 12 = .ok (.iload_n 1, 1) := by decide +kernel
theorem dX3_valueAt_13 : decode cX3_valueAt 13 = .ok (.laload, 1) := by decide +kernel
theorem dX3_valueAt_14 : decode cX3_valueAt 14 = .ok (.goto 4, 3) := by decide +kernel
theorem dX3_valueAt_17 : decode cX3_valueAt 17 = .ok (.lconst 0, 1) := by decide +kernel
theorem dX3_valueAt_18 : decode cX3_valueAt 18 = .ok (.lreturn, 1) := by decide +kernel
set_option maxRecDepth 20000 in
theorem ggX3_placesAt_X3_has : GoodIn wsX3_placesAt wsX3_has := goodIn_r _ [6, 7, 8, 9, 10, 11, 12, 13] (by decide +kernel) (by decide +kernel)
set_option maxRecDepth 20000 in
theorem gX3_placesAt_X3_has : GoodIn wsX3_placesAt (wsV RX3 32 RX3 yX3_has wsX3_has) := goodIn_app (goodIn_of _ (by decide +kernel)) ggX3_placesAt_X3_has
theorem dX3_placesAt_0 : decode cX3_placesAt 0 = .ok (.aload_n 0, 1) := by decide +kernel
theorem dX3_placesAt_1 : decode cX3_placesAt 1 = .ok (.iload_n 1, 1) := by decide +kernel
theorem dX3_placesAt_2 : decode cX3_placesAt 2 = .ok (.invokevirtual 32, 3) := by decide +kernel
theorem dX3_placesAt_5 : decode cX3_placesAt 5 = .ok (.ifCond .eq 12, 3) := by decide +kernel
theorem dX3_placesAt_8 : decode cX3_placesAt 8 = .ok (.aload_n 0, 1) := by decide +kernel
theorem dX3_placesAt_9 : decode cX3_placesAt 9 = .ok (.getfield 15, 3) := by decide +kernel
theorem dX3_placesAt_12 : decode cX3_placesAt 12 = .ok (.iload_n 1, 1) := by decide +kernel
theorem dX3_placesAt_13 : decode cX3_placesAt 13 = .ok (.iaload, 1) := by decide +kernel
theorem dX3_placesAt_14 : decode cX3_placesAt 14 = .ok (.goto 5, 3) := by decide +kernel
theorem dX3_placesAt_17 : decode cX3_placesAt 17 = .ok (.bipush (-2), 2) := by decide +kernel
theorem dX3_placesAt_19 : decode cX3_placesAt 19 = .ok (.ireturn, 1) := by decide +kernel
set_option maxRecDepth 20000 in
theorem ggX3_rowAt_X3_has : GoodIn wsX3_rowAt wsX3_has := goodIn_r _ [6, 7, 8, 9, 10, 11, 12, 13] (by decide +kernel) (by decide +kernel)
set_option maxRecDepth 20000 in
theorem gX3_rowAt_X3_has : GoodIn wsX3_rowAt (wsV RX3 32 RX3 yX3_has wsX3_has) := goodIn_app (goodIn_of _ (by decide +kernel)) ggX3_rowAt_X3_has
theorem dX3_rowAt_0 : decode cX3_rowAt 0 = .ok (.aload_n 0, 1) := by decide +kernel
theorem dX3_rowAt_1 : decode cX3_rowAt 1 = .ok (.iload_n 1, 1) := by decide +kernel
theorem dX3_rowAt_2 : decode cX3_rowAt 2 = .ok (.invokevirtual 32, 3) := by decide +kernel
theorem dX3_rowAt_5 : decode cX3_rowAt 5 = .ok (.ifCond .eq 12, 3) := by decide +kernel
theorem dX3_rowAt_8 : decode cX3_rowAt 8 = .ok (.aload_n 0, 1) := by decide +kernel
theorem dX3_rowAt_9 : decode cX3_rowAt 9 = .ok (.getfield 21, 3) := by decide +kernel
theorem dX3_rowAt_12 : decode cX3_rowAt 12 = .ok (.iload_n 1, 1) := by decide +kernel
theorem dX3_rowAt_13 : decode cX3_rowAt 13 = .ok (.aaload, 1) := by decide +kernel
theorem dX3_rowAt_14 : decode cX3_rowAt 14 = .ok (.goto 4, 3) := by decide +kernel
theorem dX3_rowAt_17 : decode cX3_rowAt 17 = .ok (.aconst_null, 1) := by decide +kernel
theorem dX3_rowAt_18 : decode cX3_rowAt 18 = .ok (.areturn, 1) := by decide +kernel
set_option maxRecDepth 20000 in
theorem ggX3_startAt_X3_has : GoodIn wsX3_startAt wsX3_has := goodIn_r _ [6, 7, 8, 9, 10, 11, 12, 13] (by decide +kernel) (by decide +kernel)
set_option maxRecDepth 20000 in
theorem gX3_startAt_X3_has : GoodIn wsX3_startAt (wsV RX3 32 RX3 yX3_has wsX3_has) := goodIn_app (goodIn_of _ (by decide +kernel)) ggX3_startAt_X3_has
theorem dX3_startAt_0 : decode cX3_startAt 0 = .ok (.aload_n 0, 1) := by decide +kernel
theorem dX3_startAt_1 : decode cX3_startAt 1 = .ok (.iload_n 1, 1) := by decide +kernel
theorem dX3_startAt_2 : decode cX3_startAt 2 = .ok (.invokevirtual 32, 3) := by decide +kernel
theorem dX3_startAt_5 : decode cX3_startAt 5 = .ok (.ifCond .eq 12, 3) := by decide +kernel
theorem dX3_startAt_8 : decode cX3_startAt 8 = .ok (.aload_n 0, 1) := by decide +kernel
theorem dX3_startAt_9 : decode cX3_startAt 9 = .ok (.getfield 25, 3) := by decide +kernel
theorem dX3_startAt_12 : decode cX3_startAt 12 = .ok (.iload_n 1, 1) := by decide +kernel
theorem dX3_startAt_13 : decode cX3_startAt 13 = .ok (.iaload, 1) := by decide +kernel
theorem dX3_startAt_14 : decode cX3_startAt 14 = .ok (.goto 4, 3) := by decide +kernel
theorem dX3_startAt_17 : decode cX3_startAt 17 = .ok (.iconst 0, 1) := by decide +kernel
theorem dX3_startAt_18 : decode cX3_startAt 18 = .ok (.ireturn, 1) := by decide +kernel
set_option maxRecDepth 20000 in
theorem ggX3_putNumber_X3_put : GoodIn wsX3_putNumber wsX3_put := goodIn_ca (goodIn_r _ [5, 6, 7, 8, 9, 10, 11, 4, 12, 13, 14, 15, 16, 17, 18, 19, 20, 21, 22, 23, 24, 25, 26, 27, 28, 29] (by decide +kernel) (by decide +kernel)) (goodIn_sub (fun _ h => List.mem_cons_of_mem _ (List.mem_append_right _ h)) (by decide +kernel))
set_option maxRecDepth 20000 in
theorem gX3_putNumber_X3_put : GoodIn wsX3_putNumber (wsV RX3 36 RX3 yX3_put wsX3_put) := goodIn_app (goodIn_of _ (by decide +kernel)) ggX3_putNumber_X3_put
theorem dX3_putNumber_0 : decode cX3_putNumber 0 = .ok (.aload_n 0, 1) := by decide +kernel
theorem dX3_putNumber_1 : decode cX3_putNumber 1 = .ok (.lload_n 1, 1) := by decide +kernel
theorem dX3_putNumber_2 : decode cX3_putNumber 2 = .ok (.iload_n 3, 1) := by decide +kernel
theorem dX3_putNumber_3 : decode cX3_putNumber 3 = .ok (.aconst_null, 1) := by decide +kernel
theorem dX3_putNumber_4 : decode cX3_putNumber 4 = .ok (.iconst 0, 1) := by decide +kernel
theorem dX3_putNumber_5 : decode cX3_putNumber 5 = .ok (.invokevirtual 36, 3) := by decide +kernel
theorem dX3_putNumber_8 : decode cX3_putNumber 8 = .ok (.return_, 1) := by decide +kernel
set_option maxRecDepth 20000 in
theorem ggX3_putText_X3_put : GoodIn wsX3_putText wsX3_put := goodIn_ca (goodIn_r _ [5, 6, 7, 8, 9, 10, 11, 4, 12, 13, 14, 15, 16, 17, 18, 19, 20, 21, 22, 23, 24, 25, 26, 27, 28, 29] (by decide +kernel) (by decide +kernel)) (goodIn_sub (fun _ h => List.mem_cons_of_mem _ (List.mem_append_right _ h)) (by decide +kernel))
set_option maxRecDepth 20000 in
theorem gX3_putText_X3_put : GoodIn wsX3_putText (wsV RX3 36 RX3 yX3_put wsX3_put) := goodIn_app (goodIn_of _ (by decide +kernel)) ggX3_putText_X3_put
theorem dX3_putText_0 : decode cX3_putText 0 = .ok (.aload_n 0, 1) := by decide +kernel
theorem dX3_putText_1 : decode cX3_putText 1 = .ok (.iload_n 3, 1) := by decide +kernel
theorem dX3_putText_2 : decode cX3_putText 2 = .ok (.i2l, 1) := by decide +kernel
theorem dX3_putText_3 : decode cX3_putText 3 = .ok (.iconst (-1), 1) := by decide +kernel
theorem dX3_putText_4 : decode cX3_putText 4 = .ok (.aload_n 1, 1) := by decide +kernel
theorem dX3_putText_5 : decode cX3_putText 5 = .ok (.iload_n 2, 1) := by decide +kernel
theorem dX3_putText_6 : decode cX3_putText 6 = .ok (.invokevirtual 36, 3) := by decide +kernel
theorem dX3_putText_9 : decode cX3_putText 9 = .ok (.return_, 1) := by decide +kernel
set_option maxRecDepth 20000 in
theorem ggX3_putTopOf_X3_slotBelowTop : GoodIn wsX3_putTopOf wsX3_slotBelowTop := goodIn_r _ [5, 6, 45, 46, 47, 48, 49] (by decide +kernel) (by decide +kernel)
set_option maxRecDepth 20000 in
theorem gX3_putTopOf_X3_slotBelowTop : GoodIn wsX3_putTopOf (wsV RX3 40 RX3 yX3_slotBelowTop wsX3_slotBelowTop) := goodIn_app (goodIn_of _ (by decide +kernel)) ggX3_putTopOf_X3_slotBelowTop
set_option maxRecDepth 20000 in
theorem ggX3_putTopOf_X3_valueAt : GoodIn wsX3_putTopOf wsX3_valueAt := goodIn_r _ [10, 11, 12, 13, 14, 4, 15, 6, 45, 46, 47, 48, 49] (by decide +kernel) (by decide +kernel)
set_option maxRecDepth 20000 in
theorem gX3_putTopOf_X3_valueAt : GoodIn wsX3_putTopOf (wsV RX3 44 RX3 yX3_valueAt wsX3_valueAt) := goodIn_app (goodIn_of _ (by decide +kernel)) ggX3_putTopOf_X3_valueAt
set_option maxRecDepth 20000 in
theorem ggX3_putTopOf_X3_placesAt : GoodIn wsX3_putTopOf wsX3_placesAt := goodIn_r _ [19, 20, 12, 13, 14, 4, 15, 6, 11, 45, 46, 47, 48, 49] (by decide +kernel) (by decide +kernel)
set_option maxRecDepth 20000 in
theorem gX3_putTopOf_X3_placesAt : GoodIn wsX3_putTopOf (wsV RX3 48 RX3 yX3_placesAt wsX3_placesAt) := goodIn_app (goodIn_of _ (by decide +kernel)) ggX3_putTopOf_X3_placesAt
set_option maxRecDepth 20000 in
theorem ggX3_putTopOf_X3_rowAt : GoodIn wsX3_putTopOf wsX3_rowAt := goodIn_r _ [24, 25, 12, 13, 14, 4, 15, 6, 11, 45, 46, 47, 48, 49] (by decide +kernel) (by decide +kernel)
set_option maxRecDepth 20000 in
theorem gX3_putTopOf_X3_rowAt : GoodIn wsX3_putTopOf (wsV RX3 51 RX3 yX3_rowAt wsX3_rowAt) := goodIn_app (goodIn_of _ (by decide +kernel)) ggX3_putTopOf_X3_rowAt
set_option maxRecDepth 20000 in
theorem ggX3_putTopOf_X3_startAt : GoodIn wsX3_putTopOf wsX3_startAt := goodIn_r _ [29, 30, 12, 13, 14, 4, 15, 6, 11, 45, 46, 47, 48, 49] (by decide +kernel) (by decide +kernel)
set_option maxRecDepth 20000 in
theorem gX3_putTopOf_X3_startAt : GoodIn wsX3_putTopOf (wsV RX3 55 RX3 yX3_startAt wsX3_startAt) := goodIn_app (goodIn_of _ (by decide +kernel)) ggX3_putTopOf_X3_startAt
set_option maxRecDepth 20000 in
theorem ggX3_putTopOf_X3_put : GoodIn wsX3_putTopOf wsX3_put := goodIn_ca (goodIn_r _ [34, 35, 36, 6, 37, 38, 39, 4, 40, 11, 41, 42, 43, 44, 20, 25, 30, 12, 13, 14, 15, 45, 46, 47, 48, 49] (by decide +kernel) (by decide +kernel)) (goodIn_sub (fun _ h => List.mem_cons_of_mem _ (List.mem_append_right _ h)) (by decide +kernel))
set_option maxRecDepth 20000 in
theorem gX3_putTopOf_X3_put : GoodIn wsX3_putTopOf (wsV RX3 36 RX3 yX3_put wsX3_put) := goodIn_app (goodIn_of _ (by decide +kernel)) ggX3_putTopOf_X3_put
theorem dX3_putTopOf_0 : decode cX3_putTopOf 0 = .ok (.aload_n 1, 1) := by decide +kernel
theorem dX3_putTopOf_1 : decode cX3_putTopOf 1 = .ok (.iconst 0, 1) := by decide +kernel
theorem dX3_putTopOf_2 : decode cX3_putTopOf 2 = .ok (.invokevirtual 40, 3) := by decide +kernel
theorem dX3_putTopOf_5 : decode cX3_putTopOf 5 = .ok (.istore_n 2, 1) := by decide +kernel
theorem dX3_putTopOf_6 : decode cX3_putTopOf 6 = .ok (.aload_n 0, 1) := by decide +kernel
theorem dX3_putTopOf_7 : decode cX3_putTopOf 7 = .ok (.aload_n 1, 1) := by decide +kernel
theorem dX3_putTopOf_8 : decode cX3_putTopOf 8 = .ok (.iload_n 2, 1) := by decide +kernel
theorem dX3_putTopOf_9 : decode cX3_putTopOf 9 = .ok (.invokevirtual 44, 3) := by decide +kernel
theorem dX3_putTopOf_12 : decode cX3_putTopOf 12 = .ok (.aload_n 1, 1) := by decide +kernel
theorem dX3_putTopOf_13 : decode cX3_putTopOf 13 = .ok (.iload_n 2, 1) := by decide +kernel
theorem dX3_putTopOf_14 : decode cX3_putTopOf 14 = .ok (.invokevirtual 48, 3) := by decide +kernel
theorem dX3_putTopOf_17 : decode cX3_putTopOf 17 = .ok (.aload_n 1, 1) := by decide +kernel
theorem dX3_putTopOf_18 : decode cX3_putTopOf 18 = .ok (.iload_n 2, 1) := by decide +kernel
theorem dX3_putTopOf_19 : decode cX3_putTopOf 19 = .ok (.invokevirtual 51, 3) := by decide +kernel
theorem dX3_putTopOf_22 : decode cX3_putTopOf 22 = .ok (.aload_n 1, 1) := by decide +kernel
theorem dX3_putTopOf_23 : decode cX3_putTopOf 23 = .ok (.iload_n 2, 1) := by decide +kernel
theorem dX3_putTopOf_24 : decode cX3_putTopOf 24 = .ok (.invokevirtual 55, 3) := by decide +kernel
theorem dX3_putTopOf_27 : decode cX3_putTopOf 27 = .ok (.invokevirtual 36, 3) := by decide +kernel
theorem dX3_putTopOf_30 : decode cX3_putTopOf 30 = .ok (.return_, 1) := by decide +kernel
set_option maxRecDepth 20000 in
theorem ggX3_put_X3_isFull : GoodIn wsX3_put wsX3_isFull := goodIn_r _ [8, 3, 9, 21, 22, 23, 24, 25] (by decide +kernel) (by decide +kernel)
set_option maxRecDepth 20000 in
theorem gX3_put_X3_isFull : GoodIn wsX3_put (wsV RX3 58 RX3 yX3_isFull wsX3_isFull) := goodIn_app (goodIn_of _ (by decide +kernel)) ggX3_put_X3_isFull
set_option maxRecDepth 20000 in
theorem ggX3_put_X3_set : GoodIn wsX3_put wsX3_set := goodIn_r _ [13, 9, 14, 15, 16, 17, 18, 19, 7, 20, 3, 21, 22, 23, 24, 25] (by decide +kernel) (by decide +kernel)
set_option maxRecDepth 20000 in
theorem gX3_put_X3_set : GoodIn wsX3_put (wsV RX3 69 RX3 yX3_set wsX3_set) := goodIn_app (goodIn_of _ (by decide +kernel)) ggX3_put_X3_set
theorem dX3_put_0 : decode cX3_put 0 = .ok (.aload_n 0, 1) := by decide +kernel
theorem dX3_put_1 : decode cX3_put 1 = .ok (.invokevirtual 58, 3) := by decide +kernel
theorem dX3_put_4 : decode cX3_put 4 = .ok (.ifCond .eq 13, 3) := by decide +kernel
theorem dX3_put_7 : decode cX3_put 7 = .ok (.new 62, 3) := by decide +kernel
theorem dX3_put_10 : decode cX3_put 10 = .ok (.dup, 1) := by decide +kernel
theorem dX3_put_11 : decode cX3_put 11 = .ok (.ldc 64, 2) := by decide +kernel
theorem dX3_put_13 : decode cX3_put 13 = .ok (.invokespecial 66, 3) := by decide +kernel
theorem dX3_put_16 : decode cX3_put 16 = .ok (.athrow, 1) := by decide +kernel
theorem dX3_put_17 : decode cX3_put 17 = .ok (.aload_n 0, 1) := by decide +kernel
theorem dX3_put_18 : decode cX3_put 18 = .ok (.dup, 1) := by decide +kernel
theorem dX3_put_19 : decode cX3_put 19 = .ok (.getfield 28, 3) := by decide +kernel
theorem dX3_put_22 : decode cX3_put 22 = .ok (.iconst 1, 1) := by decide +kernel
theorem dX3_put_23 : decode cX3_put 23 = .ok (.iadd, 1) := by decide +kernel
theorem dX3_put_24 : decode cX3_put 24 = .ok (.putfield 28, 3) := by decide +kernel
theorem dX3_put_27 : decode cX3_put 27 = .ok (.aload_n 0, 1) := by decide +kernel
theorem dX3_put_28 : decode cX3_put 28 = .ok (.aload_n 0, 1) := by decide +kernel
theorem dX3_put_29 : decode cX3_put 29 = .ok (.getfield 28, 3) := by decide +kernel
theorem dX3_put_32 : decode cX3_put 32 = .ok (.iconst 1, 1) := by decide +kernel
theorem dX3_put_33 : decode cX3_put 33 = .ok (.isub, 1) := by decide +kernel
theorem dX3_put_34 : decode cX3_put 34 = .ok (.lload_n 1, 1) := by decide +kernel
theorem dX3_put_35 : decode cX3_put 35 = .ok (.iload_n 3, 1) := by decide +kernel
theorem dX3_put_36 : decode cX3_put 36 = .ok (.aload 4, 2) := by decide +kernel
theorem dX3_put_38 : decode cX3_put 38 = .ok (.iload 5, 2) := by decide +kernel
theorem dX3_put_40 : decode cX3_put 40 = .ok (.invokevirtual 69, 3) := by decide +kernel
theorem dX3_put_43 : decode cX3_put 43 = .ok (.return_, 1) := by decide +kernel
set_option maxRecDepth 20000 in
theorem ggX3_set_X3_has : GoodIn wsX3_set wsX3_has := goodIn_r _ [9, 10, 1, 11, 12, 13, 14, 15] (by decide +kernel) (by decide +kernel)
set_option maxRecDepth 20000 in
theorem gX3_set_X3_has : GoodIn wsX3_set (wsV RX3 32 RX3 yX3_has wsX3_has) := goodIn_app (goodIn_of _ (by decide +kernel)) ggX3_set_X3_has
theorem dX3_set_0 : decode cX3_set 0 = .ok (.aload_n 0, 1) := by decide +kernel
theorem dX3_set_1 : decode cX3_set 1 = .ok (.iload_n 1, 1) := by decide +kernel
theorem dX3_set_2 : decode cX3_set 2 = .ok (.invokevirtual 32, 3) := by decide +kernel
theorem dX3_set_5 : decode cX3_set 5 = .ok (.ifCond .eq 34, 3) := by decide +kernel
theorem dX3_set_8 : decode cX3_set 8 = .ok (.aload_n 0, 1) := by decide +kernel
theorem dX3_set_9 : decode cX3_set 9 = .ok (.getfield 9, 3) := by decide +kernel
theorem dX3_set_12 : decode cX3_set 12 = .ok (.iload_n 1, 1) := by decide +kernel
theorem dX3_set_13 : decode cX3_set 13 = .ok (.lload_n 2, 1) := by decide +kernel
theorem dX3_set_14 : decode cX3_set 14 = .ok (.lastore, 1) := by decide +kernel
theorem dX3_set_15 : decode cX3_set 15 = .ok (.aload_n 0, 1) := by decide +kernel
theorem dX3_set_16 : decode cX3_set 16 = .ok (.getfield 15, 3) := by decide +kernel
theorem dX3_set_19 : decode cX3_set 19 = .ok (.iload_n 1, 1) := by decide +kernel
theorem dX3_set_20 : decode cX3_set 20 = .ok (.iload 4, 2) := by decide +kernel
theorem dX3_set_22 : decode cX3_set 22 = .ok (.iastore, 1) := by decide +kernel
theorem dX3_set_23 : decode cX3_set 23 = .ok (.aload_n 0, 1) := by decide +kernel
theorem dX3_set_24 : decode cX3_set 24 = .ok (.getfield 21, 3) := by decide +kernel
theorem dX3_set_27 : decode cX3_set 27 = .ok (.iload_n 1, 1) := by decide +kernel
theorem dX3_set_28 : decode cX3_set 28 = .ok (.aload 5, 2) := by decide +kernel
theorem dX3_set_30 : decode cX3_set 30 = .ok (.aastore, 1) := by decide +kernel
theorem dX3_set_31 : decode cX3_set 31 = .ok (.aload_n 0, 1) := by decide +kernel
theorem dX3_set_32 : decode cX3_set 32 = .ok (.getfield 25, 3) := by decide +kernel
theorem dX3_set_35 : decode cX3_set 35 = .ok (.iload_n 1, 1) := by decide +kernel
theorem dX3_set_36 : decode cX3_set 36 = .ok (.iload 6, 2) := by decide +kernel
theorem dX3_set_38 : decode cX3_set 38 = .ok (.iastore, 1) := by decide +kernel
theorem dX3_set_39 : decode cX3_set 39 = .ok (.return_, 1) := by decide +kernel
set_option maxRecDepth 20000 in
theorem ggX3_swapTopTwo_X3_slotBelowTop : GoodIn wsX3_swapTopTwo wsX3_slotBelowTop := goodIn_r _ [5, 6, 35, 36, 37, 38, 39] (by decide +kernel) (by decide +kernel)
set_option maxRecDepth 20000 in
theorem gX3_swapTopTwo_X3_slotBelowTop : GoodIn wsX3_swapTopTwo (wsV RX3 40 RX3 yX3_slotBelowTop wsX3_slotBelowTop) := goodIn_app (goodIn_of _ (by decide +kernel)) ggX3_swapTopTwo_X3_slotBelowTop
set_option maxRecDepth 20000 in
theorem ggX3_swapTopTwo_X3_valueAt : GoodIn wsX3_swapTopTwo wsX3_valueAt := goodIn_r _ [10, 11, 12, 13, 14, 4, 15, 6, 35, 36, 37, 38, 39] (by decide +kernel) (by decide +kernel)
set_option maxRecDepth 20000 in
theorem gX3_swapTopTwo_X3_valueAt : GoodIn wsX3_swapTopTwo (wsV RX3 44 RX3 yX3_valueAt wsX3_valueAt) := goodIn_app (goodIn_of _ (by decide +kernel)) ggX3_swapTopTwo_X3_valueAt
set_option maxRecDepth 20000 in
theorem ggX3_swapTopTwo_X3_placesAt : GoodIn wsX3_swapTopTwo wsX3_placesAt := goodIn_r _ [19, 20, 12, 13, 14, 4, 15, 6, 11, 35, 36, 37, 38, 39] (by decide +kernel) (by decide +kernel)
set_option maxRecDepth 20000 in
theorem gX3_swapTopTwo_X3_placesAt : GoodIn wsX3_swapTopTwo (wsV RX3 48 RX3 yX3_placesAt wsX3_placesAt) := goodIn_app (goodIn_of _ (by decide +kernel)) ggX3_swapTopTwo_X3_placesAt
set_option maxRecDepth 20000 in
theorem ggX3_swapTopTwo_X3_rowAt : GoodIn wsX3_swapTopTwo wsX3_rowAt := goodIn_r _ [24, 25, 12, 13, 14, 4, 15, 6, 11, 35, 36, 37, 38, 39] (by decide +kernel) (by decide +kernel)
set_option maxRecDepth 20000 in
theorem gX3_swapTopTwo_X3_rowAt : GoodIn wsX3_swapTopTwo (wsV RX3 51 RX3 yX3_rowAt wsX3_rowAt) := goodIn_app (goodIn_of _ (by decide +kernel)) ggX3_swapTopTwo_X3_rowAt
set_option maxRecDepth 20000 in
theorem ggX3_swapTopTwo_X3_startAt : GoodIn wsX3_swapTopTwo wsX3_startAt := goodIn_r _ [29, 30, 12, 13, 14, 4, 15, 6, 11, 35, 36, 37, 38, 39] (by decide +kernel) (by decide +kernel)
set_option maxRecDepth 20000 in
theorem gX3_swapTopTwo_X3_startAt : GoodIn wsX3_swapTopTwo (wsV RX3 55 RX3 yX3_startAt wsX3_startAt) := goodIn_app (goodIn_of _ (by decide +kernel)) ggX3_swapTopTwo_X3_startAt
set_option maxRecDepth 20000 in
theorem ggX3_swapTopTwo_X3_set : GoodIn wsX3_swapTopTwo wsX3_set := goodIn_r _ [34, 11, 20, 25, 30, 12, 13, 14, 4, 15, 6, 35, 36, 37, 38, 39] (by decide +kernel) (by decide +kernel)
set_option maxRecDepth 20000 in
theorem gX3_swapTopTwo_X3_set : GoodIn wsX3_swapTopTwo (wsV RX3 69 RX3 yX3_set wsX3_set) := goodIn_app (goodIn_of _ (by decide +kernel)) ggX3_swapTopTwo_X3_set
theorem dX3_swapTopTwo_0 : decode cX3_swapTopTwo 0 = .ok (.aload_n 0, 1) := by decide +kernel
theorem dX3_swapTopTwo_1 : decode cX3_swapTopTwo 1 = .ok (.iconst 0, 1) := by decide +kernel
theorem dX3_swapTopTwo_2 : decode cX3_swapTopTwo 2 = .ok (.invokevirtual 40, 3) := by decide +kernel
theorem dX3_swapTopTwo_5 : decode cX3_swapTopTwo 5 = .ok (.istore_n 1, 1) := by decide +kernel
theorem dX3_swapTopTwo_6 : decode cX3_swapTopTwo 6 = .ok (.aload_n 0, 1) := by decide +kernel
theorem dX3_swapTopTwo_7 : decode cX3_swapTopTwo 7 = .ok (.iconst 1, 1) := by decide +kernel
theorem dX3_swapTopTwo_8 : decode cX3_swapTopTwo 8 = .ok (.invokevirtual 40, 3) := by decide +kernel
theorem dX3_swapTopTwo_11 : decode cX3_swapTopTwo 11 = .ok (.istore_n 2, 1) := by decide +kernel
theorem dX3_swapTopTwo_12 : decode cX3_swapTopTwo 12 = .ok (.aload_n 0, 1) := by decide +kernel
theorem dX3_swapTopTwo_13 : decode cX3_swapTopTwo 13 = .ok (.iload_n 1, 1) := by decide +kernel
theorem dX3_swapTopTwo_14 : decode cX3_swapTopTwo 14 = .ok (.invokevirtual 44, 3) := by decide +kernel
theorem dX3_swapTopTwo_17 : decode cX3_swapTopTwo 17 = .ok (.lstore_n 3, 1) := by decide +kernel
theorem dX3_swapTopTwo_18 : decode cX3_swapTopTwo 18 = .ok (.aload_n 0, 1) := by decide +kernel

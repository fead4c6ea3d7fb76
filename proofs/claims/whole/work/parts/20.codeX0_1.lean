set_option maxRecDepth 20000 in
theorem ggX0_sum_X0_raise : GoodIn wsX0_sum wsX0_raise := goodIn_ca (goodIn_r _ [8, 9, 10, 7, 11, 12, 1, 2, 3, 4, 13, 14, 15, 16, 17, 18, 19, 20, 21, 22, 23, 24] (by decide +kernel) (by decide +kernel)) (goodIn_sub (fun _ h => List.mem_cons_of_mem _ (List.mem_append_right _ h)) (by decide +kernel))
set_option maxRecDepth 20000 in
theorem gX0_sum_X0_raise : GoodIn wsX0_sum (va_wsS RX0 15 yX0_raise wsX0_raise) := goodIn_app (goodIn_of _ (by decide +kernel)) ggX0_sum_X0_raise
set_option maxRecDepth 20000 in
theorem ggX0_sum_X0_fitting : GoodIn wsX0_sum wsX0_fitting := goodIn_ca (goodIn_r _ [27, 19, 20, 21, 22, 3, 23, 24] (by decide +kernel) (by decide +kernel)) (goodIn_sub (fun _ h => List.mem_cons_of_mem _ (List.mem_append_right _ h)) (by decide +kernel))
set_option maxRecDepth 20000 in
theorem gX0_sum_X0_fitting : GoodIn wsX0_sum (va_wsS RX0 21 yX0_fitting wsX0_fitting) := goodIn_app (goodIn_of _ (by decide +kernel)) ggX0_sum_X0_fitting
theorem dX0_sum_0 : decode cX0_sum 0 = .ok (.iload_n 2, 1) := by decide +kernel
theorem dX0_sum_1 : decode cX0_sum 1 = .ok (.iload 5, 2) := by decide +kernel
theorem dX0_sum_3 : decode cX0_sum 3 = .ok (.invokestatic 9, 3) := by decide +kernel
theorem dX0_sum_6 : decode cX0_sum 6 = .ok (.istore 6, 2) := by decide +kernel
theorem dX0_sum_8 : decode cX0_sum 8 = .ok (.lload_n 0, 1) := by decide +kernel
theorem dX0_sum_9 : decode cX0_sum 9 = .ok (.iload 6, 2) := by decide +kernel
theorem dX0_sum_11 : decode cX0_sum 11 = .ok (.iload_n 2, 1) := by decide +kernel
theorem dX0_sum_12 : decode cX0_sum 12 = .ok (.isub, 1) := by decide +kernel
theorem dX0_sum_13 : decode cX0_sum 13 = .ok (.invokestatic 15, 3) := by decide +kernel
theorem dX0_sum_16 : decode cX0_sum 16 = .ok (.lload_n 3, 1) := by decide +kernel
theorem dX0_sum_17 : decode cX0_sum 17 = .ok (.iload 6, 2) := by decide +kernel
theorem dX0_sum_19 : decode cX0_sum 19 = .ok (.iload 5, 2) := by decide +kernel
theorem dX0_sum_21 : decode cX0_sum 21 = .ok (.isub, 1) := by decide +kernel
theorem dX0_sum_22 : decode cX0_sum 22 = .ok (.invokestatic 15, 3) := by decide +kernel
theorem dX0_sum_25 : decode cX0_sum 25 = .ok (.ladd, 1) := by decide +kernel
theorem dX0_sum_26 : decode cX0_sum 26 = .ok (.invokestatic 21, 3) := by decide +kernel
theorem dX0_sum_29 : decode cX0_sum 29 = .ok (.lreturn, 1) := by decide +kernel
set_option maxRecDepth 20000 in
theorem ggX0_order_X0_raise : GoodIn wsX0_order wsX0_raise := goodIn_ca (goodIn_r _ [8, 9, 10, 7, 11, 12, 1, 2, 3, 4, 13, 14, 15, 16, 17, 18, 19, 20, 21, 22, 23, 24] (by decide +kernel) (by decide +kernel)) (goodIn_sub (fun _ h => List.mem_cons_of_mem _ (List.mem_append_right _ h)) (by decide +kernel))
set_option maxRecDepth 20000 in
theorem gX0_order_X0_raise : GoodIn wsX0_order (va_wsS RX0 15 yX0_raise wsX0_raise) := goodIn_app (goodIn_of _ (by decide +kernel)) ggX0_order_X0_raise
set_option maxRecDepth 20000 in
theorem ggX0_order_J13_compare_74951 : GoodIn wsX0_order wsJ13_compare_74951 := goodIn_r _ [28] (by decide +kernel) (by decide +kernel)
set_option maxRecDepth 20000 in
theorem gX0_order_J13_compare_74951 : GoodIn wsX0_order (va_wsS RX0 25 yJ13_compare_74951 wsJ13_compare_74951) := goodIn_app (goodIn_of _ (by decide +kernel)) ggX0_order_J13_compare_74951
theorem dX0_order_0 : decode cX0_order 0 = .ok (.iload_n 2, 1) := by decide +kernel
theorem dX0_order_1 : decode cX0_order 1 = .ok (.iload 5, 2) := by decide +kernel
theorem dX0_order_3 : decode cX0_order 3 = .ok (.invokestatic 9, 3) := by decide +kernel
theorem dX0_order_6 : decode cX0_order 6 = .ok (.istore 6, 2) := by decide +kernel
theorem dX0_order_8 : decode cX0_order 8 = .ok (.lload_n 0, 1) := by decide +kernel
theorem dX0_order_9 : decode cX0_order 9 = .ok (.iload 6, 2) := by decide +kernel
theorem dX0_order_11 : decode cX0_order 11 = .ok (.iload_n 2, 1) := by decide +kernel
theorem dX0_order_12 : decode cX0_order 12 = .ok (.isub, 1) := by decide +kernel
theorem dX0_order_13 : decode cX0_order 13 = .ok (.invokestatic 15, 3) := by decide +kernel
theorem dX0_order_16 : decode cX0_order 16 = .ok (.lload_n 3, 1) := by decide +kernel
theorem dX0_order_17 : decode cX0_order 17 = .ok (.iload 6, 2) := by decide +kernel
theorem dX0_order_19 : decode cX0_order 19 = .ok (.iload 5, 2) := by decide +kernel
theorem dX0_order_21 : decode cX0_order 21 = .ok (.isub, 1) := by decide +kernel
theorem dX0_order_22 : decode cX0_order 22 = .ok (.invokestatic 15, 3) := by decide +kernel
theorem dX0_order_25 : decode cX0_order 25 = .ok (.invokestatic 25, 3) := by decide +kernel
theorem dX0_order_28 : decode cX0_order 28 = .ok (.ireturn, 1) := by decide +kernel
theorem dX0_times_0 : decode cX0_times 0 = .ok (.lload_n 2, 1) := by decide +kernel
theorem dX0_times_1 : decode cX0_times 1 = .ok (.lconst 0, 1) := by decide +kernel
theorem dX0_times_2 : decode cX0_times 2 = .ok (.lcmp, 1) := by decide +kernel
theorem dX0_times_3 : decode cX0_times 3 = .ok (.ifCond .eq 29, 3) := by decide +kernel
theorem dX0_times_6 : decode cX0_times 6 = .ok (.lload_n 0, 1) := by decide +kernel
theorem dX0_times_7 : decode cX0_times 7 = .ok (.invokestatic 31, 3) := by decide +kernel
theorem dX0_times_10 : decode cX0_times 10 = .ok (.ldc2_w 34, 3) := by decide +kernel
theorem dX0_times_13 : decode cX0_times 13 = .ok (.lload_n 2, 1) := by decide +kernel
theorem dX0_times_14 : decode cX0_times 14 = .ok (.invokestatic 31, 3) := by decide +kernel
theorem dX0_times_17 : decode cX0_times 17 = .ok (.ldiv, 1) := by decide +kernel
theorem dX0_times_18 : decode cX0_times 18 = .ok (.lcmp, 1) := by decide +kernel
theorem dX0_times_19 : decode cX0_times 19 = .ok (.ifCond .le 13, 3) := by decide +kernel
theorem dX0_times_22 : decode cX0_times 22 = .ok (.new 36, 3) := by decide +kernel
theorem dX0_times_25 : decode cX0_times 25 = .ok (.dup, 1) := by decide +kernel
theorem dX0_times_26 : decode cX0_times 26 = .ok (.ldc 38, 2) := by decide +kernel
theorem dX0_times_28 : decode cX0_times 28 = .ok (.invokespecial 40, 3) := by decide +kernel
theorem dX0_times_31 : decode cX0_times 31 = .ok (.athrow, 1) := by decide +kernel
theorem dX0_times_32 : decode cX0_times 32 = .ok (.lload_n 0, 1) := by decide +kernel
theorem dX0_times_33 : decode cX0_times 33 = .ok (.lload_n 2, 1) := by decide +kernel
theorem dX0_times_34 : decode cX0_times 34 = .ok (.lmul, 1) := by decide +kernel
theorem dX0_times_35 : decode cX0_times 35 = .ok (.lreturn, 1) := by decide +kernel
set_option maxRecDepth 20000 in
theorem ggX0_quotient_X0_raise : GoodIn wsX0_quotient wsX0_raise := goodIn_ca (goodIn_r _ [6, 7, 8, 5, 9, 10, 11, 12, 13, 14, 15, 16, 17, 18, 19, 20, 21, 22, 23, 24, 25, 26] (by decide +kernel) (by decide +kernel)) (goodIn_sub (fun _ h => List.mem_cons_of_mem _ (List.mem_append_right _ h)) (by decide +kernel))
set_option maxRecDepth 20000 in
theorem gX0_quotient_X0_raise : GoodIn wsX0_quotient (va_wsS RX0 15 yX0_raise wsX0_raise) := goodIn_app (goodIn_of _ (by decide +kernel)) ggX0_quotient_X0_raise
set_option maxRecDepth 20000 in
theorem ggX0_quotient_X0_divide : GoodIn wsX0_quotient wsX0_divide := goodIn_r _ [29] (by decide +kernel) (by decide +kernel)
set_option maxRecDepth 20000 in
theorem gX0_quotient_X0_divide : GoodIn wsX0_quotient (va_wsS RX0 48 yX0_divide wsX0_divide) := goodIn_app (goodIn_of _ (by decide +kernel)) ggX0_quotient_X0_divide
theorem dX0_quotient_0 : decode cX0_quotient 0 = .ok (.lload_n 3, 1) := by decide +kernel
theorem dX0_quotient_1 : decode cX0_quotient 1 = .ok (.lconst 0, 1) := by decide +kernel
theorem dX0_quotient_2 : decode cX0_quotient 2 = .ok (.lcmp, 1) := by decide +kernel
theorem dX0_quotient_3 : decode cX0_quotient 3 = .ok (.ifCond .ne 13, 3) := by decide +kernel
theorem dX0_quotient_6 : decode cX0_quotient 6 = .ok (.new 43, 3) := by decide +kernel
theorem dX0_quotient_9 : decode cX0_quotient 9 = .ok (.dup, 1) := by decide +kernel
theorem dX0_quotient_10 : decode cX0_quotient 10 = .ok (.ldc 45, 2) := by decide +kernel
theorem dX0_quotient_12 : decode cX0_quotient 12 = .ok (.invokespecial 47, 3) := by decide +kernel
theorem dX0_quotient_15 : decode cX0_quotient 15 = .ok (.athrow, 1) := by decide +kernel
theorem dX0_quotient_16 : decode cX0_quotient 16 = .ok (.iload 6, 2) := by decide +kernel
theorem dX0_quotient_18 : decode cX0_quotient 18 = .ok (.iload 5, 2) := by decide +kernel
theorem dX0_quotient_20 : decode cX0_quotient 20 = .ok (.iadd, 1) := by decide +kernel
theorem dX0_quotient_21 : decode cX0_quotient 21 = .ok (.iload_n 2, 1) := by decide +kernel
theorem dX0_quotient_22 : decode cX0_quotient 22 = .ok (.isub, 1) := by decide +kernel
theorem dX0_quotient_23 : decode cX0_quotient 23 = .ok (.istore 7, 2) := by decide +kernel
theorem dX0_quotient_25 : decode cX0_quotient 25 = .ok (.iload 7, 2) := by decide +kernel
theorem dX0_quotient_27 : decode cX0_quotient 27 = .ok (.ifCond .le 16, 3) := by decide +kernel
theorem dX0_quotient_30 : decode cX0_quotient 30 = .ok (.lload_n 0, 1) := by decide +kernel
theorem dX0_quotient_31 : decode cX0_quotient 31 = .ok (.iload 7, 2) := by decide +kernel
theorem dX0_quotient_33 : decode cX0_quotient 33 = .ok (.invokestatic 15, 3) := by decide +kernel
theorem dX0_quotient_36 : decode cX0_quotient 36 = .ok (.lload_n 3, 1) := by decide +kernel
theorem dX0_quotient_37 : decode cX0_quotient 37 = .ok (.invokestatic 48, 3) := by decide +kernel
theorem dX0_quotient_40 : decode cX0_quotient 40 = .ok (.goto 14, 3) := by decide +kernel
theorem dX0_quotient_43 : decode cX0_quotient 43 = .ok (.lload_n 0, 1) := by decide +kernel
theorem dX0_quotient_44 : decode cX0_quotient 44 = .ok (.lload_n 3, 1) := by decide +kernel
theorem dX0_quotient_45 : decode cX0_quotient 45 = .ok (.iload 7, 2) := by decide +kernel
theorem dX0_quotient_47 : decode cX0_quotient 47 = .ok (.ineg, 1) := by decide +kernel
theorem dX0_quotient_48 : decode cX0_quotient 48 = .ok (.invokestatic 15, 3) := by decide +kernel
theorem dX0_quotient_51 : decode cX0_quotient 51 = .ok (.invokestatic 48, 3) := by decide +kernel
theorem dX0_quotient_54 : decode cX0_quotient 54 = .ok (.lreturn, 1) := by decide +kernel
set_option maxRecDepth 20000 in
theorem ggX0_remainder_X0_quotient : GoodIn wsX0_remainder wsX0_quotient := goodIn_ca (goodIn_ca (goodIn_r _ [10, 11, 12, 13, 14, 9, 15, 16, 17, 18, 19, 3, 4, 5, 6, 20, 21, 22, 23, 24, 25, 1, 2, 26, 27, 28, 29, 30, 31, 32] (by decide +kernel) (by decide +kernel)) (goodIn_sub (fun _ h => List.mem_cons_of_mem _ (List.mem_append_right _ h)) (by decide +kernel))) (goodIn_sub (fun _ h => List.mem_cons_of_mem _ (List.mem_append_left _ (List.mem_append_right _ h))) (by decide +kernel))
set_option maxRecDepth 20000 in
theorem gX0_remainder_X0_quotient : GoodIn wsX0_remainder (va_wsS RX0 52 yX0_quotient wsX0_quotient) := goodIn_app (goodIn_of _ (by decide +kernel)) ggX0_remainder_X0_quotient
set_option maxRecDepth 20000 in
theorem ggX0_remainder_X0_times : GoodIn wsX0_remainder wsX0_times := goodIn_ca (goodIn_r _ [25, 1, 2, 26, 27, 5, 28, 29] (by decide +kernel) (by decide +kernel)) (goodIn_sub (fun _ h => List.mem_cons_of_mem _ (List.mem_append_left _ (List.mem_append_right _ h))) (by decide +kernel))
set_option maxRecDepth 20000 in
theorem gX0_remainder_X0_times : GoodIn wsX0_remainder (va_wsS RX0 58 yX0_times wsX0_times) := goodIn_app (goodIn_of _ (by decide +kernel)) ggX0_remainder_X0_times
set_option maxRecDepth 20000 in
theorem ggX0_remainder_X0_raise : GoodIn wsX0_remainder wsX0_raise := goodIn_ca (goodIn_r _ [15, 16, 17, 9, 18, 19, 3, 4, 5, 6, 20, 21, 22, 23, 24, 25, 1, 2, 26, 27, 28, 29] (by decide +kernel) (by decide +kernel)) (goodIn_sub (fun _ h => List.mem_cons_of_mem _ (List.mem_append_left _ (List.mem_append_right _ h))) (by decide +kernel))
set_option maxRecDepth 20000 in
theorem gX0_remainder_X0_raise : GoodIn wsX0_remainder (va_wsS RX0 15 yX0_raise wsX0_raise) := goodIn_app (goodIn_of _ (by decide +kernel)) ggX0_remainder_X0_raise
set_option maxRecDepth 20000 in
theorem ggX0_remainder_X0_fitting : GoodIn wsX0_remainder wsX0_fitting := goodIn_ca (goodIn_r _ [35, 1, 2, 26, 27, 5, 28, 29] (by decide +kernel) (by decide +kernel)) (goodIn_sub (fun _ h => List.mem_cons_of_mem _ (List.mem_append_left _ (List.mem_append_right _ h))) (by decide +kernel))
set_option maxRecDepth 20000 in
theorem gX0_remainder_X0_fitting : GoodIn wsX0_remainder (va_wsS RX0 21 yX0_fitting wsX0_fitting) := goodIn_app (goodIn_of _ (by decide +kernel)) ggX0_remainder_X0_fitting
theorem dX0_remainder_0 : decode cX0_remainder 0 = .ok (.lload_n 0, 1) := by decide +kernel
theorem dX0_remainder_1 : decode cX0_remainder 1 = .ok (.iload_n 2, 1) := by decide +kernel
theorem dX0_remainder_2 : decode cX0_remainder 2 = .ok (.lload_n 3, 1) := by decide +kernel
theorem dX0_remainder_3 : decode cX0_remainder 3 = .ok (.iload 5, 2) := by decide +kernel
theorem dX0_remainder_5 : decode cX0_remainder 5 = .ok (.iload 6, 2) := by decide +kernel
theorem dX0_remainder_7 : decode cX0_remainder 7 = .ok (.invokestatic 52, 3) := by decide +kernel
theorem dX0_remainder_10 : decode cX0_remainder 10 = .ok (.lstore 7, 2) := by decide +kernel
theorem dX0_remainder_12 : decode cX0_remainder 12 = .ok (.iload 6, 2) := by decide +kernel
theorem dX0_remainder_14 : decode cX0_remainder 14 = .ok (.iload 5, 2) := by decide +kernel
theorem dX0_remainder_16 : decode cX0_remainder 16 = .ok (.iadd, 1) := by decide +kernel
theorem dX0_remainder_17 : decode cX0_remainder 17 = .ok (.istore 9, 2) := by decide +kernel
theorem dX0_remainder_19 : decode cX0_remainder 19 = .ok (.iload 9, 2) := by decide +kernel
theorem dX0_remainder_21 : decode cX0_remainder 21 = .ok (.iload_n 2, 1) := by decide +kernel
theorem dX0_remainder_22 : decode cX0_remainder 22 = .ok (.invokestatic 9, 3) := by decide +kernel
theorem dX0_remainder_25 : decode cX0_remainder 25 = .ok (.istore 10, 2) := by decide +kernel
theorem dX0_remainder_27 : decode cX0_remainder 27 = .ok (.iload 10, 2) := by decide +kernel
theorem dX0_remainder_29 : decode cX0_remainder 29 = .ok (.bipush 9, 2) := by decide +kernel
theorem dX0_remainder_31 : decode cX0_remainder 31 = .ok (.if_icmp .le 13, 3) := by decide +kernel
theorem dX0_remainder_34 : decode cX0_remainder 34 = .ok (.new 36, 3) := by decide +kernel
theorem dX0_remainder_37 : decode cX0_remainder 37 = .ok (.dup, 1) := by decide +kernel
theorem dX0_remainder_38 : decode cX0_remainder 38 = .ok (.ldc 56, 2) := by decide +kernel
theorem dX0_remainder_40 : decode cX0_remainder 40 = .ok (.invokespecial 40, 3) := by decide +kernel
theorem dX0_remainder_43 : decode cX0_remainder 43 = .ok (.athrow, 1) := by decide +kernel
theorem dX0_remainder_44 : decode cX0_remainder 44 = .ok (.lload 7, 2) := by decide +kernel
theorem dX0_remainder_46 : decode cX0_remainder 46 = .ok (.lload_n 3, 1) := by decide +kernel
theorem dX0_remainder_47 : decode cX0_remainder 47 = .ok (.invokestatic 58, 3) := by decide +kernel
theorem dX0_remainder_50 : decode cX0_remainder 50 = .ok (.iload 10, 2) := by decide +kernel
theorem dX0_remainder_52 : decode cX0_remainder 52 = .ok (.iload 9, 2) := by decide +kernel
theorem dX0_remainder_54 : decode cX0_remainder 54 = .ok (.isub, 1) := by decide +kernel
theorem dX0_remainder_55 : decode cX0_remainder 55 = .ok (.invokestatic 15, 3) := by decide +kernel
theorem dX0_remainder_58 : decode cX0_remainder 58 = .ok (.lstore 11, 2) := by decide +kernel
theorem dX0_remainder_60 : decode cX0_remainder 60 = .ok (.lload_n 0, 1) := by decide +kernel
theorem dX0_remainder_61 : decode cX0_remainder 61 = .ok (.iload 10, 2) := by decide +kernel
theorem dX0_remainder_63 : decode cX0_remainder 63 = .ok (.iload_n 2, 1) := by decide +kernel
theorem dX0_remainder_64 : decode cX0_remainder 64 = .ok (.isub, 1) := by decide +kernel
theorem dX0_remainder_65 : decode cX0_remainder 65 = .ok (.invokestatic 15, 3) := by decide +kernel
theorem dX0_remainder_68 : decode cX0_remainder 68 = .ok (.lload 11, 2) := by decide +kernel
theorem dX0_remainder_70 : decode cX0_remainder 70 = .ok (.lsub, 1) := by decide +kernel
theorem dX0_remainder_71 : decode cX0_remainder 71 = .ok (.invokestatic 21, 3) := by decide +kernel
theorem dX0_remainder_74 : decode cX0_remainder 74 = .ok (.lreturn, 1) := by decide +kernel
set_option maxRecDepth 20000 in
theorem ggX0_root_X0_raise : GoodIn wsX0_root wsX0_raise := goodIn_ca (goodIn_r _ [8, 9, 10, 7, 11, 12, 13, 14, 15, 16, 17, 18, 19, 20, 21, 22, 23, 24, 25, 26, 27, 28] (by decide +kernel) (by decide +kernel)) (goodIn_sub (fun _ h => List.mem_cons_of_mem _ (List.mem_append_right _ h)) (by decide +kernel))
set_option maxRecDepth 20000 in
theorem gX0_root_X0_raise : GoodIn wsX0_root (va_wsS RX0 15 yX0_raise wsX0_raise) := goodIn_app (goodIn_of _ (by decide +kernel)) ggX0_root_X0_raise
theorem dX0_root_0 : decode cX0_root 0 = .ok (.lload_n 0, 1) := by decide +kernel
theorem dX0_root_1 : decode cX0_root 1 = .ok (.lconst 0, 1) := by decide +kernel
theorem dX0_root_2 : decode cX0_root 2 = .ok (.lcmp, 1) := by decide +kernel
theorem dX0_root_3 : decode cX0_root 3 = .ok (.ifCond .ge 13, 3) := by decide +kernel
theorem dX0_root_6 : decode cX0_root 6 = .ok (.new 43, 3) := by decide +kernel
theorem dX0_root_9 : decode cX0_root 9 = .ok (.dup, 1) := by decide +kernel
theorem dX0_root_10 : decode cX0_root 10 = .ok (.ldc 61, 2) := by decide +kernel
theorem dX0_root_12 : decode cX0_root 12 = .ok (.invokespecial 47, 3) := by decide +kernel
theorem dX0_root_15 : decode cX0_root 15 = .ok (.athrow, 1) := by decide +kernel
theorem dX0_root_16 : decode cX0_root 16 = .ok (.lload_n 0, 1) := by decide +kernel
theorem dX0_root_17 : decode cX0_root 17 = .ok (.iconst 2, 1) := by decide +kernel
theorem dX0_root_18 : decode cX0_root 18 = .ok (.iload_n 3, 1) := by decide +kernel
theorem dX0_root_19 : decode cX0_root 19 = .ok (.imul, 1) := by decide +kernel
theorem dX0_root_20 : decode cX0_root 20 = .ok (.iload_n 2, 1) := by decide +kernel
theorem dX0_root_21 : decode cX0_root 21 = .ok (.isub, 1) := by decide +kernel
theorem dX0_root_22 : decode cX0_root 22 = .ok (.invokestatic 15, 3) := by decide +kernel
theorem dX0_root_25 : decode cX0_root 25 = .ok (.lstore 4, 2) := by decide +kernel
theorem dX0_root_27 : decode cX0_root 27 = .ok (.lconst 0, 1) := by decide +kernel
theorem dX0_root_28 : decode cX0_root 28 = .ok (.lstore 6, 2) := by decide +kernel
theorem dX0_root_30 : decode cX0_root 30 = .ok (.ldc2_w 63, 3) := by decide +kernel
theorem dX0_root_33 : decode cX0_root 33 = .ok (.lstore 8, 2) := by decide +kernel
theorem dX0_root_35 : decode cX0_root 35 = .ok (.iconst 0, 1) := by decide +kernel
theorem dX0_root_36 : decode cX0_root 36 = .ok (.istore 10, 2) := by decide +kernel
theorem dX0_root_38 : decode cX0_root 38 = .ok (.iload 10, 2) := by decide +kernel
theorem dX0_root_40 : decode cX0_root 40 = .ok (.bipush 31, 2) := by decide +kernel
theorem dX0_root_42 : decode cX0_root 42 = .ok (.if_icmp .ge 54, 3) := by decide +kernel
theorem dX0_root_45 : decode cX0_root 45 = .ok (.lload 6, 2) := by decide +kernel
theorem dX0_root_47 : decode cX0_root 47 = .ok (.lload 8, 2) := by decide +kernel
theorem dX0_root_49 : decode cX0_root 49 = .ok (.lcmp, 1) := by decide +kernel
theorem dX0_root_50 : decode cX0_root 50 = .ok (.ifCond .ge 46, 3) := by decide +kernel
theorem dX0_root_53 : decode cX0_root 53 = .ok (.lload 6, 2) := by decide +kernel
theorem dX0_root_55 : decode cX0_root 55 = .ok (.lload 8, 2) := by decide +kernel
theorem dX0_root_57 : decode cX0_root 57 = .ok (.ladd, 1) := by decide +kernel
theorem dX0_root_58 : decode cX0_root 58 = .ok (.lconst 1, 1) := by decide +kernel
theorem dX0_root_59 : decode cX0_root 59 = .ok (.ladd, 1) := by decide +kernel
theorem dX0_root_60 : decode cX0_root 60 = .ok (.ldc2_w 65, 3) := by decide +kernel
theorem dX0_root_63 : decode cX0_root 63 = .ok (.ldiv, 1) := by decide +kernel
theorem dX0_root_64 : decode cX0_root 64 = .ok (.lstore 11, 2) := by decide +kernel
theorem dX0_root_66 : decode cX0_root 66 = .ok (.lload 11, 2) := by decide +kernel
theorem dX0_root_68 : decode cX0_root 68 = .ok (.lload 11, 2) := by decide +kernel
theorem dX0_root_70 : decode cX0_root 70 = .ok (.lmul, 1) := by decide +kernel
theorem dX0_root_71 : decode cX0_root 71 = .ok (.lload 4, 2) := by decide +kernel
theorem dX0_root_73 : decode cX0_root 73 = .ok (.lcmp, 1) := by decide +kernel
theorem dX0_root_74 : decode cX0_root 74 = .ok (.ifCond .gt 10, 3) := by decide +kernel
theorem dX0_root_77 : decode cX0_root 77 = .ok (.lload 11, 2) := by decide +kernel
theorem dX0_root_79 : decode cX0_root 79 = .ok (.lstore 6, 2) := by decide +kernel
theorem dX0_root_81 : decode cX0_root 81 = .ok (.goto 9, 3) := by decide +kernel
theorem dX0_root_84 : decode cX0_root 84 = .ok (.lload 11, 2) := by decide +kernel
theorem dX0_root_86 : decode cX0_root 86 = .ok (.lconst 1, 1) := by decide +kernel
theorem dX0_root_87 : decode cX0_root 87 = .ok (.lsub, 1) := by decide +kernel
theorem dX0_root_88 : decode cX0_root 88 = .ok (.lstore 8, 2) := by decide +kernel
theorem dX0_root_90 : decode cX0_root 90 = .ok (.iinc 10 1, 3) := by decide +kernel
theorem dX0_root_93 : decode cX0_root 93 = .ok (.goto (-55), 3) := by decide +kernel
theorem dX0_root_96 : decode cX0_root 96 = .ok (.lload 6, 2) := by decide +kernel
theorem dX0_root_98 : decode cX0_root 98 = .ok (.lreturn, 1) := by decide +kernel
set_option maxRecDepth 20000 in
theorem ggX0_asPlaces_X0_cutOff : GoodIn wsX0_asPlaces wsX0_cutOff := goodIn_r _ [7, 8, 9, 6, 10, 11, 12, 13, 14, 15, 16, 17, 18, 19, 20, 21] (by decide +kernel) (by decide +kernel)
set_option maxRecDepth 20000 in
theorem gX0_asPlaces_X0_cutOff : GoodIn wsX0_asPlaces (va_wsS RX0 67 yX0_cutOff wsX0_cutOff) := goodIn_app (goodIn_of _ (by decide +kernel)) ggX0_asPlaces_X0_cutOff
set_option maxRecDepth 20000 in
theorem ggX0_asPlaces_X0_raise : GoodIn wsX0_asPlaces wsX0_raise := goodIn_ca (goodIn_r _ [24, 8, 9, 6, 10, 11, 12, 13, 14, 15, 16, 17, 18, 25, 26, 27, 28, 29, 30, 31, 32, 33] (by decide +kernel) (by decide +kernel)) (goodIn_sub (fun _ h => List.mem_cons_of_mem _ (List.mem_append_right _ h)) (by decide +kernel))
set_option maxRecDepth 20000 in
theorem gX0_asPlaces_X0_raise : GoodIn wsX0_asPlaces (va_wsS RX0 15 yX0_raise wsX0_raise) := goodIn_app (goodIn_of _ (by decide +kernel)) ggX0_asPlaces_X0_raise
theorem dX0_asPlaces_0 : decode cX0_asPlaces 0 = .ok (.lload_n 0, 1) := by decide +kernel
theorem dX0_asPlaces_1 : decode cX0_asPlaces 1 = .ok (.iload_n 2, 1) := by decide +kernel
theorem dX0_asPlaces_2 : decode cX0_asPlaces 2 = .ok (.invokestatic 67, 3) := by decide +kernel
theorem dX0_asPlaces_5 : decode cX0_asPlaces 5 = .ok (.lstore_n 3, 1) := by decide +kernel
theorem dX0_asPlaces_6 : decode cX0_asPlaces 6 = .ok (.lload_n 3, 1) := by decide +kernel
theorem dX0_asPlaces_7 : decode cX0_asPlaces 7 = .ok (.lconst 0, 1) := by decide +kernel
theorem dX0_asPlaces_8 : decode cX0_asPlaces 8 = .ok (.lcmp, 1) := by decide +kernel
theorem dX0_asPlaces_9 : decode cX0_asPlaces 9 = .ok (.ifCond .lt 21, 3) := by decide +kernel
theorem dX0_asPlaces_12 : decode cX0_asPlaces 12 = .ok (.lload_n 3, 1) := by decide +kernel
theorem dX0_asPlaces_13 : decode cX0_asPlaces 13 = .ok (.ldc2_w 70, 3) := by decide +kernel
theorem dX0_asPlaces_16 : decode cX0_asPlaces 16 = .ok (.lcmp, 1) := by decide +kernel
theorem dX0_asPlaces_17 : decode cX0_asPlaces 17 = .ok (.ifCond .gt 13, 3) := by decide +kernel
theorem dX0_asPlaces_20 : decode cX0_asPlaces 20 = .ok (.lload_n 3, 1) := by decide +kernel
theorem dX0_asPlaces_21 : decode cX0_asPlaces 21 = .ok (.iload_n 2, 1) := by decide +kernel
theorem dX0_asPlaces_22 : decode cX0_asPlaces 22 = .ok (.invokestatic 15, 3) := by decide +kernel
theorem dX0_asPlaces_25 : decode cX0_asPlaces 25 = .ok (.lload_n 0, 1) := by decide +kernel
theorem dX0_asPlaces_26 : decode cX0_asPlaces 26 = .ok (.lcmp, 1) := by decide +kernel
theorem dX0_asPlaces_27 : decode cX0_asPlaces 27 = .ok (.ifCond .eq 13, 3) := by decide +kernel
theorem dX0_asPlaces_30 : decode cX0_asPlaces 30 = .ok (.new 43, 3) := by decide +kernel
theorem dX0_asPlaces_33 : decode cX0_asPlaces 33 = .ok (.dup, 1) := by decide +kernel
theorem dX0_asPlaces_34 : decode cX0_asPlaces 34 = .ok (.ldc 72, 2) := by decide +kernel
theorem dX0_asPlaces_36 : decode cX0_asPlaces 36 = .ok (.invokespecial 47, 3) := by decide +kernel
theorem dX0_asPlaces_39 : decode cX0_asPlaces 39 = .ok (.athrow, 1) := by decide +kernel
theorem dX0_asPlaces_40 : decode cX0_asPlaces 40 = .ok (.lload_n 3, 1) := by decide +kernel
theorem dX0_asPlaces_41 : decode cX0_asPlaces 41 = .ok (.l2i, 1) := by decide +kernel
theorem dX0_asPlaces_42 : decode cX0_asPlaces 42 = .ok (.ireturn, 1) := by decide +kernel
set_option maxRecDepth 20000 in
theorem ggX0_cutOff_X0_powerOfTen : GoodIn wsX0_cutOff wsX0_powerOfTen := goodIn_r _ [4, 5, 6, 7, 8, 9, 10, 11, 12] (by decide +kernel) (by decide +kernel)
set_option maxRecDepth 20000 in
theorem gX0_cutOff_X0_powerOfTen : GoodIn wsX0_cutOff (va_wsS RX0 74 yX0_powerOfTen wsX0_powerOfTen) := goodIn_app (goodIn_of _ (by decide +kernel)) ggX0_cutOff_X0_powerOfTen
set_option maxRecDepth 20000 in
theorem ggX0_cutOff_X0_divide : GoodIn wsX0_cutOff wsX0_divide := goodIn_r _ [15] (by decide +kernel) (by decide +kernel)
set_option maxRecDepth 20000 in
theorem gX0_cutOff_X0_divide : GoodIn wsX0_cutOff (va_wsS RX0 48 yX0_divide wsX0_divide) := goodIn_app (goodIn_of _ (by decide +kernel)) ggX0_cutOff_X0_divide
theorem dX0_cutOff_0 : decode cX0_cutOff 0 = .ok (.lload_n 0, 1) := by decide +kernel
theorem dX0_cutOff_1 : decode cX0_cutOff 1 = .ok (.iload_n 2, 1) := by decide +kernel
theorem dX0_cutOff_2 : decode cX0_cutOff 2 = .ok (.invokestatic 74, 3) := by decide +kernel
theorem dX0_cutOff_5 : decode cX0_cutOff 5 = .ok (.invokestatic 48, 3) := by decide +kernel
theorem dX0_cutOff_8 : decode cX0_cutOff 8 = .ok (.lreturn, 1) := by decide +kernel
set_option maxRecDepth 20000 in
theorem ggX0_raise_X0_powerOfTen : GoodIn wsX0_raise wsX0_powerOfTen := goodIn_r _ [4, 5, 6, 7, 8, 9, 10, 11, 12] (by decide +kernel) (by decide +kernel)
set_option maxRecDepth 20000 in
theorem gX0_raise_X0_powerOfTen : GoodIn wsX0_raise (va_wsS RX0 74 yX0_powerOfTen wsX0_powerOfTen) := goodIn_app (goodIn_of _ (by decide +kernel)) ggX0_raise_X0_powerOfTen
set_option maxRecDepth 20000 in
theorem ggX0_raise_X0_times : GoodIn wsX0_raise wsX0_times := goodIn_ca (goodIn_r _ [15, 16, 17, 18, 19, 8, 20, 21] (by decide +kernel) (by decide +kernel)) (goodIn_sub (fun _ h => List.mem_cons_of_mem _ (List.mem_append_right _ h)) (by decide +kernel))
set_option maxRecDepth 20000 in
theorem gX0_raise_X0_times : GoodIn wsX0_raise (va_wsS RX0 58 yX0_times wsX0_times) := goodIn_app (goodIn_of _ (by decide +kernel)) ggX0_raise_X0_times
theorem dX0_raise_0 : decode cX0_raise 0 = .ok (.lload_n 0, 1) := by decide +kernel
theorem dX0_raise_1 : decode cX0_raise 1 = .ok (.iload_n 2, 1) := by decide +kernel
theorem dX0_raise_2 : decode cX0_raise 2 = .ok (.invokestatic 74, 3) := by decide +kernel
theorem dX0_raise_5 : decode cX0_raise 5 = .ok (.invokestatic 58, 3) := by decide +kernel
theorem dX0_raise_8 : decode cX0_raise 8 = .ok (.lreturn, 1) := by decide +kernel
theorem dX0_powerOfTen_0 : decode cX0_powerOfTen 0 = .ok (.getstatic 78, 3) := by decide +kernel
theorem dX0_powerOfTen_3 : decode cX0_powerOfTen 3 = .ok (.iload_n 0, 1) := by decide +kernel
theorem dX0_powerOfTen_4 : decode cX0_powerOfTen 4 = .ok (.iconst 0, 1) := by decide +kernel
theorem dX0_powerOfTen_5 : decode cX0_powerOfTen 5 = .ok (.invokestatic 9, 3) := by decide +kernel
theorem dX0_powerOfTen_8 : decode cX0_powerOfTen 8 = .ok (.getstatic 78, 3) := by decide +kernel
theorem dX0_powerOfTen_11 : decode cX0_powerOfTen 11 = .ok (.arraylength, 1) := by decide +kernel
theorem dX0_powerOfTen_12 : decode cX0_powerOfTen 12 = .ok (.iconst 1, 1) := by decide +kernel
theorem dX0_powerOfTen_13 : decode cX0_powerOfTen 13 = .ok (.isub, 1) := by decide +kernel
theorem dX0_powerOfTen_14 : decode cX0_powerOfTen 14 = .ok (.invokestatic 82, 3) := by decide +kernel
theorem dX0_powerOfTen_17 : decode cX0_powerOfTen 17 = .ok (.laload, 1) := by decide +kernel
theorem dX0_powerOfTen_18 : decode cX0_powerOfTen 18 = .ok (.lreturn, 1) := by decide +kernel
theorem dX0_divide_0 : decode cX0_divide 0 = .ok (.lload_n 2, 1) := by decide +kernel
theorem dX0_divide_1 : decode cX0_divide 1 = .ok (.lconst 0, 1) := by decide +kernel
theorem dX0_divide_2 : decode cX0_divide 2 = .ok (.lcmp, 1) := by decide +kernel
theorem dX0_divide_3 : decode cX0_divide 3 = .ok (.ifCond .ne 7, 3) := by decide +kernel
theorem dX0_divide_6 : decode cX0_divide 6 = .ok (.lconst 0, 1) := by decide +kernel
theorem dX0_divide_7 : decode cX0_divide 7 = .ok (.goto 6, 3) := by decide +kernel
theorem dX0_divide_10 : decode cX0_divide 10 = .ok (.lload_n 0, 1) := by decide +kernel
theorem dX0_divide_11 : decode cX0_divide 11 = .ok (.lload_n 2, 1) := by decide +kernel
theorem dX0_divide_12 : decode cX0_divide 12 = .ok (.ldiv, 1) := by decide +kernel
theorem dX0_divide_13 : decode cX0_divide 13 = .ok (.lreturn, 1) := by decide +kernel
theorem dX0_fitting_0 : decode cX0_fitting 0 = .ok (.lload_n 0, 1) := by decide +kernel
theorem dX0_fitting_1 : decode cX0_fitting 1 = .ok (.invokestatic 31, 3) := by decide +kernel
theorem dX0_fitting_4 : decode cX0_fitting 4 = .ok (.ldc2_w 34, 3) := by decide +kernel
theorem dX0_fitting_7 : decode cX0_fitting 7 = .ok (.lcmp, 1) := by decide +kernel
theorem dX0_fitting_8 : decode cX0_fitting 8 = .ok (.ifCond .le 13, 3) := by decide +kernel
theorem dX0_fitting_11 : decode cX0_fitting 11 = .ok (.new 36, 3) := by decide +kernel
theorem dX0_fitting_14 : decode cX0_fitting 14 = .ok (.dup, 1) := by decide +kernel
theorem dX0_fitting_15 : decode cX0_fitting 15 = .ok (.ldc 38, 2) := by decide +kernel
theorem dX0_fitting_17 : decode cX0_fitting 17 = .ok (.invokespecial 40, 3) := by decide +kernel
theorem dX0_fitting_20 : decode cX0_fitting 20 = .ok (.athrow, 1) := by decide +kernel
theorem dX0_fitting_21 : decode cX0_fitting 21 = .ok (.lload_n 0, 1) := by decide +kernel
theorem dX0_fitting_22 : decode cX0_fitting 22 = .ok (.lreturn, 1) := by decide +kernel

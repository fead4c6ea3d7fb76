theorem dX5_prints_1 : decode cX5_prints 1 = .ok (.iconst 0, 1) := by decide +kernel
theorem dX5_prints_2 : decode cX5_prints 2 = .ok (.putfield 41, 3) := by decide +kernel
theorem dX5_prints_5 : decode cX5_prints 5 = .ok (.aload_n 0, 1) := by decide +kernel
theorem dX5_prints_6 : decode cX5_prints 6 = .ok (.getfield 157, 3) := by decide +kernel
theorem dX5_prints_9 : decode cX5_prints 9 = .ok (.ireturn, 1) := by decide +kernel
set_option maxRecDepth 20000 in
theorem ggX5_printed_X5_within : GoodIn wsX5_printed wsX5_within := goodIn_r _ [7] (by decide +kernel) (by decide +kernel)
set_option maxRecDepth 20000 in
theorem gX5_printed_X5_within : GoodIn wsX5_printed (va_wsS RX5 127 yX5_within wsX5_within) := goodIn_app (goodIn_of _ (by decide +kernel)) ggX5_printed_X5_within
theorem dX5_printed_0 : decode cX5_printed 0 = .ok (.aload_n 0, 1) := by decide +kernel
theorem dX5_printed_1 : decode cX5_printed 1 = .ok (.iconst 0, 1) := by decide +kernel
theorem dX5_printed_2 : decode cX5_printed 2 = .ok (.putfield 41, 3) := by decide +kernel
theorem dX5_printed_5 : decode cX5_printed 5 = .ok (.iload_n 1, 1) := by decide +kernel
theorem dX5_printed_6 : decode cX5_printed 6 = .ok (.i2l, 1) := by decide +kernel
theorem dX5_printed_7 : decode cX5_printed 7 = .ok (.lconst 0, 1) := by decide +kernel
theorem dX5_printed_8 : decode cX5_printed 8 = .ok (.aload_n 0, 1) := by decide +kernel
theorem dX5_printed_9 : decode cX5_printed 9 = .ok (.getfield 157, 3) := by decide +kernel
theorem dX5_printed_12 : decode cX5_printed 12 = .ok (.iconst 1, 1) := by decide +kernel
theorem dX5_printed_13 : decode cX5_printed 13 = .ok (.isub, 1) := by decide +kernel
theorem dX5_printed_14 : decode cX5_printed 14 = .ok (.i2l, 1) := by decide +kernel
theorem dX5_printed_15 : decode cX5_printed 15 = .ok (.invokestatic 127, 3) := by decide +kernel
theorem dX5_printed_18 : decode cX5_printed 18 = .ok (.ifCond .eq 12, 3) := by decide +kernel
theorem dX5_printed_21 : decode cX5_printed 21 = .ok (.aload_n 0, 1) := by decide +kernel
theorem dX5_printed_22 : decode cX5_printed 22 = .ok (.getfield 35, 3) := by decide +kernel
theorem dX5_printed_25 : decode cX5_printed 25 = .ok (.iload_n 1, 1) := by decide +kernel
theorem dX5_printed_26 : decode cX5_printed 26 = .ok (.laload, 1) := by decide +kernel
theorem dX5_printed_27 : decode cX5_printed 27 = .ok (.goto 4, 3) := by decide +kernel
theorem dX5_printed_30 : decode cX5_printed 30 = .ok (.lconst 0, 1) := by decide +kernel
theorem dX5_printed_31 : decode cX5_printed 31 = .ok (.lreturn, 1) := by decide +kernel
set_option maxRecDepth 20000 in
theorem ggX5_places_X5_within : GoodIn wsX5_places wsX5_within := goodIn_r _ [7] (by decide +kernel) (by decide +kernel)
set_option maxRecDepth 20000 in
theorem gX5_places_X5_within : GoodIn wsX5_places (va_wsS RX5 127 yX5_within wsX5_within) := goodIn_app (goodIn_of _ (by decide +kernel)) ggX5_places_X5_within
theorem dX5_places_0 : decode cX5_places 0 = .ok (.aload_n 0, 1) := by decide +kernel
theorem dX5_places_1 : decode cX5_places 1 = .ok (.iconst 0, 1) := by decide +kernel
theorem dX5_places_2 : decode cX5_places 2 = .ok (.putfield 41, 3) := by decide +kernel
theorem dX5_places_5 : decode cX5_places 5 = .ok (.iload_n 1, 1) := by decide +kernel
theorem dX5_places_6 : decode cX5_places 6 = .ok (.i2l, 1) := by decide +kernel
theorem dX5_places_7 : decode cX5_places 7 = .ok (.lconst 0, 1) := by decide +kernel
theorem dX5_places_8 : decode cX5_places 8 = .ok (.aload_n 0, 1) := by decide +kernel
theorem dX5_places_9 : decode cX5_places 9 = .ok (.getfield 157, 3) := by decide +kernel
theorem dX5_places_12 : decode cX5_places 12 = .ok (.iconst 1, 1) := by decide +kernel
theorem dX5_places_13 : decode cX5_places 13 = .ok (.isub, 1) := by decide +kernel
theorem dX5_places_14 : decode cX5_places 14 = .ok (.i2l, 1) := by decide +kernel
theorem dX5_places_15 : decode cX5_places 15 = .ok (.invokestatic 127, 3) := by decide +kernel
theorem dX5_places_18 : decode cX5_places 18 = .ok (.ifCond .eq 12, 3) := by decide +kernel
theorem dX5_places_21 : decode cX5_places 21 = .ok (.aload_n 0, 1) := by decide +kernel
theorem dX5_places_22 : decode cX5_places 22 = .ok (.getfield 38, 3) := by decide +kernel
theorem dX5_places_25 : decode cX5_places 25 = .ok (.iload_n 1, 1) := by decide +kernel
theorem dX5_places_26 : decode cX5_places 26 = .ok (.iaload, 1) := by decide +kernel
theorem dX5_places_27 : decode cX5_places 27 = .ok (.goto 5, 3) := by decide +kernel
theorem dX5_places_30 : decode cX5_places 30 = .ok (.bipush (-2), 2) := by decide +kernel
theorem dX5_places_32 : decode cX5_places 32 = .ok (.ireturn, 1) := by decide +kernel
theorem dX5_depth_0 : decode cX5_depth 0 = .ok (.aload_n 0, 1) := by decide +kernel
theorem dX5_depth_1 : decode cX5_depth 1 = .ok (.iconst 0, 1) := by decide +kernel
theorem dX5_depth_2 : decode cX5_depth 2 = .ok (.putfield 41, 3) := by decide +kernel
theorem dX5_depth_5 : decode cX5_depth 5 = .ok (.aload_n 0, 1) := by decide +kernel
theorem dX5_depth_6 : decode cX5_depth 6 = .ok (.getfield 51, 3) := by decide +kernel
theorem dX5_depth_9 : decode cX5_depth 9 = .ok (.ireturn, 1) := by decide +kernel
set_option maxRecDepth 20000 in
theorem ggX5_item_X5_within : GoodIn wsX5_item wsX5_within := goodIn_r _ [7] (by decide +kernel) (by decide +kernel)
set_option maxRecDepth 20000 in
theorem gX5_item_X5_within : GoodIn wsX5_item (va_wsS RX5 127 yX5_within wsX5_within) := goodIn_app (goodIn_of _ (by decide +kernel)) ggX5_item_X5_within
theorem dX5_item_0 : decode cX5_item 0 = .ok (.aload_n 0, 1) := by decide +kernel
theorem dX5_item_1 : decode cX5_item 1 = .ok (.iconst 0, 1) := by decide +kernel
theorem dX5_item_2 : decode cX5_item 2 = .ok (.putfield 41, 3) := by decide +kernel
theorem dX5_item_5 : decode cX5_item 5 = .ok (.iload_n 1, 1) := by decide +kernel
theorem dX5_item_6 : decode cX5_item 6 = .ok (.i2l, 1) := by decide +kernel
theorem dX5_item_7 : decode cX5_item 7 = .ok (.lconst 0, 1) := by decide +kernel
theorem dX5_item_8 : decode cX5_item 8 = .ok (.aload_n 0, 1) := by decide +kernel
theorem dX5_item_9 : decode cX5_item 9 = .ok (.getfield 51, 3) := by decide +kernel
theorem dX5_item_12 : decode cX5_item 12 = .ok (.iconst 1, 1) := by decide +kernel
theorem dX5_item_13 : decode cX5_item 13 = .ok (.isub, 1) := by decide +kernel
theorem dX5_item_14 : decode cX5_item 14 = .ok (.i2l, 1) := by decide +kernel
theorem dX5_item_15 : decode cX5_item 15 = .ok (.invokestatic 127, 3) := by decide +kernel
theorem dX5_item_18 : decode cX5_item 18 = .ok (.ifCond .eq 19, 3) := by decide +kernel
theorem dX5_item_21 : decode cX5_item 21 = .ok (.aload_n 0, 1) := by decide +kernel
theorem dX5_item_22 : decode cX5_item 22 = .ok (.getfield 13, 3) := by decide +kernel
theorem dX5_item_25 : decode cX5_item 25 = .ok (.aload_n 0, 1) := by decide +kernel
theorem dX5_item_26 : decode cX5_item 26 = .ok (.getfield 51, 3) := by decide +kernel
theorem dX5_item_29 : decode cX5_item 29 = .ok (.iconst 1, 1) := by decide +kernel
theorem dX5_item_30 : decode cX5_item 30 = .ok (.isub, 1) := by decide +kernel
theorem dX5_item_31 : decode cX5_item 31 = .ok (.iload_n 1, 1) := by decide +kernel
theorem dX5_item_32 : decode cX5_item 32 = .ok (.isub, 1) := by decide +kernel
theorem dX5_item_33 : decode cX5_item 33 = .ok (.laload, 1) := by decide +kernel
theorem dX5_item_34 : decode cX5_item 34 = .ok (.goto 4, 3) := by decide +kernel
theorem dX5_item_37 : decode cX5_item 37 = .ok (.lconst 0, 1) := by decide +kernel
theorem dX5_item_38 : decode cX5_item 38 = .ok (.lreturn, 1) := by decide +kernel
set_option maxRecDepth 20000 in
theorem ggX5_scale_X5_within : GoodIn wsX5_scale wsX5_within := goodIn_r _ [7] (by decide +kernel) (by decide +kernel)
set_option maxRecDepth 20000 in
theorem gX5_scale_X5_within : GoodIn wsX5_scale (va_wsS RX5 127 yX5_within wsX5_within) := goodIn_app (goodIn_of _ (by decide +kernel)) ggX5_scale_X5_within
theorem dX5_scale_0 : decode cX5_scale 0 = .ok (.aload_n 0, 1) := by decide +kernel
theorem dX5_scale_1 : decode cX5_scale 1 = .ok (.iconst 0, 1) := by decide +kernel
theorem dX5_scale_2 : decode cX5_scale 2 = .ok (.putfield 41, 3) := by decide +kernel
theorem dX5_scale_5 : decode cX5_scale 5 = .ok (.iload_n 1, 1) := by decide +kernel
theorem dX5_scale_6 : decode cX5_scale 6 = .ok (.i2l, 1) := by decide +kernel
theorem dX5_scale_7 : decode cX5_scale 7 = .ok (.lconst 0, 1) := by decide +kernel
theorem dX5_scale_8 : decode cX5_scale 8 = .ok (.aload_n 0, 1) := by decide +kernel
theorem dX5_scale_9 : decode cX5_scale 9 = .ok (.getfield 51, 3) := by decide +kernel
theorem dX5_scale_12 : decode cX5_scale 12 = .ok (.iconst 1, 1) := by decide +kernel
theorem dX5_scale_13 : decode cX5_scale 13 = .ok (.isub, 1) := by decide +kernel
theorem dX5_scale_14 : decode cX5_scale 14 = .ok (.i2l, 1) := by decide +kernel
theorem dX5_scale_15 : decode cX5_scale 15 = .ok (.invokestatic 127, 3) := by decide +kernel
theorem dX5_scale_18 : decode cX5_scale 18 = .ok (.ifCond .eq 19, 3) := by decide +kernel
theorem dX5_scale_21 : decode cX5_scale 21 = .ok (.aload_n 0, 1) := by decide +kernel
theorem dX5_scale_22 : decode cX5_scale 22 = .ok (.getfield 17, 3) := by decide +kernel
theorem dX5_scale_25 : decode cX5_scale 25 = .ok (.aload_n 0, 1) := by decide +kernel
theorem dX5_scale_26 : decode cX5_scale 26 = .ok (.getfield 51, 3) := by decide +kernel
theorem dX5_scale_29 : decode cX5_scale 29 = .ok (.iconst 1, 1) := by decide +kernel
theorem dX5_scale_30 : decode cX5_scale 30 = .ok (.isub, 1) := by decide +kernel
theorem dX5_scale_31 : decode cX5_scale 31 = .ok (.iload_n 1, 1) := by decide +kernel
theorem dX5_scale_32 : decode cX5_scale 32 = .ok (.isub, 1) := by decide +kernel
theorem dX5_scale_33 : decode cX5_scale 33 = .ok (.iaload, 1) := by decide +kernel
theorem dX5_scale_34 : decode cX5_scale 34 = .ok (.goto 5, 3) := by decide +kernel
theorem dX5_scale_37 : decode cX5_scale 37 = .ok (.bipush (-2), 2) := by decide +kernel
theorem dX5_scale_39 : decode cX5_scale 39 = .ok (.ireturn, 1) := by decide +kernel
set_option maxRecDepth 20000 in
theorem ggX5_held_X5_within : GoodIn wsX5_held wsX5_within := goodIn_r _ [7] (by decide +kernel) (by decide +kernel)
set_option maxRecDepth 20000 in
theorem gX5_held_X5_within : GoodIn wsX5_held (va_wsS RX5 127 yX5_within wsX5_within) := goodIn_app (goodIn_of _ (by decide +kernel)) ggX5_held_X5_within
theorem dX5_held_0 : decode cX5_held 0 = .ok (.aload_n 0, 1) := by decide +kernel
theorem dX5_held_1 : decode cX5_held 1 = .ok (.iconst 0, 1) := by decide +kernel
theorem dX5_held_2 : decode cX5_held 2 = .ok (.putfield 41, 3) := by decide +kernel
theorem dX5_held_5 : decode cX5_held 5 = .ok (.iload_n 1, 1) := by decide +kernel
theorem dX5_held_6 : decode cX5_held 6 = .ok (.i2l, 1) := by decide +kernel
theorem dX5_held_7 : decode cX5_held 7 = .ok (.lconst 0, 1) := by decide +kernel
theorem dX5_held_8 : decode cX5_held 8 = .ok (.ldc2_w 222, 3) := by decide +kernel
theorem dX5_held_11 : decode cX5_held 11 = .ok (.invokestatic 127, 3) := by decide +kernel
theorem dX5_held_14 : decode cX5_held 14 = .ok (.ifCond .eq 12, 3) := by decide +kernel
theorem dX5_held_17 : decode cX5_held 17 = .ok (.aload_n 0, 1) := by decide +kernel
theorem dX5_held_18 : decode cX5_held 18 = .ok (.getfield 23, 3) := by decide +kernel
theorem dX5_held_21 : decode cX5_held 21 = .ok (.iload_n 1, 1) := by decide +kernel
theorem dX5_held_22 : decode cX5_held 22 = .ok (.iaload, 1) := by decide +kernel
theorem dX5_held_23 : decode cX5_held 23 = .ok (.goto 4, 3) := by decide +kernel
theorem dX5_held_26 : decode cX5_held 26 = .ok (.iconst (-1), 1) := by decide +kernel
theorem dX5_held_27 : decode cX5_held 27 = .ok (.ireturn, 1) := by decide +kernel
theorem dX5_precision_0 : decode cX5_precision 0 = .ok (.aload_n 0, 1) := by decide +kernel
theorem dX5_precision_1 : decode cX5_precision 1 = .ok (.iconst 0, 1) := by decide +kernel
theorem dX5_precision_2 : decode cX5_precision 2 = .ok (.putfield 41, 3) := by decide +kernel
theorem dX5_precision_5 : decode cX5_precision 5 = .ok (.aload_n 0, 1) := by decide +kernel
theorem dX5_precision_6 : decode cX5_precision 6 = .ok (.getfield 93, 3) := by decide +kernel
theorem dX5_precision_9 : decode cX5_precision 9 = .ok (.ireturn, 1) := by decide +kernel
theorem dX5_reset_0 : decode cX5_reset 0 = .ok (.aload_n 0, 1) := by decide +kernel
theorem dX5_reset_1 : decode cX5_reset 1 = .ok (.iconst 0, 1) := by decide +kernel
theorem dX5_reset_2 : decode cX5_reset 2 = .ok (.putfield 41, 3) := by decide +kernel
theorem dX5_reset_5 : decode cX5_reset 5 = .ok (.aload_n 0, 1) := by decide +kernel
theorem dX5_reset_6 : decode cX5_reset 6 = .ok (.iconst 0, 1) := by decide +kernel
theorem dX5_reset_7 : decode cX5_reset 7 = .ok (.putfield 51, 3) := by decide +kernel
theorem dX5_reset_10 : decode cX5_reset 10 = .ok (.aload_n 0, 1) := by decide +kernel
theorem dX5_reset_11 : decode cX5_reset 11 = .ok (.iconst 0, 1) := by decide +kernel
theorem dX5_reset_12 : decode cX5_reset 12 = .ok (.putfield 93, 3) := by decide +kernel
theorem dX5_reset_15 : decode cX5_reset 15 = .ok (.aload_n 0, 1) := by decide +kernel
theorem dX5_reset_16 : decode cX5_reset 16 = .ok (.iconst 0, 1) := by decide +kernel
theorem dX5_reset_17 : decode cX5_reset 17 = .ok (.putfield 157, 3) := by decide +kernel
theorem dX5_reset_20 : decode cX5_reset 20 = .ok (.iconst 0, 1) := by decide +kernel
theorem dX5_reset_21 : decode cX5_reset 21 = .ok (.istore_n 1, 1) := by decide +kernel
theorem dX5_reset_22 : decode cX5_reset 22 = .ok (.iload_n 1, 1) := by decide +kernel
theorem dX5_reset_23 : decode cX5_reset 23 = .ok (.iconst 4, 1) := by decide +kernel
theorem dX5_reset_24 : decode cX5_reset 24 = .ok (.if_icmp .ge 16, 3) := by decide +kernel
theorem dX5_reset_27 : decode cX5_reset 27 = .ok (.aload_n 0, 1) := by decide +kernel
theorem dX5_reset_28 : decode cX5_reset 28 = .ok (.getfield 23, 3) := by decide +kernel
theorem dX5_reset_31 : decode cX5_reset 31 = .ok (.iload_n 1, 1) := by decide +kernel
theorem dX5_reset_32 : decode cX5_reset 32 = .ok (.iconst 0, 1) := by decide +kernel
theorem dX5_reset_33 : decode cX5_reset 33 = .ok (.iastore, 1) := by decide +kernel
theorem dX5_reset_34 : decode cX5_reset 34 = .ok (.iinc 1 1, 3) := by decide +kernel
theorem dX5_reset_37 : decode cX5_reset 37 = .ok (.goto (-15), 3) := by decide +kernel
theorem dX5_reset_40 : decode cX5_reset 40 = .ok (.return_, 1) := by decide +kernel

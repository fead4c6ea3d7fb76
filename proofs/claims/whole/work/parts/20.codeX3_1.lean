theorem dX3_init_0 : decode cX3_init 0 = .ok (.aload_n 0, 1) := by decide +kernel
theorem dX3_init_1 : decode cX3_init 1 = .ok (.invokespecial 3, 3) := by decide +kernel
theorem dX3_init_4 : decode cX3_init 4 = .ok (.iload_n 1, 1) := by decide +kernel
theorem dX3_init_5 : decode cX3_init 5 = .ok (.ifCond .ge 7, 3) := by decide +kernel
theorem dX3_init_8 : decode cX3_init 8 = .ok (.iconst 0, 1) := by decide +kernel
theorem dX3_init_9 : decode cX3_init 9 = .ok (.goto 4, 3) := by decide +kernel
theorem dX3_init_12 : decode cX3_init 12 = .ok (.iload_n 1, 1) := by decide +kernel
theorem dX3_init_13 : decode cX3_init 13 = .ok (.istore_n 2, 1) := by decide +kernel
theorem dX3_init_14 : decode cX3_init 14 = .ok (.aload_n 0, 1) := by decide +kernel
theorem dX3_init_15 : decode cX3_init 15 = .ok (.iload_n 2, 1) := by decide +kernel
theorem dX3_init_16 : decode cX3_init 16 = .ok (.newarray .long, 2) := by decide +kernel
theorem dX3_init_18 : decode cX3_init 18 = .ok (.putfield 9, 3) := by decide +kernel
theorem dX3_init_21 : decode cX3_init 21 = .ok (.aload_n 0, 1) := by decide +kernel
theorem dX3_init_22 : decode cX3_init 22 = .ok (.iload_n 2, 1) := by decide +kernel
theorem dX3_init_23 : decode cX3_init 23 = .ok (.newarray .int, 2) := by decide +kernel
theorem dX3_init_25 : decode cX3_init 25 = .ok (.putfield 15, 3) := by decide +kernel
theorem dX3_init_28 : decode cX3_init 28 = .ok (.aload_n 0, 1) := by decide +kernel
theorem dX3_init_29 : decode cX3_init 29 = .ok (.iload_n 2, 1) := by decide +kernel
theorem dX3_init_30 : decode cX3_init 30 = .ok (.anewarray 19, 3) := by decide +kernel
theorem dX3_init_33 : decode cX3_init 33 = .ok (.putfield 21, 3) := by decide +kernel
theorem dX3_init_36 : decode cX3_init 36 = .ok (.aload_n 0, 1) := by decide +kernel
theorem dX3_init_37 : decode cX3_init 37 = .ok (.iload_n 2, 1) := by decide +kernel
theorem dX3_init_38 : decode cX3_init 38 = .ok (.newarray .int, 2) := by decide +kernel
theorem dX3_init_40 : decode cX3_init 40 = .ok (.putfield 25, 3) := by decide +kernel
theorem dX3_init_43 : decode cX3_init 43 = .ok (.aload_n 0, 1) := by decide +kernel
theorem dX3_init_44 : decode cX3_init 44 = .ok (.iconst 0, 1) := by decide +kernel
theorem dX3_init_45 : decode cX3_init 45 = .ok (.putfield 28, 3) := by decide +kernel
theorem dX3_init_48 : decode cX3_init 48 = .ok (.return_, 1) := by decide +kernel
theorem dX3_isFull_0 : decode cX3_isFull 0 = .ok (.aload_n 0, 1) := by decide +kernel
theorem dX3_isFull_1 : decode cX3_isFull 1 = .ok (.getfield 28, 3) := by decide +kernel
theorem dX3_isFull_4 : decode cX3_isFull 4 = .ok (.aload_n 0, 1) := by decide +kernel
theorem dX3_isFull_5 : decode cX3_isFull 5 = .ok (.getfield 9, 3) := by decide +kernel
theorem dX3_isFull_8 : decode cX3_isFull 8 = .ok (.arraylength, 1) := by decide +kernel
theorem dX3_isFull_9 : decode cX3_isFull 9 = .ok (.if_icmp .lt 7, 3) := by decide +kernel
theorem dX3_isFull_12 : decode cX3_isFull 12 = .ok (.iconst 1, 1) := by decide +kernel
theorem dX3_isFull_13 : decode cX3_isFull 13 = .ok (.goto 4, 3) := by decide +kernel
theorem dX3_isFull_16 : decode cX3_isFull 16 = .ok (.iconst 0, 1) := by decide +kernel
theorem dX3_isFull_17 : decode cX3_isFull 17 = .ok (.ireturn, 1) := by decide +kernel
theorem dX3_has_0 : decode cX3_has 0 = .ok (.iload_n 1, 1) := by decide +kernel
theorem dX3_has_1 : decode cX3_has 1 = .ok (.ifCond .lt 24, 3) := by decide +kernel
theorem dX3_has_4 : decode cX3_has 4 = .ok (.iload_n 1, 1) := by decide +kernel
theorem dX3_has_5 : decode cX3_has 5 = .ok (.aload_n 0, 1) := by decide +kernel
theorem dX3_has_6 : decode cX3_has 6 = .ok (.getfield 28, 3) := by decide +kernel
theorem dX3_has_9 : decode cX3_has 9 = .ok (.if_icmp .ge 16, 3) := by decide +kernel
theorem dX3_has_12 : decode cX3_has 12 = .ok (.iload_n 1, 1) := by decide +kernel
theorem dX3_has_13 : decode cX3_has 13 = .ok (.aload_n 0, 1) := by decide +kernel
theorem dX3_has_14 : decode cX3_has 14 = .ok (.getfield 9, 3) := by decide +kernel
theorem dX3_has_17 : decode cX3_has 17 = .ok (.arraylength, 1) := by decide +kernel
theorem dX3_has_18 : decode cX3_has 18 = .ok (.if_icmp .ge 7, 3) := by decide +kernel
theorem dX3_has_21 : decode cX3_has 21 = .ok (.iconst 1, 1) := by decide +kernel
theorem dX3_has_22 : decode cX3_has 22 = .ok (.goto 4, 3) := by decide +kernel
theorem dX3_has_25 : decode cX3_has 25 = .ok (.iconst 0, 1) := by decide +kernel
theorem dX3_has_26 : decode cX3_has 26 = .ok (.ireturn, 1) := by decide +kernel
theorem dX3_slotBelowTop_0 : decode cX3_slotBelowTop 0 = .ok (.iload_n 1, 1) := by decide +kernel
theorem dX3_slotBelowTop_1 : decode cX3_slotBelowTop 1 = .ok (.ifCond .lt 11, 3) := by decide +kernel
theorem dX3_slotBelowTop_4 : decode cX3_slotBelowTop 4 = .ok (.iload_n 1, 1) := by decide +kernel
theorem dX3_slotBelowTop_5 : decode cX3_slotBelowTop 5 = .ok (.aload_n 0, 1) := by decide +kernel
theorem dX3_slotBelowTop_6 : decode cX3_slotBelowTop 6 = .ok (.getfield 28, 3) := by decide +kernel
theorem dX3_slotBelowTop_9 : decode cX3_slotBelowTop 9 = .ok (.if_icmp .lt 7, 3) := by decide +kernel
theorem dX3_slotBelowTop_12 : decode cX3_slotBelowTop 12 = .ok (.iconst (-1), 1) := by decide +kernel
theorem dX3_slotBelowTop_13 : decode cX3_slotBelowTop 13 = .ok (.goto 11, 3) := by decide +kernel
theorem dX3_slotBelowTop_16 : decode cX3_slotBelowTop 16 = .ok (.aload_n 0, 1) := by decide +kernel
theorem dX3_slotBelowTop_17 : decode cX3_slotBelowTop 17 = .ok (.getfield 28, 3) := by decide +kernel
theorem dX3_slotBelowTop_20 : decode cX3_slotBelowTop 20 = .ok (.iconst 1, 1) := by decide +kernel
theorem dX3_slotBelowTop_21 : decode cX3_slotBelowTop 21 = .ok (.isub, 1) := by decide +kernel
theorem dX3_slotBelowTop_22 : decode cX3_slotBelowTop 22 = .ok (.iload_n 1, 1) := by decide +kernel
theorem dX3_slotBelowTop_23 : decode cX3_slotBelowTop 23 = .ok (.isub, 1) := by decide +kernel
theorem dX3_slotBelowTop_24 : decode cX3_slotBelowTop 24 = .ok (.ireturn, 1) := by decide +kernel
set_option maxRecDepth 20000 in
theorem ggX3_valueAt_X3_has : GoodIn wsX3_valueAt wsX3_has := goodIn_r _ [6, 7, 1, 8, 9, 10, 11, 12] (by decide +kernel) (by decide +kernel)
set_option maxRecDepth 20000 in
theorem gX3_valueAt_X3_has : GoodIn wsX3_valueAt (wsV RX3 32 RX3 yX3_has wsX3_has) := goodIn_app (goodIn_of _ (by decide +kernel)) ggX3_valueAt_X3_has
theorem dX3_valueAt_0 : decode cX3_valueAt 0 = .ok (.aload_n 0, 1) := by decide +kernel
theorem dX3_valueAt_1 : decode cX3_valueAt 1 = .ok (.iload_n 1, 1) := by decide +kernel
theorem dX3_valueAt_2 : decode cX3_valueAt 2 = .ok (.invokevirtual 32, 3) := by decide +kernel
theorem dX3_valueAt_5 : decode cX3_valueAt 5 = .ok (.ifCond .eq 12, 3) := by decide +kernel
theorem dX3_valueAt_8 : decode cX3_valueAt 8 = .ok (.aload_n 0, 1) := by decide +kernel
theorem dX3_valueAt_9 : decode cX3_valueAt 9 = .ok (.getfield 9, 3) := by decide +kernel
theorem dX3_valueAt_12 : decode cX3_valueAt 12 = .ok (.iload_n 1, 1) := by decide +kernel
theorem dX3_valueAt_13 : decode cX3_valueAt 13 = .ok (.laload, 1) := by decide +kernel
theorem dX3_valueAt_14 : decode cX3_valueAt 14 = .ok (.goto 4, 3) := by decide +kernel
theorem dX3_valueAt_17 : decode cX3_valueAt 17 = .ok (.lconst 0, 1) := by decide +kernel
theorem dX3_valueAt_18 : decode cX3_valueAt 18 = .ok (.lreturn, 1) := by decide +kernel
set_option maxRecDepth 20000 in
theorem ggX3_placesAt_X3_has : GoodIn wsX3_placesAt wsX3_has := goodIn_r _ [6, 7, 8, 9, 10, 11, 12, 13] (by decide +kernel) (by decide +kernel)
set_option maxRecDepth 20000 in
theorem gX3_placesAt_X3_has : GoodIn wsX3_placesAt (wsV RX3 32 RX3 yX3_has wsX3_has) := goodIn_app (goodIn_of _ (by decide +kernel)) ggX3_placesAt_X3_has
theorem dX3_placesAt_0 : decode cX3_placesAt 0 = .ok (.aload_n 0, 1) := by decide +kernel
theorem dX3_placesAt_1 : decode cX3_placesAt 1 = .ok (.iload_n 1, 1) := by decide +kernel
theorem dX3_placesAt_2 : decode cX3_placesAt 2 = .ok (.invokevirtual 32, 3) := by decide +kernel
theorem dX3_placesAt_5 : decode cX3_placesAt 5 = .ok (.ifCond .eq 12, 3) := by decide +kernel
theorem dX3_placesAt_8 : decode cX3_placesAt 8 = .ok (.aload_n 0, 1) := by decide +kernel
theorem dX3_placesAt_9 : decode cX3_placesAt 9 = .ok (.getfield 15, 3) := by decide +kernel
theorem dX3_placesAt_12 : decode cX3_placesAt 12 = .ok (.iload_n 1, 1) := by decide +kernel
theorem dX3_placesAt_13 : decode cX3_placesAt 13 = .ok (.iaload, 1) := by decide +kernel
theorem dX3_placesAt_14 : decode cX3_placesAt 14 = .ok (.goto 5, 3) := by decide +kernel
theorem dX3_placesAt_17 : decode cX3_placesAt 17 = .ok (.bipush (-2), 2) := by decide +kernel
theorem dX3_placesAt_19 : decode cX3_placesAt 19 = .ok (.ireturn, 1) := by decide +kernel
set_option maxRecDepth 20000 in
theorem ggX3_rowAt_X3_has : GoodIn wsX3_rowAt wsX3_has := goodIn_r _ [6, 7, 8, 9, 10, 11, 12, 13] (by decide +kernel) (by decide +kernel)
set_option maxRecDepth 20000 in
theorem gX3_rowAt_X3_has : GoodIn wsX3_rowAt (wsV RX3 32 RX3 yX3_has wsX3_has) := goodIn_app (goodIn_of _ (by decide +kernel)) ggX3_rowAt_X3_has
theorem dX3_rowAt_0 : decode cX3_rowAt 0 = .ok (.aload_n 0, 1) := by decide +kernel
theorem dX3_rowAt_1 : decode cX3_rowAt 1 = .ok (.iload_n 1, 1) := by decide +kernel
theorem dX3_rowAt_2 : decode cX3_rowAt 2 = .ok (.invokevirtual 32, 3) := by decide +kernel
theorem dX3_rowAt_5 : decode cX3_rowAt 5 = .ok (.ifCond .eq 12, 3) := by decide +kernel
theorem dX3_rowAt_8 : decode cX3_rowAt 8 = .ok (.aload_n 0, 1) := by decide +kernel
theorem dX3_rowAt_9 : decode cX3_rowAt 9 = .ok (.getfield 21, 3) := by decide +kernel
theorem dX3_rowAt_12 : decode cX3_rowAt 12 = .ok (.iload_n 1, 1) := by decide +kernel
theorem dX3_rowAt_13 : decode cX3_rowAt 13 = .ok (.aaload, 1) := by decide +kernel
theorem dX3_rowAt_14 : decode cX3_rowAt 14 = .ok (.goto 4, 3) := by decide +kernel
theorem dX3_rowAt_17 : decode cX3_rowAt 17 = .ok (.aconst_null, 1) := by decide +kernel
theorem dX3_rowAt_18 : decode cX3_rowAt 18 = .ok (.areturn, 1) := by decide +kernel
set_option maxRecDepth 20000 in
theorem ggX3_startAt_X3_has : GoodIn wsX3_startAt wsX3_has := goodIn_r _ [6, 7, 8, 9, 10, 11, 12, 13] (by decide +kernel) (by decide +kernel)
set_option maxRecDepth 20000 in
theorem gX3_startAt_X3_has : GoodIn wsX3_startAt (wsV RX3 32 RX3 yX3_has wsX3_has) := goodIn_app (goodIn_of _ (by decide +kernel)) ggX3_startAt_X3_has
theorem dX3_startAt_0 : decode cX3_startAt 0 = .ok (.aload_n 0, 1) := by decide +kernel
theorem dX3_startAt_1 : decode cX3_startAt 1 = .ok (.iload_n 1, 1) := by decide +kernel
theorem dX3_startAt_2 : decode cX3_startAt 2 = .ok (.invokevirtual 32, 3) := by decide +kernel
theorem dX3_startAt_5 : decode cX3_startAt 5 = .ok (.ifCond .eq 12, 3) := by decide +kernel
theorem dX3_startAt_8 : decode cX3_startAt 8 = .ok (.aload_n 0, 1) := by decide +kernel
theorem dX3_startAt_9 : decode cX3_startAt 9 = .ok (.getfield 25, 3) := by decide +kernel
theorem dX3_startAt_12 : decode cX3_startAt 12 = .ok (.iload_n 1, 1) := by decide +kernel
theorem dX3_startAt_13 : decode cX3_startAt 13 = .ok (.iaload, 1) := by decide +kernel
theorem dX3_startAt_14 : decode cX3_startAt 14 = .ok (.goto 4, 3) := by decide +kernel
theorem dX3_startAt_17 : decode cX3_startAt 17 = .ok (.iconst 0, 1) := by decide +kernel
theorem dX3_startAt_18 : decode cX3_startAt 18 = .ok (.ireturn, 1) := by decide +kernel
set_option maxRecDepth 20000 in
theorem ggX3_putNumber_X3_put : GoodIn wsX3_putNumber wsX3_put := goodIn_ca (goodIn_r _ [5, 6, 7, 8, 9, 10, 11, 4, 12, 13, 14, 15, 16, 17, 18, 19, 20, 21, 22, 23, 24, 25, 26, 27, 28, 29] (by decide +kernel) (by decide +kernel)) (goodIn_sub (fun _ h => List.mem_cons_of_mem _ (List.mem_append_right _ h)) (by decide +kernel))
set_option maxRecDepth 20000 in
theorem gX3_putNumber_X3_put : GoodIn wsX3_putNumber (wsV RX3 36 RX3 yX3_put wsX3_put) := goodIn_app (goodIn_of _ (by decide +kernel)) ggX3_putNumber_X3_put
theorem dX3_putNumber_0 : decode cX3_putNumber 0 = .ok (.aload_n 0, 1) := by decide +kernel
theorem dX3_putNumber_1 : decode cX3_putNumber 1 = .ok (.lload_n 1, 1) := by decide +kernel
theorem dX3_putNumber_2 : decode cX3_putNumber 2 = .ok (.iload_n 3, 1) := by decide +kernel
theorem dX3_putNumber_3 : decode cX3_putNumber 3 = .ok (.aconst_null, 1) := by decide +kernel
theorem dX3_putNumber_4 : decode cX3_putNumber 4 = .ok (.iconst 0, 1) := by decide +kernel
theorem dX3_putNumber_5 : decode cX3_putNumber 5 = .ok (.invokevirtual 36, 3) := by decide +kernel
theorem dX3_putNumber_8 : decode cX3_putNumber 8 = .ok (.return_, 1) := by decide +kernel
set_option maxRecDepth 20000 in
theorem ggX3_putText_X3_put : GoodIn wsX3_putText wsX3_put := goodIn_ca (goodIn_r _ [5, 6, 7, 8, 9, 10, 11, 4, 12, 13, 14, 15, 16, 17, 18, 19, 20, 21, 22, 23, 24, 25, 26, 27, 28, 29] (by decide +kernel) (by decide +kernel)) (goodIn_sub (fun _ h => List.mem_cons_of_mem _ (List.mem_append_right _ h)) (by decide +kernel))
set_option maxRecDepth 20000 in
theorem gX3_putText_X3_put : GoodIn wsX3_putText (wsV RX3 36 RX3 yX3_put wsX3_put) := goodIn_app (goodIn_of _ (by decide +kernel)) ggX3_putText_X3_put
theorem dX3_putText_0 : decode cX3_putText 0 = .ok (.aload_n 0, 1) := by decide +kernel
theorem dX3_putText_1 : decode cX3_putText 1 = .ok (.iload_n 3, 1) := by decide +kernel
theorem dX3_putText_2 : decode cX3_putText 2 = .ok (.i2l, 1) := by decide +kernel
theorem dX3_putText_3 : decode cX3_putText 3 = .ok (.iconst (-1), 1) := by decide +kernel
theorem dX3_putText_4 : decode cX3_putText 4 = .ok (.aload_n 1, 1) := by decide +kernel
theorem dX3_putText_5 : decode cX3_putText 5 = .ok (.iload_n 2, 1) := by decide +kernel
theorem dX3_putText_6 : decode cX3_putText 6 = .ok (.invokevirtual 36, 3) := by decide +kernel
theorem dX3_putText_9 : decode cX3_putText 9 = .ok (.return_, 1) := by decide +kernel
set_option maxRecDepth 20000 in
theorem ggX3_putTopOf_X3_slotBelowTop : GoodIn wsX3_putTopOf wsX3_slotBelowTop := goodIn_r _ [5, 6, 45, 46, 47, 48, 49] (by decide +kernel) (by decide +kernel)
set_option maxRecDepth 20000 in
theorem gX3_putTopOf_X3_slotBelowTop : GoodIn wsX3_putTopOf (wsV RX3 40 RX3 yX3_slotBelowTop wsX3_slotBelowTop) := goodIn_app (goodIn_of _ (by decide +kernel)) ggX3_putTopOf_X3_slotBelowTop
set_option maxRecDepth 20000 in
theorem ggX3_putTopOf_X3_valueAt : GoodIn wsX3_putTopOf wsX3_valueAt := goodIn_r _ [10, 11, 12, 13, 14, 4, 15, 6, 45, 46, 47, 48, 49] (by decide +kernel) (by decide +kernel)
set_option maxRecDepth 20000 in
theorem gX3_putTopOf_X3_valueAt : GoodIn wsX3_putTopOf (wsV RX3 44 RX3 yX3_valueAt wsX3_valueAt) := goodIn_app (goodIn_of _ (by decide +kernel)) ggX3_putTopOf_X3_valueAt
set_option maxRecDepth 20000 in
theorem ggX3_putTopOf_X3_placesAt : GoodIn wsX3_putTopOf wsX3_placesAt := goodIn_r _ [19, 20, 12, 13, 14, 4, 15, 6, 11, 45, 46, 47, 48, 49] (by decide +kernel) (by decide +kernel)
set_option maxRecDepth 20000 in
theorem gX3_putTopOf_X3_placesAt : GoodIn wsX3_putTopOf (wsV RX3 48 RX3 yX3_placesAt wsX3_placesAt) := goodIn_app (goodIn_of _ (by decide +kernel)) ggX3_putTopOf_X3_placesAt
set_option maxRecDepth 20000 in
theorem ggX3_putTopOf_X3_rowAt : GoodIn wsX3_putTopOf wsX3_rowAt := goodIn_r _ [24, 25, 12, 13, 14, 4, 15, 6, 11, 45, 46, 47, 48, 49] (by decide +kernel) (by decide +kernel)
set_option maxRecDepth 20000 in
theorem gX3_putTopOf_X3_rowAt : GoodIn wsX3_putTopOf (wsV RX3 51 RX3 yX3_rowAt wsX3_rowAt) := goodIn_app (goodIn_of _ (by decide +kernel)) ggX3_putTopOf_X3_rowAt
set_option maxRecDepth 20000 in
theorem ggX3_putTopOf_X3_startAt : GoodIn wsX3_putTopOf wsX3_startAt := goodIn_r _ [29, 30, 12, 13, 14, 4, 15, 6, 11, 45, 46, 47, 48, 49] (by decide +kernel) (by decide +kernel)
set_option maxRecDepth 20000 in
theorem gX3_putTopOf_X3_startAt : GoodIn wsX3_putTopOf (wsV RX3 55 RX3 yX3_startAt wsX3_startAt) := goodIn_app (goodIn_of _ (by decide +kernel)) ggX3_putTopOf_X3_startAt
set_option maxRecDepth 20000 in
theorem ggX3_putTopOf_X3_put : GoodIn wsX3_putTopOf wsX3_put := goodIn_ca (goodIn_r _ [34, 35, 36, 6, 37, 38, 39, 4, 40, 11, 41, 42, 43, 44, 20, 25, 30, 12, 13, 14, 15, 45, 46, 47, 48, 49] (by decide +kernel) (by decide +kernel)) (goodIn_sub (fun _ h => List.mem_cons_of_mem _ (List.mem_append_right _ h)) (by decide +kernel))
set_option maxRecDepth 20000 in
theorem gX3_putTopOf_X3_put : GoodIn wsX3_putTopOf (wsV RX3 36 RX3 yX3_put wsX3_put) := goodIn_app (goodIn_of _ (by decide +kernel)) ggX3_putTopOf_X3_put
theorem dX3_putTopOf_0 : decode cX3_putTopOf 0 = .ok (.aload_n 1, 1) := by decide +kernel
theorem dX3_putTopOf_1 : decode cX3_putTopOf 1 = .ok (.iconst 0, 1) := by decide +kernel
theorem dX3_putTopOf_2 : decode cX3_putTopOf 2 = .ok (.invokevirtual 40, 3) := by decide +kernel
theorem dX3_putTopOf_5 : decode cX3_putTopOf 5 = .ok (.istore_n 2, 1) := by decide +kernel
theorem dX3_putTopOf_6 : decode cX3_putTopOf 6 = .ok (.aload_n 0, 1) := by decide +kernel
theorem dX3_putTopOf_7 : decode cX3_putTopOf 7 = .ok (.aload_n 1, 1) := by decide +kernel
theorem dX3_putTopOf_8 : decode cX3_putTopOf 8 = .ok (.iload_n 2, 1) := by decide +kernel
theorem dX3_putTopOf_9 : decode cX3_putTopOf 9 = .ok (.invokevirtual 44, 3) := by decide +kernel
theorem dX3_putTopOf_12 : decode cX3_putTopOf 12 = .ok (.aload_n 1, 1) := by decide +kernel
theorem dX3_putTopOf_13 : decode cX3_putTopOf 13 = .ok (.iload_n 2, 1) := by decide +kernel
theorem dX3_putTopOf_14 : decode cX3_putTopOf 14 = .ok (.invokevirtual 48, 3) := by decide +kernel
theorem dX3_putTopOf_17 : decode cX3_putTopOf 17 = .ok (.aload_n 1, 1) := by decide +kernel
theorem dX3_putTopOf_18 : decode cX3_putTopOf 18 = .ok (.iload_n 2, 1) := by decide +kernel
theorem dX3_putTopOf_19 : decode cX3_putTopOf 19 = .ok (.invokevirtual 51, 3) := by decide +kernel
theorem dX3_putTopOf_22 : decode cX3_putTopOf 22 = .ok (.aload_n 1, 1) := by decide +kernel
theorem dX3_putTopOf_23 : decode cX3_putTopOf 23 = .ok (.iload_n 2, 1) := by decide +kernel
theorem dX3_putTopOf_24 : decode cX3_putTopOf 24 = .ok (.invokevirtual 55, 3) := by decide +kernel
theorem dX3_putTopOf_27 : decode cX3_putTopOf 27 = .ok (.invokevirtual 36, 3) := by decide +kernel
theorem dX3_putTopOf_30 : decode cX3_putTopOf 30 = .ok (.return_, 1) := by decide +kernel
set_option maxRecDepth 20000 in
theorem ggX3_put_X3_isFull : GoodIn wsX3_put wsX3_isFull := goodIn_r _ [8, 3, 9, 21, 22, 23, 24, 25] (by decide +kernel) (by decide +kernel)
set_option maxRecDepth 20000 in
theorem gX3_put_X3_isFull : GoodIn wsX3_put (wsV RX3 58 RX3 yX3_isFull wsX3_isFull) := goodIn_app (goodIn_of _ (by decide +kernel)) ggX3_put_X3_isFull
set_option maxRecDepth 20000 in
theorem ggX3_put_X3_set : GoodIn wsX3_put wsX3_set := goodIn_r _ [13, 9, 14, 15, 16, 17, 18, 19, 7, 20, 3, 21, 22, 23, 24, 25] (by decide +kernel) (by decide +kernel)
set_option maxRecDepth 20000 in
theorem gX3_put_X3_set : GoodIn wsX3_put (wsV RX3 69 RX3 yX3_set wsX3_set) := goodIn_app (goodIn_of _ (by decide +kernel)) ggX3_put_X3_set
theorem dX3_put_0 : decode cX3_put 0 = .ok (.aload_n 0, 1) := by decide +kernel
theorem dX3_put_1 : decode cX3_put 1 = .ok (.invokevirtual 58, 3) := by decide +kernel
theorem dX3_put_4 : decode cX3_put 4 = .ok (.ifCond .eq 13, 3) := by decide +kernel
theorem dX3_put_7 : decode cX3_put 7 = .ok (.new 62, 3) := by decide +kernel
theorem dX3_put_10 : decode cX3_put 10 = .ok (.dup, 1) := by decide +kernel
theorem dX3_put_11 : decode cX3_put 11 = .ok (.ldc 64, 2) := by decide +kernel
theorem dX3_put_13 : decode cX3_put 13 = .ok (.invokespecial 66, 3) := by decide +kernel
theorem dX3_put_16 : decode cX3_put 16 = .ok (.athrow, 1) := by decide +kernel
theorem dX3_put_17 : decode cX3_put 17 = .ok (.aload_n 0, 1) := by decide +kernel
theorem dX3_put_18 : decode cX3_put 18 = .ok (.dup, 1) := by decide +kernel
theorem dX3_put_19 : decode cX3_put 19 = .ok (.getfield 28, 3) := by decide +kernel
theorem dX3_put_22 : decode cX3_put 22 = .ok (.iconst 1, 1) := by decide +kernel
theorem dX3_put_23 : decode cX3_put 23 = .ok (.iadd, 1) := by decide +kernel
theorem dX3_put_24 : decode cX3_put 24 = .ok (.putfield 28, 3) := by decide +kernel
theorem dX3_put_27 : decode cX3_put 27 = .ok (.aload_n 0, 1) := by decide +kernel
theorem dX3_put_28 : decode cX3_put 28 = .ok (.aload_n 0, 1) := by decide +kernel
theorem dX3_put_29 : decode cX3_put 29 = .ok (.getfield 28, 3) := by decide +kernel
theorem dX3_put_32 : decode cX3_put 32 = .ok (.iconst 1, 1) := by decide +kernel
theorem dX3_put_33 : decode cX3_put 33 = .ok (.isub, 1) := by decide +kernel
theorem dX3_put_34 : decode cX3_put 34 = .ok (.lload_n 1, 1) := by decide +kernel
theorem dX3_put_35 : decode cX3_put 35 = .ok (.iload_n 3, 1) := by decide +kernel
theorem dX3_put_36 : decode cX3_put 36 = .ok (.aload 4, 2) := by decide +kernel
theorem dX3_put_38 : decode cX3_put 38 = .ok (.iload 5, 2) := by decide +kernel
theorem dX3_put_40 : decode cX3_put 40 = .ok (.invokevirtual 69, 3) := by decide +kernel
theorem dX3_put_43 : decode cX3_put 43 = .ok (.return_, 1) := by decide +kernel
set_option maxRecDepth 20000 in
theorem ggX3_set_X3_has : GoodIn wsX3_set wsX3_has := goodIn_r _ [9, 10, 1, 11, 12, 13, 14, 15] (by decide +kernel) (by decide +kernel)
set_option maxRecDepth 20000 in
theorem gX3_set_X3_has : GoodIn wsX3_set (wsV RX3 32 RX3 yX3_has wsX3_has) := goodIn_app (goodIn_of _ (by decide +kernel)) ggX3_set_X3_has
theorem dX3_set_0 : decode cX3_set 0 = .ok (.aload_n 0, 1) := by decide +kernel
theorem dX3_set_1 : decode cX3_set 1 = .ok (.iload_n 1, 1) := by decide +kernel
theorem dX3_set_2 : decode cX3_set 2 = .ok (.invokevirtual 32, 3) := by decide +kernel
theorem dX3_set_5 : decode cX3_set 5 = .ok (.ifCond .eq 34, 3) := by decide +kernel
theorem dX3_set_8 : decode cX3_set 8 = .ok (.aload_n 0, 1) := by decide +kernel
theorem dX3_set_9 : decode cX3_set 9 = .ok (.getfield 9, 3) := by decide +kernel
theorem dX3_set_12 : decode cX3_set 12 = .ok (.iload_n 1, 1) := by decide +kernel
theorem dX3_set_13 : decode cX3_set 13 = .ok (.lload_n 2, 1) := by decide +kernel
theorem dX3_set_14 : decode cX3_set 14 = .ok (.lastore, 1) := by decide +kernel
theorem dX3_set_15 : decode cX3_set 15 = .ok (.aload_n 0, 1) := by decide +kernel
theorem dX3_set_16 : decode cX3_set 16 = .ok (.getfield 15, 3) := by decide +kernel
theorem dX3_set_19 : decode cX3_set 19 = .ok (.iload_n 1, 1) := by decide +kernel
theorem dX3_set_20 : decode cX3_set 20 = .ok (.iload 4, 2) := by decide +kernel
theorem dX3_set_22 : decode cX3_set 22 = .ok (.iastore, 1) := by decide +kernel
theorem dX3_set_23 : decode cX3_set 23 = .ok (.aload_n 0, 1) := by decide +kernel
theorem dX3_set_24 : decode cX3_set 24 = .ok (.getfield 21, 3) := by decide +kernel
theorem dX3_set_27 : decode cX3_set 27 = .ok (.iload_n 1, 1) := by decide +kernel
theorem dX3_set_28 : decode cX3_set 28 = .ok (.aload 5, 2) := by decide +kernel
theorem dX3_set_30 : decode cX3_set 30 = .ok (.aastore, 1) := by decide +kernel
theorem dX3_set_31 : decode cX3_set 31 = .ok (.aload_n 0, 1) := by decide +kernel
theorem dX3_set_32 : decode cX3_set 32 = .ok (.getfield 25, 3) := by decide +kernel
theorem dX3_set_35 : decode cX3_set 35 = .ok (.iload_n 1, 1) := by decide +kernel
theorem dX3_set_36 : decode cX3_set 36 = .ok (.iload 6, 2) := by decide +kernel
theorem dX3_set_38 : decode cX3_set 38 = .ok (.iastore, 1) := by decide +kernel
theorem dX3_set_39 : decode cX3_set 39 = .ok (.return_, 1) := by decide +kernel
set_option maxRecDepth 20000 in
theorem ggX3_swapTopTwo_X3_slotBelowTop : GoodIn wsX3_swapTopTwo wsX3_slotBelowTop := goodIn_r _ [5, 6, 35, 36, 37, 38, 39] (by decide +kernel) (by decide +kernel)
set_option maxRecDepth 20000 in
theorem gX3_swapTopTwo_X3_slotBelowTop : GoodIn wsX3_swapTopTwo (wsV RX3 40 RX3 yX3_slotBelowTop wsX3_slotBelowTop) := goodIn_app (goodIn_of _ (by decide +kernel)) ggX3_swapTopTwo_X3_slotBelowTop
set_option maxRecDepth 20000 in
theorem ggX3_swapTopTwo_X3_valueAt : GoodIn wsX3_swapTopTwo wsX3_valueAt := goodIn_r _ [10, 11, 12, 13, 14, 4, 15, 6, 35, 36, 37, 38, 39] (by decide +kernel) (by decide +kernel)
set_option maxRecDepth 20000 in
theorem gX3_swapTopTwo_X3_valueAt : GoodIn wsX3_swapTopTwo (wsV RX3 44 RX3 yX3_valueAt wsX3_valueAt) := goodIn_app (goodIn_of _ (by decide +kernel)) ggX3_swapTopTwo_X3_valueAt
set_option maxRecDepth 20000 in
theorem ggX3_swapTopTwo_X3_placesAt : GoodIn wsX3_swapTopTwo wsX3_placesAt := goodIn_r _ [19, 20, 12, 13, 14, 4, 15, 6, 11, 35, 36, 37, 38, 39] (by decide +kernel) (by decide +kernel)
set_option maxRecDepth 20000 in
theorem gX3_swapTopTwo_X3_placesAt : GoodIn wsX3_swapTopTwo (wsV RX3 48 RX3 yX3_placesAt wsX3_placesAt) := goodIn_app (goodIn_of _ (by decide +kernel)) ggX3_swapTopTwo_X3_placesAt
set_option maxRecDepth 20000 in
theorem ggX3_swapTopTwo_X3_rowAt : GoodIn wsX3_swapTopTwo wsX3_rowAt := goodIn_r _ [24, 25, 12, 13, 14, 4, 15, 6, 11, 35, 36, 37, 38, 39] (by decide +kernel) (by decide +kernel)
set_option maxRecDepth 20000 in
theorem gX3_swapTopTwo_X3_rowAt : GoodIn wsX3_swapTopTwo (wsV RX3 51 RX3 yX3_rowAt wsX3_rowAt) := goodIn_app (goodIn_of _ (by decide +kernel)) ggX3_swapTopTwo_X3_rowAt
set_option maxRecDepth 20000 in
theorem ggX3_swapTopTwo_X3_startAt : GoodIn wsX3_swapTopTwo wsX3_startAt := goodIn_r _ [29, 30, 12, 13, 14, 4, 15, 6, 11, 35, 36, 37, 38, 39] (by decide +kernel) (by decide +kernel)
set_option maxRecDepth 20000 in
theorem gX3_swapTopTwo_X3_startAt : GoodIn wsX3_swapTopTwo (wsV RX3 55 RX3 yX3_startAt wsX3_startAt) := goodIn_app (goodIn_of _ (by decide +kernel)) ggX3_swapTopTwo_X3_startAt
set_option maxRecDepth 20000 in
theorem ggX3_swapTopTwo_X3_set : GoodIn wsX3_swapTopTwo wsX3_set := goodIn_r _ [34, 11, 20, 25, 30, 12, 13, 14, 4, 15, 6, 35, 36, 37, 38, 39] (by decide +kernel) (by decide +kernel)
set_option maxRecDepth 20000 in
theorem gX3_swapTopTwo_X3_set : GoodIn wsX3_swapTopTwo (wsV RX3 69 RX3 yX3_set wsX3_set) := goodIn_app (goodIn_of _ (by decide +kernel)) ggX3_swapTopTwo_X3_set
theorem dX3_swapTopTwo_0 : decode cX3_swapTopTwo 0 = .ok (.aload_n 0, 1) := by decide +kernel
theorem dX3_swapTopTwo_1 : decode cX3_swapTopTwo 1 = .ok (.iconst 0, 1) := by decide +kernel
theorem dX3_swapTopTwo_2 : decode cX3_swapTopTwo 2 = .ok (.invokevirtual 40, 3) := by decide +kernel
theorem dX3_swapTopTwo_5 : decode cX3_swapTopTwo 5 = .ok (.istore_n 1, 1) := by decide +kernel
theorem dX3_swapTopTwo_6 : decode cX3_swapTopTwo 6 = .ok (.aload_n 0, 1) := by decide +kernel
theorem dX3_swapTopTwo_7 : decode cX3_swapTopTwo 7 = .ok (.iconst 1, 1) := by decide +kernel
theorem dX3_swapTopTwo_8 : decode cX3_swapTopTwo 8 = .ok (.invokevirtual 40, 3) := by decide +kernel
theorem dX3_swapTopTwo_11 : decode cX3_swapTopTwo 11 = .ok (.istore_n 2, 1) := by decide +kernel
theorem dX3_swapTopTwo_12 : decode cX3_swapTopTwo 12 = .ok (.aload_n 0, 1) := by decide +kernel
theorem dX3_swapTopTwo_13 : decode cX3_swapTopTwo 13 = .ok (.iload_n 1, 1) := by decide +kernel
theorem dX3_swapTopTwo_14 : decode cX3_swapTopTwo 14 = .ok (.invokevirtual 44, 3) := by decide +kernel
theorem dX3_swapTopTwo_17 : decode cX3_swapTopTwo 17 = .ok (.lstore_n 3, 1) := by decide +kernel
theorem dX3_swapTopTwo_18 : decode cX3_swapTopTwo 18 = .ok (.aload_n 0, 1) := by decide +kernel
theorem dX3_swapTopTwo_19 : decode cX3_swapTopTwo 19 = .ok (.iload_n 1, 1) := by decide +kernel
theorem dX3_swapTopTwo_20 : decode cX3_swapTopTwo 20 = .ok (.invokevirtual 48, 3) := by decide +kernel
theorem dX3_swapTopTwo_23 : decode cX3_swapTopTwo 23 = .ok (.istore 5, 2) := by decide +kernel
theorem dX3_swapTopTwo_25 : decode cX3_swapTopTwo 25 = .ok (.aload_n 0, 1) := by decide +kernel
theorem dX3_swapTopTwo_26 : decode cX3_swapTopTwo 26 = .ok (.iload_n 1, 1) := by decide +kernel
theorem dX3_swapTopTwo_27 : decode cX3_swapTopTwo 27 = .ok (.invokevirtual 51, 3) := by decide +kernel
theorem dX3_swapTopTwo_30 : decode cX3_swapTopTwo 30 = .ok (.astore 6, 2) := by decide +kernel
theorem dX3_swapTopTwo_32 : decode cX3_swapTopTwo 32 = .ok (.aload_n 0, 1) := by decide +kernel
theorem dX3_swapTopTwo_33 : decode cX3_swapTopTwo 33 = .ok (.iload_n 1, 1) := by decide +kernel
theorem dX3_swapTopTwo_34 : decode cX3_swapTopTwo 34 = .ok (.invokevirtual 55, 3) := by decide +kernel
theorem dX3_swapTopTwo_37 : decode cX3_swapTopTwo 37 = .ok (.istore 7, 2) := by decide +kernel
theorem dX3_swapTopTwo_39 : decode cX3_swapTopTwo 39 = .ok (.aload_n 0, 1) := by decide +kernel
theorem dX3_swapTopTwo_40 : decode cX3_swapTopTwo 40 = .ok (.iload_n 1, 1) := by decide +kernel
theorem dX3_swapTopTwo_41 : decode cX3_swapTopTwo 41 = .ok (.aload_n 0, 1) := by decide +kernel
theorem dX3_swapTopTwo_42 : decode cX3_swapTopTwo 42 = .ok (.iload_n 2, 1) := by decide +kernel
theorem dX3_swapTopTwo_43 : decode cX3_swapTopTwo 43 = .ok (.invokevirtual 44, 3) := by decide +kernel
theorem dX3_swapTopTwo_46 : decode cX3_swapTopTwo 46 = .ok (.aload_n 0, 1) := by decide +kernel
theorem dX3_swapTopTwo_47 : decode cX3_swapTopTwo 47 = .ok (.iload_n 2, 1) := by decide +kernel
theorem dX3_swapTopTwo_48 : decode cX3_swapTopTwo 48 = .ok (.invokevirtual 48, 3) := by decide +kernel
theorem dX3_swapTopTwo_51 : decode cX3_swapTopTwo 51 = .ok (.aload_n 0, 1) := by decide +kernel
theorem dX3_swapTopTwo_52 : decode cX3_swapTopTwo 52 = .ok (.iload_n 2, 1) := by decide +kernel
theorem dX3_swapTopTwo_53 : decode cX3_swapTopTwo 53 = .ok (.invokevirtual 51, 3) := by decide +kernel
theorem dX3_swapTopTwo_56 : decode cX3_swapTopTwo 56 = .ok (.aload_n 0, 1) := by decide +kernel
theorem dX3_swapTopTwo_57 : decode cX3_swapTopTwo 57 = .ok (.iload_n 2, 1) := by decide +kernel
theorem dX3_swapTopTwo_58 : decode cX3_swapTopTwo 58 = .ok (.invokevirtual 55, 3) := by decide +kernel
theorem dX3_swapTopTwo_61 : decode cX3_swapTopTwo 61 = .ok (.invokevirtual 69, 3) := by decide +kernel
theorem dX3_swapTopTwo_64 : decode cX3_swapTopTwo 64 = .ok (.aload_n 0, 1) := by decide +kernel
theorem dX3_swapTopTwo_65 : decode cX3_swapTopTwo 65 = .ok (.iload_n 2, 1) := by decide +kernel
theorem dX3_swapTopTwo_66 : decode cX3_swapTopTwo 66 = .ok (.lload_n 3, 1) := by decide +kernel
theorem dX3_swapTopTwo_67 : decode cX3_swapTopTwo 67 = .ok (.iload 5, 2) := by decide +kernel
theorem dX3_swapTopTwo_69 : decode cX3_swapTopTwo 69 = .ok (.aload 6, 2) := by decide +kernel
theorem dX3_swapTopTwo_71 : decode cX3_swapTopTwo 71 = .ok (.iload 7, 2) := by decide +kernel
theorem dX3_swapTopTwo_73 : decode cX3_swapTopTwo 73 = .ok (.invokevirtual 69, 3) := by decide +kernel
theorem dX3_swapTopTwo_76 : decode cX3_swapTopTwo 76 = .ok (.return_, 1) := by decide +kernel
theorem dX3_drop_0 : decode cX3_drop 0 = .ok (.aload_n 0, 1) := by decide +kernel
theorem dX3_drop_1 : decode cX3_drop 1 = .ok (.iconst 0, 1) := by decide +kernel
theorem dX3_drop_2 : decode cX3_drop 2 = .ok (.aload_n 0, 1) := by decide +kernel
theorem dX3_drop_3 : decode cX3_drop 3 = .ok (.getfield 28, 3) := by decide +kernel
theorem dX3_drop_6 : decode cX3_drop 6 = .ok (.iload_n 1, 1) := by decide +kernel
theorem dX3_drop_7 : decode cX3_drop 7 = .ok (.isub, 1) := by decide +kernel
theorem dX3_drop_8 : decode cX3_drop 8 = .ok (.invokestatic 73, 3) := by decide +kernel
theorem dX3_drop_11 : decode cX3_drop 11 = .ok (.putfield 28, 3) := by decide +kernel
theorem dX3_drop_14 : decode cX3_drop 14 = .ok (.return_, 1) := by decide +kernel
theorem dX3_clear_0 : decode cX3_clear 0 = .ok (.aload_n 0, 1) := by decide +kernel
theorem dX3_clear_1 : decode cX3_clear 1 = .ok (.iconst 0, 1) := by decide +kernel
theorem dX3_clear_2 : decode cX3_clear 2 = .ok (.putfield 28, 3) := by decide +kernel
theorem dX3_clear_5 : decode cX3_clear 5 = .ok (.return_, 1) := by decide +kernel

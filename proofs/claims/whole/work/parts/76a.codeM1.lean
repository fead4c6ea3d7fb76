theorem dX5_init_0 : decode cX5_init 0 = .ok (.aload_n 0, 1) := by decide +kernel
theorem dX5_init_1 : decode cX5_init 1 = .ok (.invokespecial 1, 3) := by decide +kernel
theorem dX5_init_4 : decode cX5_init 4 = .ok (.aload_n 0, 1) := by decide +kernel
theorem dX5_init_5 : decode cX5_init 5 = .ok (.sipush 160, 3) := by decide +kernel
theorem dX5_init_8 : decode cX5_init 8 = .ok (.newarray .int, 2) := by decide +kernel
theorem dX5_init_10 : decode cX5_init 10 = .ok (.putfield 7, 3) := by decide +kernel
theorem dX5_init_13 : decode cX5_init 13 = .ok (.aload_n 0, 1) := by decide +kernel
theorem dX5_init_14 : decode cX5_init 14 = .ok (.bipush 82, 2) := by decide +kernel
theorem dX5_init_16 : decode cX5_init 16 = .ok (.newarray .long, 2) := by decide +kernel
theorem dX5_init_18 : decode cX5_init 18 = .ok (.putfield 13, 3) := by decide +kernel
theorem dX5_init_21 : decode cX5_init 21 = .ok (.aload_n 0, 1) := by decide +kernel
theorem dX5_init_22 : decode cX5_init 22 = .ok (.bipush 82, 2) := by decide +kernel
theorem dX5_init_24 : decode cX5_init 24 = .ok (.newarray .int, 2) := by decide +kernel
theorem dX5_init_26 : decode cX5_init 26 = .ok (.putfield 17, 3) := by decide +kernel
theorem dX5_init_29 : decode cX5_init 29 = .ok (.aload_n 0, 1) := by decide +kernel
theorem dX5_init_30 : decode cX5_init 30 = .ok (.sipush 13120, 3) := by decide +kernel
theorem dX5_init_33 : decode cX5_init 33 = .ok (.newarray .int, 2) := by decide +kernel
theorem dX5_init_35 : decode cX5_init 35 = .ok (.putfield 20, 3) := by decide +kernel
theorem dX5_init_38 : decode cX5_init 38 = .ok (.aload_n 0, 1) := by decide +kernel
theorem dX5_init_39 : decode cX5_init 39 = .ok (.iconst 4, 1) := by decide +kernel
theorem dX5_init_40 : decode cX5_init 40 = .ok (.newarray .int, 2) := by decide +kernel
theorem dX5_init_42 : decode cX5_init 42 = .ok (.putfield 23, 3) := by decide +kernel
theorem dX5_init_45 : decode cX5_init 45 = .ok (.aload_n 0, 1) := by decide +kernel
theorem dX5_init_46 : decode cX5_init 46 = .ok (.sipush 1920, 3) := by decide +kernel
theorem dX5_init_49 : decode cX5_init 49 = .ok (.newarray .int, 2) := by decide +kernel
theorem dX5_init_51 : decode cX5_init 51 = .ok (.putfield 26, 3) := by decide +kernel
theorem dX5_init_54 : decode cX5_init 54 = .ok (.aload_n 0, 1) := by decide +kernel
theorem dX5_init_55 : decode cX5_init 55 = .ok (.bipush 12, 2) := by decide +kernel
theorem dX5_init_57 : decode cX5_init 57 = .ok (.newarray .int, 2) := by decide +kernel
theorem dX5_init_59 : decode cX5_init 59 = .ok (.putfield 29, 3) := by decide +kernel
theorem dX5_init_62 : decode cX5_init 62 = .ok (.aload_n 0, 1) := by decide +kernel
theorem dX5_init_63 : decode cX5_init 63 = .ok (.bipush 12, 2) := by decide +kernel
theorem dX5_init_65 : decode cX5_init 65 = .ok (.newarray .int, 2) := by decide +kernel
theorem dX5_init_67 : decode cX5_init 67 = .ok (.putfield 32, 3) := by decide +kernel
theorem dX5_init_70 : decode cX5_init 70 = .ok (.aload_n 0, 1) := by decide +kernel
theorem dX5_init_71 : decode cX5_init 71 = .ok (.bipush 40, 2) := by decide +kernel
theorem dX5_init_73 : decode cX5_init 73 = .ok (.newarray .long, 2) := by decide +kernel
theorem dX5_init_75 : decode cX5_init 75 = .ok (.putfield 35, 3) := by decide +kernel
theorem dX5_init_78 : decode cX5_init 78 = .ok (.aload_n 0, 1) := by decide +kernel
theorem dX5_init_79 : decode cX5_init 79 = .ok (.bipush 40, 2) := by decide +kernel
theorem dX5_init_81 : decode cX5_init 81 = .ok (.newarray .int, 2) := by decide +kernel
theorem dX5_init_83 : decode cX5_init 83 = .ok (.putfield 38, 3) := by decide +kernel
theorem dX5_init_86 : decode cX5_init 86 = .ok (.return_, 1) := by decide +kernel
theorem dX5_thrown_0 : decode cX5_thrown 0 = .ok (.aload_n 0, 1) := by decide +kernel
theorem dX5_thrown_1 : decode cX5_thrown 1 = .ok (.getfield 41, 3) := by decide +kernel
theorem dX5_thrown_4 : decode cX5_thrown 4 = .ok (.ireturn, 1) := by decide +kernel
theorem dX5_within_0 : decode cX5_within 0 = .ok (.lload_n 0, 1) := by decide +kernel
theorem dX5_within_1 : decode cX5_within 1 = .ok (.lload_n 2, 1) := by decide +kernel
theorem dX5_within_2 : decode cX5_within 2 = .ok (.lcmp, 1) := by decide +kernel
theorem dX5_within_3 : decode cX5_within 3 = .ok (.ifCond .lt 14, 3) := by decide +kernel
theorem dX5_within_6 : decode cX5_within 6 = .ok (.lload_n 0, 1) := by decide +kernel
theorem dX5_within_7 : decode cX5_within 7 = .ok (.lload 4, 2) := by decide +kernel
theorem dX5_within_9 : decode cX5_within 9 = .ok (.lcmp, 1) := by decide +kernel
theorem dX5_within_10 : decode cX5_within 10 = .ok (.ifCond .gt 7, 3) := by decide +kernel
theorem dX5_within_13 : decode cX5_within 13 = .ok (.iconst 1, 1) := by decide +kernel
theorem dX5_within_14 : decode cX5_within 14 = .ok (.goto 4, 3) := by decide +kernel
theorem dX5_within_17 : decode cX5_within 17 = .ok (.iconst 0, 1) := by decide +kernel
theorem dX5_within_18 : decode cX5_within 18 = .ok (.ireturn, 1) := by decide +kernel
theorem dX5_write_0 : decode cX5_write 0 = .ok (.aload_n 0, 1) := by decide +kernel
theorem dX5_write_1 : decode cX5_write 1 = .ok (.iconst 0, 1) := by decide +kernel
theorem dX5_write_2 : decode cX5_write 2 = .ok (.putfield 41, 3) := by decide +kernel
theorem dX5_write_5 : decode cX5_write 5 = .ok (.iconst 0, 1) := by decide +kernel
theorem dX5_write_6 : decode cX5_write 6 = .ok (.istore_n 3, 1) := by decide +kernel
theorem dX5_write_7 : decode cX5_write 7 = .ok (.iconst 0, 1) := by decide +kernel
theorem dX5_write_8 : decode cX5_write 8 = .ok (.istore 4, 2) := by decide +kernel
theorem dX5_write_10 : decode cX5_write 10 = .ok (.iload 4, 2) := by decide +kernel
theorem dX5_write_12 : decode cX5_write 12 = .ok (.bipush 8, 2) := by decide +kernel
theorem dX5_write_14 : decode cX5_write 14 = .ok (.if_icmp .ge 43, 3) := by decide +kernel
theorem dX5_write_17 : decode cX5_write 17 = .ok (.lload_n 1, 1) := by decide +kernel
theorem dX5_write_18 : decode cX5_write 18 = .ok (.bipush 8, 2) := by decide +kernel
theorem dX5_write_20 : decode cX5_write 20 = .ok (.iload 4, 2) := by decide +kernel
theorem dX5_write_22 : decode cX5_write 22 = .ok (.imul, 1) := by decide +kernel
theorem dX5_write_23 : decode cX5_write 23 = .ok (.lshr, 1) := by decide +kernel
theorem dX5_write_24 : decode cX5_write 24 = .ok (.l2i, 1) := by decide +kernel
theorem dX5_write_25 : decode cX5_write 25 = .ok (.sipush 255, 3) := by decide +kernel
theorem dX5_write_28 : decode cX5_write 28 = .ok (.iand, 1) := by decide +kernel
theorem dX5_write_29 : decode cX5_write 29 = .ok (.istore 5, 2) := by decide +kernel
theorem dX5_write_31 : decode cX5_write 31 = .ok (.iload 5, 2) := by decide +kernel
theorem dX5_write_33 : decode cX5_write 33 = .ok (.ifCond .ne 6, 3) := by decide +kernel
theorem dX5_write_36 : decode cX5_write 36 = .ok (.goto 21, 3) := by decide +kernel
theorem dX5_write_39 : decode cX5_write 39 = .ok (.iload 5, 2) := by decide +kernel
theorem dX5_write_41 : decode cX5_write 41 = .ok (.bipush 127, 2) := by decide +kernel
theorem dX5_write_43 : decode cX5_write 43 = .ok (.if_icmp .le 5, 3) := by decide +kernel
theorem dX5_write_46 : decode cX5_write 46 = .ok (.iconst (-1), 1) := by decide +kernel
theorem dX5_write_47 : decode cX5_write 47 = .ok (.ireturn, 1) := by decide +kernel
theorem dX5_write_48 : decode cX5_write 48 = .ok (.iinc 3 1, 3) := by decide +kernel
theorem dX5_write_51 : decode cX5_write 51 = .ok (.iinc 4 1, 3) := by decide +kernel
theorem dX5_write_54 : decode cX5_write 54 = .ok (.goto (-44), 3) := by decide +kernel
theorem dX5_write_57 : decode cX5_write 57 = .ok (.aload_n 0, 1) := by decide +kernel
theorem dX5_write_58 : decode cX5_write 58 = .ok (.getfield 45, 3) := by decide +kernel
theorem dX5_write_61 : decode cX5_write 61 = .ok (.iload_n 3, 1) := by decide +kernel
theorem dX5_write_62 : decode cX5_write 62 = .ok (.iadd, 1) := by decide +kernel
theorem dX5_write_63 : decode cX5_write 63 = .ok (.sipush 160, 3) := by decide +kernel
theorem dX5_write_66 : decode cX5_write 66 = .ok (.if_icmp .le 5, 3) := by decide +kernel
theorem dX5_write_69 : decode cX5_write 69 = .ok (.iconst (-1), 1) := by decide +kernel
theorem dX5_write_70 : decode cX5_write 70 = .ok (.ireturn, 1) := by decide +kernel
theorem dX5_write_71 : decode cX5_write 71 = .ok (.iconst 0, 1) := by decide +kernel
theorem dX5_write_72 : decode cX5_write 72 = .ok (.istore 4, 2) := by decide +kernel
theorem dX5_write_74 : decode cX5_write 74 = .ok (.iload 4, 2) := by decide +kernel
theorem dX5_write_76 : decode cX5_write 76 = .ok (.iload_n 3, 1) := by decide +kernel
theorem dX5_write_77 : decode cX5_write 77 = .ok (.if_icmp .ge 32, 3) := by decide +kernel
theorem dX5_write_80 : decode cX5_write 80 = .ok (.aload_n 0, 1) := by decide +kernel
theorem dX5_write_81 : decode cX5_write 81 = .ok (.getfield 7, 3) := by decide +kernel
theorem dX5_write_84 : decode cX5_write 84 = .ok (.aload_n 0, 1) := by decide +kernel
theorem dX5_write_85 : decode cX5_write 85 = .ok (.getfield 45, 3) := by decide +kernel
theorem dX5_write_88 : decode cX5_write 88 = .ok (.iload 4, 2) := by decide +kernel
theorem dX5_write_90 : decode cX5_write 90 = .ok (.iadd, 1) := by decide +kernel
theorem dX5_write_91 : decode cX5_write 91 = .ok (.lload_n 1, 1) := by decide +kernel
theorem dX5_write_92 : decode cX5_write 92 = .ok (.bipush 8, 2) := by decide +kernel
theorem dX5_write_94 : decode cX5_write 94 = .ok (.iload 4, 2) := by decide +kernel
theorem dX5_write_96 : decode cX5_write 96 = .ok (.imul, 1) := by decide +kernel
theorem dX5_write_97 : decode cX5_write 97 = .ok (.lshr, 1) := by decide +kernel
theorem dX5_write_98 : decode cX5_write 98 = .ok (.l2i, 1) := by decide +kernel
theorem dX5_write_99 : decode cX5_write 99 = .ok (.bipush 127, 2) := by decide +kernel
theorem dX5_write_101 : decode cX5_write 101 = .ok (.iand, 1) := by decide +kernel
theorem dX5_write_102 : decode cX5_write 102 = .ok (.iastore, 1) := by decide +kernel
theorem dX5_write_103 : decode cX5_write 103 = .ok (.iinc 4 1, 3) := by decide +kernel
theorem dX5_write_106 : decode cX5_write 106 = .ok (.goto (-32), 3) := by decide +kernel
theorem dX5_write_109 : decode cX5_write 109 = .ok (.aload_n 0, 1) := by decide +kernel
theorem dX5_write_110 : decode cX5_write 110 = .ok (.dup, 1) := by decide +kernel
theorem dX5_write_111 : decode cX5_write 111 = .ok (.getfield 45, 3) := by decide +kernel
theorem dX5_write_114 : decode cX5_write 114 = .ok (.iload_n 3, 1) := by decide +kernel
theorem dX5_write_115 : decode cX5_write 115 = .ok (.iadd, 1) := by decide +kernel
theorem dX5_write_116 : decode cX5_write 116 = .ok (.putfield 45, 3) := by decide +kernel
theorem dX5_write_119 : decode cX5_write 119 = .ok (.iload_n 3, 1) := by decide +kernel
theorem dX5_write_120 : decode cX5_write 120 = .ok (.ireturn, 1) := by decide +kernel
theorem dX5_erase_0 : decode cX5_erase 0 = .ok (.aload_n 0, 1) := by decide +kernel
theorem dX5_erase_1 : decode cX5_erase 1 = .ok (.iconst 0, 1) := by decide +kernel
theorem dX5_erase_2 : decode cX5_erase 2 = .ok (.putfield 41, 3) := by decide +kernel
theorem dX5_erase_5 : decode cX5_erase 5 = .ok (.aload_n 0, 1) := by decide +kernel
theorem dX5_erase_6 : decode cX5_erase 6 = .ok (.getfield 45, 3) := by decide +kernel
theorem dX5_erase_9 : decode cX5_erase 9 = .ok (.istore_n 1, 1) := by decide +kernel
theorem dX5_erase_10 : decode cX5_erase 10 = .ok (.aload_n 0, 1) := by decide +kernel
theorem dX5_erase_11 : decode cX5_erase 11 = .ok (.iconst 0, 1) := by decide +kernel
theorem dX5_erase_12 : decode cX5_erase 12 = .ok (.putfield 45, 3) := by decide +kernel
theorem dX5_erase_15 : decode cX5_erase 15 = .ok (.iload_n 1, 1) := by decide +kernel
theorem dX5_erase_16 : decode cX5_erase 16 = .ok (.ireturn, 1) := by decide +kernel
theorem dX5_copy_0 : decode cX5_copy 0 = .ok (.aload_n 0, 1) := by decide +kernel
theorem dX5_copy_1 : decode cX5_copy 1 = .ok (.getfield 13, 3) := by decide +kernel
theorem dX5_copy_4 : decode cX5_copy 4 = .ok (.iload_n 2, 1) := by decide +kernel
theorem dX5_copy_5 : decode cX5_copy 5 = .ok (.aload_n 0, 1) := by decide +kernel
theorem dX5_copy_6 : decode cX5_copy 6 = .ok (.getfield 13, 3) := by decide +kernel
theorem dX5_copy_9 : decode cX5_copy 9 = .ok (.iload_n 1, 1) := by decide +kernel
theorem dX5_copy_10 : decode cX5_copy 10 = .ok (.laload, 1) := by decide +kernel
theorem dX5_copy_11 : decode cX5_copy 11 = .ok (.lastore, 1) := by decide +kernel
theorem dX5_copy_12 : decode cX5_copy 12 = .ok (.aload_n 0, 1) := by decide +kernel
theorem dX5_copy_13 : decode cX5_copy 13 = .ok (.getfield 17, 3) := by decide +kernel
theorem dX5_copy_16 : decode cX5_copy 16 = .ok (.iload_n 2, 1) := by decide +kernel
theorem dX5_copy_17 : decode cX5_copy 17 = .ok (.aload_n 0, 1) := by decide +kernel
theorem dX5_copy_18 : decode cX5_copy 18 = .ok (.getfield 17, 3) := by decide +kernel
theorem dX5_copy_21 : decode cX5_copy 21 = .ok (.iload_n 1, 1) := by decide +kernel
theorem dX5_copy_22 : decode cX5_copy 22 = .ok (.iaload, 1) := by decide +kernel
theorem dX5_copy_23 : decode cX5_copy 23 = .ok (.iastore, 1) := by decide +kernel
theorem dX5_copy_24 : decode cX5_copy 24 = .ok (.iconst 0, 1) := by decide +kernel
theorem dX5_copy_25 : decode cX5_copy 25 = .ok (.istore_n 3, 1) := by decide +kernel
theorem dX5_copy_26 : decode cX5_copy 26 = .ok (.iload_n 3, 1) := by decide +kernel
theorem dX5_copy_27 : decode cX5_copy 27 = .ok (.i2l, 1) := by decide +kernel
theorem dX5_copy_28 : decode cX5_copy 28 = .ok (.aload_n 0, 1) := by decide +kernel
theorem dX5_copy_29 : decode cX5_copy 29 = .ok (.getfield 13, 3) := by decide +kernel
theorem dX5_copy_32 : decode cX5_copy 32 = .ok (.iload_n 1, 1) := by decide +kernel
theorem dX5_copy_33 : decode cX5_copy 33 = .ok (.laload, 1) := by decide +kernel
theorem dX5_copy_34 : decode cX5_copy 34 = .ok (.lcmp, 1) := by decide +kernel
theorem dX5_copy_35 : decode cX5_copy 35 = .ok (.ifCond .ge 42, 3) := by decide +kernel
theorem dX5_copy_38 : decode cX5_copy 38 = .ok (.aload_n 0, 1) := by decide +kernel
theorem dX5_copy_39 : decode cX5_copy 39 = .ok (.getfield 17, 3) := by decide +kernel
theorem dX5_copy_42 : decode cX5_copy 42 = .ok (.iload_n 1, 1) := by decide +kernel
theorem dX5_copy_43 : decode cX5_copy 43 = .ok (.iaload, 1) := by decide +kernel
theorem dX5_copy_44 : decode cX5_copy 44 = .ok (.ifCond .ge 33, 3) := by decide +kernel
theorem dX5_copy_47 : decode cX5_copy 47 = .ok (.aload_n 0, 1) := by decide +kernel
theorem dX5_copy_48 : decode cX5_copy 48 = .ok (.getfield 20, 3) := by decide +kernel
theorem dX5_copy_51 : decode cX5_copy 51 = .ok (.sipush 160, 3) := by decide +kernel
theorem dX5_copy_54 : decode cX5_copy 54 = .ok (.iload_n 2, 1) := by decide +kernel
theorem dX5_copy_55 : decode cX5_copy 55 = .ok (.imul, 1) := by decide +kernel
theorem dX5_copy_56 : decode cX5_copy 56 = .ok (.iload_n 3, 1) := by decide +kernel
theorem dX5_copy_57 : decode cX5_copy 57 = .ok (.iadd, 1) := by decide +kernel
theorem dX5_copy_58 : decode cX5_copy 58 = .ok (.aload_n 0, 1) := by decide +kernel
theorem dX5_copy_59 : decode cX5_copy 59 = .ok (.getfield 20, 3) := by decide +kernel
theorem dX5_copy_62 : decode cX5_copy 62 = .ok (.sipush 160, 3) := by decide +kernel
theorem dX5_copy_65 : decode cX5_copy 65 = .ok (.iload_n 1, 1) := by decide +kernel
theorem dX5_copy_66 : decode cX5_copy 66 = .ok (.imul, 1) := by decide +kernel
theorem dX5_copy_67 : decode cX5_copy 67 = .ok (.iload_n 3, 1) := by decide +kernel
theorem dX5_copy_68 : decode cX5_copy 68 = .ok (.iadd, 1) := by decide +kernel
theorem dX5_copy_69 : decode cX5_copy 69 = .ok (.iaload, 1) := by decide +kernel
theorem dX5_copy_70 : decode cX5_copy 70 = .ok (.iastore, 1) := by decide +kernel
theorem dX5_copy_71 : decode cX5_copy 71 = .ok (.iinc 3 1, 3) := by decide +kernel
theorem dX5_copy_74 : decode cX5_copy 74 = .ok (.goto (-48), 3) := by decide +kernel
theorem dX5_copy_77 : decode cX5_copy 77 = .ok (.return_, 1) := by decide +kernel
theorem dX5_fail_0 : decode cX5_fail 0 = .ok (.aload_n 0, 1) := by decide +kernel
theorem dX5_fail_1 : decode cX5_fail 1 = .ok (.iload_n 1, 1) := by decide +kernel
theorem dX5_fail_2 : decode cX5_fail 2 = .ok (.putfield 48, 3) := by decide +kernel
theorem dX5_fail_5 : decode cX5_fail 5 = .ok (.iconst 0, 1) := by decide +kernel
theorem dX5_fail_6 : decode cX5_fail 6 = .ok (.ireturn, 1) := by decide +kernel
set_option maxRecDepth 20000 in
theorem ggX5_have_X5_fail : GoodIn wsX5_have wsX5_fail := goodIn_r _ [6, 7, 8, 9, 10, 11, 12, 13, 14, 15, 16, 17, 18, 19, 20, 21, 22, 23, 24, 25, 26, 27, 28] (by decide +kernel) (by decide +kernel)
set_option maxRecDepth 20000 in
theorem gX5_have_X5_fail : GoodIn wsX5_have (wsV RX5 54 RX5 yX5_fail wsX5_fail) := goodIn_app (goodIn_of _ (by decide +kernel)) ggX5_have_X5_fail
theorem dX5_have_0 : decode cX5_have 0 = .ok (.aload_n 0, 1) := by decide +kernel
theorem dX5_have_1 : decode cX5_have 1 = .ok (.getfield 51, 3) := by decide +kernel
theorem dX5_have_4 : decode cX5_have 4 = .ok (.iload_n 1, 1) := by decide +kernel
theorem dX5_have_5 : decode cX5_have 5 = .ok (.if_icmp .ge 11, 3) := by decide +kernel
theorem dX5_have_8 : decode cX5_have 8 = .ok (.aload_n 0, 1) := by decide +kernel
theorem dX5_have_9 : decode cX5_have 9 = .ok (.iconst 2, 1) := by decide +kernel
theorem dX5_have_10 : decode cX5_have 10 = .ok (.invokevirtual 54, 3) := by decide +kernel
theorem dX5_have_13 : decode cX5_have 13 = .ok (.ifCond .eq 7, 3) := by decide +kernel
theorem dX5_have_16 : decode cX5_have 16 = .ok (.iconst 1, 1) := by decide +kernel
theorem dX5_have_17 : decode cX5_have 17 = .ok (.goto 4, 3) := by decide +kernel
theorem dX5_have_20 : decode cX5_have 20 = .ok (.iconst 0, 1) := by decide +kernel
theorem dX5_have_21 : decode cX5_have 21 = .ok (.ireturn, 1) := by decide +kernel
set_option maxRecDepth 20000 in
theorem ggX5_numbers_X5_have : GoodIn wsX5_numbers wsX5_have := goodIn_r _ [7, 2, 8, 9, 10, 6, 11, 12, 13, 14, 15, 16, 17, 18, 19, 20, 21, 22, 23, 24, 25, 26, 27, 28, 29, 30, 31, 32, 33] (by decide +kernel) (by decide +kernel)
set_option maxRecDepth 20000 in
theorem gX5_numbers_X5_have : GoodIn wsX5_numbers (wsV RX5 58 RX5 yX5_have wsX5_have) := goodIn_app (goodIn_of _ (by decide +kernel)) ggX5_numbers_X5_have
set_option maxRecDepth 20000 in
theorem ggX5_numbers_X5_fail : GoodIn wsX5_numbers wsX5_fail := goodIn_r _ [11, 12, 13, 14, 15, 16, 17, 18, 19, 20, 21, 22, 23, 24, 25, 26, 27, 28, 29, 30, 31, 32, 33] (by decide +kernel) (by decide +kernel)
set_option maxRecDepth 20000 in
theorem gX5_numbers_X5_fail : GoodIn wsX5_numbers (wsV RX5 54 RX5 yX5_fail wsX5_fail) := goodIn_app (goodIn_of _ (by decide +kernel)) ggX5_numbers_X5_fail
theorem dX5_numbers_0 : decode cX5_numbers 0 = .ok (.aload_n 0, 1) := by decide +kernel
theorem dX5_numbers_1 : decode cX5_numbers 1 = .ok (.iload_n 1, 1) := by decide +kernel
theorem dX5_numbers_2 : decode cX5_numbers 2 = .ok (.invokevirtual 58, 3) := by decide +kernel
theorem dX5_numbers_5 : decode cX5_numbers 5 = .ok (.ifCond .ne 5, 3) := by decide +kernel
theorem dX5_numbers_8 : decode cX5_numbers 8 = .ok (.iconst 0, 1) := by decide +kernel
theorem dX5_numbers_9 : decode cX5_numbers 9 = .ok (.ireturn, 1) := by decide +kernel
theorem dX5_numbers_10 : decode cX5_numbers 10 = .ok (.iconst 1, 1) := by decide +kernel
theorem dX5_numbers_11 : decode cX5_numbers 11 = .ok (.istore_n 2, 1) := by decide +kernel
theorem dX5_numbers_12 : decode cX5_numbers 12 = .ok (.iload_n 2, 1) := by decide +kernel
theorem dX5_numbers_13 : decode cX5_numbers 13 = .ok (.iload_n 1, 1) := by decide +kernel
theorem dX5_numbers_14 : decode cX5_numbers 14 = .ok (.if_icmp .gt 29, 3) := by decide +kernel
theorem dX5_numbers_17 : decode cX5_numbers 17 = .ok (.aload_n 0, 1) := by decide +kernel
theorem dX5_numbers_18 : decode cX5_numbers 18 = .ok (.getfield 17, 3) := by decide +kernel
theorem dX5_numbers_21 : decode cX5_numbers 21 = .ok (.aload_n 0, 1) := by decide +kernel
theorem dX5_numbers_22 : decode cX5_numbers 22 = .ok (.getfield 51, 3) := by decide +kernel
theorem dX5_numbers_25 : decode cX5_numbers 25 = .ok (.iload_n 2, 1) := by decide +kernel
theorem dX5_numbers_26 : decode cX5_numbers 26 = .ok (.isub, 1) := by decide +kernel
theorem dX5_numbers_27 : decode cX5_numbers 27 = .ok (.iaload, 1) := by decide +kernel
theorem dX5_numbers_28 : decode cX5_numbers 28 = .ok (.ifCond .ge 9, 3) := by decide +kernel
theorem dX5_numbers_31 : decode cX5_numbers 31 = .ok (.aload_n 0, 1) := by decide +kernel
theorem dX5_numbers_32 : decode cX5_numbers 32 = .ok (.iconst 3, 1) := by decide +kernel
theorem dX5_numbers_33 : decode cX5_numbers 33 = .ok (.invokevirtual 54, 3) := by decide +kernel
theorem dX5_numbers_36 : decode cX5_numbers 36 = .ok (.ireturn, 1) := by decide +kernel
theorem dX5_numbers_37 : decode cX5_numbers 37 = .ok (.iinc 2 1, 3) := by decide +kernel
theorem dX5_numbers_40 : decode cX5_numbers 40 = .ok (.goto (-28), 3) := by decide +kernel
theorem dX5_numbers_43 : decode cX5_numbers 43 = .ok (.iconst 1, 1) := by decide +kernel
theorem dX5_numbers_44 : decode cX5_numbers 44 = .ok (.ireturn, 1) := by decide +kernel
set_option maxRecDepth 20000 in
theorem ggX5_room_X5_fail : GoodIn wsX5_room wsX5_fail := goodIn_r _ [6, 7, 8, 9, 10, 11, 12, 13, 14, 15, 16, 17, 18, 19, 20, 21, 22, 23, 24, 25, 26, 27, 28] (by decide +kernel) (by decide +kernel)
set_option maxRecDepth 20000 in
theorem gX5_room_X5_fail : GoodIn wsX5_room (wsV RX5 54 RX5 yX5_fail wsX5_fail) := goodIn_app (goodIn_of _ (by decide +kernel)) ggX5_room_X5_fail
theorem dX5_room_0 : decode cX5_room 0 = .ok (.aload_n 0, 1) := by decide +kernel
theorem dX5_room_1 : decode cX5_room 1 = .ok (.getfield 51, 3) := by decide +kernel
theorem dX5_room_4 : decode cX5_room 4 = .ok (.bipush 40, 2) := by decide +kernel
theorem dX5_room_6 : decode cX5_room 6 = .ok (.if_icmp .lt 11, 3) := by decide +kernel
theorem dX5_room_9 : decode cX5_room 9 = .ok (.aload_n 0, 1) := by decide +kernel
theorem dX5_room_10 : decode cX5_room 10 = .ok (.iconst 5, 1) := by decide +kernel
theorem dX5_room_11 : decode cX5_room 11 = .ok (.invokevirtual 54, 3) := by decide +kernel
theorem dX5_room_14 : decode cX5_room 14 = .ok (.ifCond .eq 7, 3) := by decide +kernel
theorem dX5_room_17 : decode cX5_room 17 = .ok (.iconst 1, 1) := by decide +kernel
theorem dX5_room_18 : decode cX5_room 18 = .ok (.goto 4, 3) := by decide +kernel
theorem dX5_room_21 : decode cX5_room 21 = .ok (.iconst 0, 1) := by decide +kernel
theorem dX5_room_22 : decode cX5_room 22 = .ok (.ireturn, 1) := by decide +kernel
theorem dX5_put_0 : decode cX5_put 0 = .ok (.aload_n 0, 1) := by decide +kernel
theorem dX5_put_1 : decode cX5_put 1 = .ok (.dup, 1) := by decide +kernel
theorem dX5_put_2 : decode cX5_put 2 = .ok (.getfield 51, 3) := by decide +kernel
theorem dX5_put_5 : decode cX5_put 5 = .ok (.iload_n 1, 1) := by decide +kernel
theorem dX5_put_6 : decode cX5_put 6 = .ok (.isub, 1) := by decide +kernel
theorem dX5_put_7 : decode cX5_put 7 = .ok (.putfield 51, 3) := by decide +kernel
theorem dX5_put_10 : decode cX5_put 10 = .ok (.aload_n 0, 1) := by decide +kernel
theorem dX5_put_11 : decode cX5_put 11 = .ok (.getfield 13, 3) := by decide +kernel
theorem dX5_put_14 : decode cX5_put 14 = .ok (.aload_n 0, 1) := by decide +kernel
theorem dX5_put_15 : decode cX5_put 15 = .ok (.getfield 51, 3) := by decide +kernel
theorem dX5_put_18 : decode cX5_put 18 = .ok (.lload_n 2, 1) := by decide +kernel
theorem dX5_put_19 : decode cX5_put 19 = .ok (.lastore, 1) := by decide +kernel
theorem dX5_put_20 : decode cX5_put 20 = .ok (.aload_n 0, 1) := by decide +kernel
theorem dX5_put_21 : decode cX5_put 21 = .ok (.getfield 17, 3) := by decide +kernel
theorem dX5_put_24 : decode cX5_put 24 = .ok (.aload_n 0, 1) := by decide +kernel
theorem dX5_put_25 : decode cX5_put 25 = .ok (.getfield 51, 3) := by decide +kernel
theorem dX5_put_28 : decode cX5_put 28 = .ok (.iload 4, 2) := by decide +kernel
theorem dX5_put_30 : decode cX5_put 30 = .ok (.iastore, 1) := by decide +kernel
theorem dX5_put_31 : decode cX5_put 31 = .ok (.aload_n 0, 1) := by decide +kernel
theorem dX5_put_32 : decode cX5_put 32 = .ok (.dup, 1) := by decide +kernel
theorem dX5_put_33 : decode cX5_put 33 = .ok (.getfield 51, 3) := by decide +kernel
theorem dX5_put_36 : decode cX5_put 36 = .ok (.iconst 1, 1) := by decide +kernel
theorem dX5_put_37 : decode cX5_put 37 = .ok (.iadd, 1) := by decide +kernel
theorem dX5_put_38 : decode cX5_put 38 = .ok (.putfield 51, 3) := by decide +kernel
theorem dX5_put_41 : decode cX5_put 41 = .ok (.return_, 1) := by decide +kernel
theorem dX5_register_0 : decode cX5_register 0 = .ok (.iload_n 0, 1) := by decide +kernel
theorem dX5_register_1 : decode cX5_register 1 = .ok (.bipush 97, 2) := by decide +kernel
theorem dX5_register_3 : decode cX5_register 3 = .ok (.isub, 1) := by decide +kernel
theorem dX5_register_4 : decode cX5_register 4 = .ok (.ireturn, 1) := by decide +kernel
theorem dX5_topOf_0 : decode cX5_topOf 0 = .ok (.bipush 40, 2) := by decide +kernel
theorem dX5_topOf_2 : decode cX5_topOf 2 = .ok (.bipush 10, 2) := by decide +kernel
theorem dX5_topOf_4 : decode cX5_topOf 4 = .ok (.iload_n 1, 1) := by decide +kernel
theorem dX5_topOf_5 : decode cX5_topOf 5 = .ok (.imul, 1) := by decide +kernel
theorem dX5_topOf_6 : decode cX5_topOf 6 = .ok (.iadd, 1) := by decide +kernel
theorem dX5_topOf_7 : decode cX5_topOf 7 = .ok (.aload_n 0, 1) := by decide +kernel
theorem dX5_topOf_8 : decode cX5_topOf 8 = .ok (.getfield 23, 3) := by decide +kernel
theorem dX5_topOf_11 : decode cX5_topOf 11 = .ok (.iload_n 1, 1) := by decide +kernel
theorem dX5_topOf_12 : decode cX5_topOf 12 = .ok (.iaload, 1) := by decide +kernel
theorem dX5_topOf_13 : decode cX5_topOf 13 = .ok (.iadd, 1) := by decide +kernel
theorem dX5_topOf_14 : decode cX5_topOf 14 = .ok (.iconst 1, 1) := by decide +kernel
theorem dX5_topOf_15 : decode cX5_topOf 15 = .ok (.isub, 1) := by decide +kernel
theorem dX5_topOf_16 : decode cX5_topOf 16 = .ok (.ireturn, 1) := by decide +kernel
theorem dX5_isBig_0 : decode cX5_isBig 0 = .ok (.lload_n 0, 1) := by decide +kernel
theorem dX5_isBig_1 : decode cX5_isBig 1 = .ok (.ldc2_w 61, 3) := by decide +kernel
theorem dX5_isBig_4 : decode cX5_isBig 4 = .ok (.lcmp, 1) := by decide +kernel
theorem dX5_isBig_5 : decode cX5_isBig 5 = .ok (.ifCond .gt 11, 3) := by decide +kernel
theorem dX5_isBig_8 : decode cX5_isBig 8 = .ok (.lload_n 0, 1) := by decide +kernel
theorem dX5_isBig_9 : decode cX5_isBig 9 = .ok (.ldc2_w 63, 3) := by decide +kernel
theorem dX5_isBig_12 : decode cX5_isBig 12 = .ok (.lcmp, 1) := by decide +kernel
theorem dX5_isBig_13 : decode cX5_isBig 13 = .ok (.ifCond .ge 7, 3) := by decide +kernel
theorem dX5_isBig_16 : decode cX5_isBig 16 = .ok (.iconst 1, 1) := by decide +kernel
theorem dX5_isBig_17 : decode cX5_isBig 17 = .ok (.goto 4, 3) := by decide +kernel
theorem dX5_isBig_20 : decode cX5_isBig 20 = .ok (.iconst 0, 1) := by decide +kernel
theorem dX5_isBig_21 : decode cX5_isBig 21 = .ok (.ireturn, 1) := by decide +kernel
theorem dX5_raised_0 : decode cX5_raised 0 = .ok (.lload_n 1, 1) := by decide +kernel
theorem dX5_raised_1 : decode cX5_raised 1 = .ok (.lstore 4, 2) := by decide +kernel
theorem dX5_raised_3 : decode cX5_raised 3 = .ok (.iconst 0, 1) := by decide +kernel
theorem dX5_raised_4 : decode cX5_raised 4 = .ok (.istore 6, 2) := by decide +kernel
theorem dX5_raised_6 : decode cX5_raised 6 = .ok (.iload 6, 2) := by decide +kernel
theorem dX5_raised_8 : decode cX5_raised 8 = .ok (.iload_n 3, 1) := by decide +kernel
theorem dX5_raised_9 : decode cX5_raised 9 = .ok (.if_icmp .ge 50, 3) := by decide +kernel
theorem dX5_raised_12 : decode cX5_raised 12 = .ok (.aload_n 0, 1) := by decide +kernel
theorem dX5_raised_13 : decode cX5_raised 13 = .ok (.getfield 48, 3) := by decide +kernel
theorem dX5_raised_16 : decode cX5_raised 16 = .ok (.ifCond .ne 43, 3) := by decide +kernel
theorem dX5_raised_19 : decode cX5_raised 19 = .ok (.lload 4, 2) := by decide +kernel
theorem dX5_raised_21 : decode cX5_raised 21 = .ok (.ldc2_w 65, 3) := by decide +kernel
theorem dX5_raised_24 : decode cX5_raised 24 = .ok (.lcmp, 1) := by decide +kernel
theorem dX5_raised_25 : decode cX5_raised 25 = .ok (.ifCond .gt 12, 3) := by decide +kernel
theorem dX5_raised_28 : decode cX5_raised 28 = .ok (.lload 4, 2) := by decide +kernel
theorem dX5_raised_30 : decode cX5_raised 30 = .ok (.ldc2_w 67, 3) := by decide +kernel
theorem dX5_raised_33 : decode cX5_raised 33 = .ok (.lcmp, 1) := by decide +kernel
theorem dX5_raised_34 : decode cX5_raised 34 = .ok (.ifCond .ge 11, 3) := by decide +kernel
theorem dX5_raised_37 : decode cX5_raised 37 = .ok (.aload_n 0, 1) := by decide +kernel
theorem dX5_raised_38 : decode cX5_raised 38 = .ok (.iconst 5, 1) := by decide +kernel
theorem dX5_raised_39 : decode cX5_raised 39 = .ok (.putfield 48, 3) := by decide +kernel
theorem dX5_raised_42 : decode cX5_raised 42 = .ok (.goto 11, 3) := by decide +kernel
theorem dX5_raised_45 : decode cX5_raised 45 = .ok (.lload 4, 2) := by decide +kernel
theorem dX5_raised_47 : decode cX5_raised 47 = .ok (.ldc2_w 69, 3) := by decide +kernel
theorem dX5_raised_50 : decode cX5_raised 50 = .ok (.lmul, 1) := by decide +kernel
theorem dX5_raised_51 : decode cX5_raised 51 = .ok (.lstore 4, 2) := by decide +kernel
theorem dX5_raised_53 : decode cX5_raised 53 = .ok (.iinc 6 1, 3) := by decide +kernel
theorem dX5_raised_56 : decode cX5_raised 56 = .ok (.goto (-50), 3) := by decide +kernel
theorem dX5_raised_59 : decode cX5_raised 59 = .ok (.lload 4, 2) := by decide +kernel
theorem dX5_raised_61 : decode cX5_raised 61 = .ok (.lreturn, 1) := by decide +kernel
theorem dX5_cut_0 : decode cX5_cut 0 = .ok (.lload_n 0, 1) := by decide +kernel
theorem dX5_cut_1 : decode cX5_cut 1 = .ok (.lstore_n 3, 1) := by decide +kernel
theorem dX5_cut_2 : decode cX5_cut 2 = .ok (.iconst 0, 1) := by decide +kernel
theorem dX5_cut_3 : decode cX5_cut 3 = .ok (.istore 5, 2) := by decide +kernel
theorem dX5_cut_5 : decode cX5_cut 5 = .ok (.iload 5, 2) := by decide +kernel
theorem dX5_cut_7 : decode cX5_cut 7 = .ok (.iload_n 2, 1) := by decide +kernel
theorem dX5_cut_8 : decode cX5_cut 8 = .ok (.if_icmp .ge 15, 3) := by decide +kernel
theorem dX5_cut_11 : decode cX5_cut 11 = .ok (.lload_n 3, 1) := by decide +kernel
theorem dX5_cut_12 : decode cX5_cut 12 = .ok (.ldc2_w 69, 3) := by decide +kernel
theorem dX5_cut_15 : decode cX5_cut 15 = .ok (.ldiv, 1) := by decide +kernel
theorem dX5_cut_16 : decode cX5_cut 16 = .ok (.lstore_n 3, 1) := by decide +kernel
theorem dX5_cut_17 : decode cX5_cut 17 = .ok (.iinc 5 1, 3) := by decide +kernel
theorem dX5_cut_20 : decode cX5_cut 20 = .ok (.goto (-15), 3) := by decide +kernel
theorem dX5_cut_23 : decode cX5_cut 23 = .ok (.lload_n 3, 1) := by decide +kernel
theorem dX5_cut_24 : decode cX5_cut 24 = .ok (.lreturn, 1) := by decide +kernel
theorem dX5_product_0 : decode cX5_product 0 = .ok (.lload_n 1, 1) := by decide +kernel
theorem dX5_product_1 : decode cX5_product 1 = .ok (.lconst 0, 1) := by decide +kernel
theorem dX5_product_2 : decode cX5_product 2 = .ok (.lcmp, 1) := by decide +kernel
theorem dX5_product_3 : decode cX5_product 3 = .ok (.ifCond .ge 8, 3) := by decide +kernel
theorem dX5_product_6 : decode cX5_product 6 = .ok (.lload_n 1, 1) := by decide +kernel
theorem dX5_product_7 : decode cX5_product 7 = .ok (.lneg, 1) := by decide +kernel
theorem dX5_product_8 : decode cX5_product 8 = .ok (.goto 4, 3) := by decide +kernel
theorem dX5_product_11 : decode cX5_product 11 = .ok (.lload_n 1, 1) := by decide +kernel
theorem dX5_product_12 : decode cX5_product 12 = .ok (.lstore 5, 2) := by decide +kernel
theorem dX5_product_14 : decode cX5_product 14 = .ok (.lload_n 3, 1) := by decide +kernel
theorem dX5_product_15 : decode cX5_product 15 = .ok (.lconst 0, 1) := by decide +kernel
theorem dX5_product_16 : decode cX5_product 16 = .ok (.lcmp, 1) := by decide +kernel
theorem dX5_product_17 : decode cX5_product 17 = .ok (.ifCond .ge 8, 3) := by decide +kernel
theorem dX5_product_20 : decode cX5_product 20 = .ok (.lload_n 3, 1) := by decide +kernel
theorem dX5_product_21 : decode cX5_product 21 = .ok (.lneg, 1) := by decide +kernel
theorem dX5_product_22 : decode cX5_product 22 = .ok (.goto 4, 3) := by decide +kernel
theorem dX5_product_25 : decode cX5_product 25 = .ok (.lload_n 3, 1) := by decide +kernel
theorem dX5_product_26 : decode cX5_product 26 = .ok (.lstore 7, 2) := by decide +kernel
theorem dX5_product_28 : decode cX5_product 28 = .ok (.lload 5, 2) := by decide +kernel
theorem dX5_product_30 : decode cX5_product 30 = .ok (.lconst 0, 1) := by decide +kernel
theorem dX5_product_31 : decode cX5_product 31 = .ok (.lcmp, 1) := by decide +kernel
theorem dX5_product_32 : decode cX5_product 32 = .ok (.ifCond .le 22, 3) := by decide +kernel
theorem dX5_product_35 : decode cX5_product 35 = .ok (.lload 7, 2) := by decide +kernel
theorem dX5_product_37 : decode cX5_product 37 = .ok (.ldc2_w 61, 3) := by decide +kernel
theorem dX5_product_40 : decode cX5_product 40 = .ok (.lload 5, 2) := by decide +kernel
theorem dX5_product_42 : decode cX5_product 42 = .ok (.ldiv, 1) := by decide +kernel
theorem dX5_product_43 : decode cX5_product 43 = .ok (.lcmp, 1) := by decide +kernel
theorem dX5_product_44 : decode cX5_product 44 = .ok (.ifCond .le 10, 3) := by decide +kernel
theorem dX5_product_47 : decode cX5_product 47 = .ok (.aload_n 0, 1) := by decide +kernel
theorem dX5_product_48 : decode cX5_product 48 = .ok (.iconst 5, 1) := by decide +kernel
theorem dX5_product_49 : decode cX5_product 49 = .ok (.putfield 48, 3) := by decide +kernel
theorem dX5_product_52 : decode cX5_product 52 = .ok (.lconst 0, 1) := by decide +kernel
theorem dX5_product_53 : decode cX5_product 53 = .ok (.lreturn, 1) := by decide +kernel
theorem dX5_product_54 : decode cX5_product 54 = .ok (.lload_n 1, 1) := by decide +kernel
theorem dX5_product_55 : decode cX5_product 55 = .ok (.lload_n 3, 1) := by decide +kernel
theorem dX5_product_56 : decode cX5_product 56 = .ok (.lmul, 1) := by decide +kernel
theorem dX5_product_57 : decode cX5_product 57 = .ok (.lreturn, 1) := by decide +kernel
theorem dX5_greater_0 : decode cX5_greater 0 = .ok (.iload_n 0, 1) := by decide +kernel
theorem dX5_greater_1 : decode cX5_greater 1 = .ok (.iload_n 1, 1) := by decide +kernel
theorem dX5_greater_2 : decode cX5_greater 2 = .ok (.if_icmp .le 7, 3) := by decide +kernel
theorem dX5_greater_5 : decode cX5_greater 5 = .ok (.iload_n 0, 1) := by decide +kernel
theorem dX5_greater_6 : decode cX5_greater 6 = .ok (.goto 4, 3) := by decide +kernel
theorem dX5_greater_9 : decode cX5_greater 9 = .ok (.iload_n 1, 1) := by decide +kernel
theorem dX5_greater_10 : decode cX5_greater 10 = .ok (.ireturn, 1) := by decide +kernel
set_option maxRecDepth 20000 in
theorem ggX5_sum_X5_numbers : GoodIn wsX5_sum wsX5_numbers := goodIn_r _ [11, 1, 2, 12, 13, 14, 10, 15, 16, 17, 18, 19, 5, 35, 36, 37, 38, 39, 40, 41, 42, 43, 44, 45, 46, 47, 48, 49, 50, 51, 52, 53, 54, 55] (by decide +kernel) (by decide +kernel)
set_option maxRecDepth 20000 in
theorem gX5_sum_X5_numbers : GoodIn wsX5_sum (wsV RX5 71 RX5 yX5_numbers wsX5_numbers) := goodIn_app (goodIn_of _ (by decide +kernel)) ggX5_sum_X5_numbers
set_option maxRecDepth 20000 in
theorem ggX5_sum_X5_greater : GoodIn wsX5_sum wsX5_greater := goodIn_r _ [22] (by decide +kernel) (by decide +kernel)
set_option maxRecDepth 20000 in
theorem gX5_sum_X5_greater : GoodIn wsX5_sum (va_wsS RX5 74 yX5_greater wsX5_greater) := goodIn_app (goodIn_of _ (by decide +kernel)) ggX5_sum_X5_greater
set_option maxRecDepth 20000 in
theorem ggX5_sum_X5_raised : GoodIn wsX5_sum wsX5_raised := goodIn_r _ [26, 5, 27, 28, 29, 35, 36, 37, 38, 39, 40, 41, 42, 43, 44, 45, 46, 47, 48, 49, 50, 51, 52, 53, 54, 55] (by decide +kernel) (by decide +kernel)
set_option maxRecDepth 20000 in
theorem gX5_sum_X5_raised : GoodIn wsX5_sum (wsV RX5 81 RX5 yX5_raised wsX5_raised) := goodIn_app (goodIn_of _ (by decide +kernel)) ggX5_sum_X5_raised
set_option maxRecDepth 20000 in
theorem ggX5_sum_X5_isBig : GoodIn wsX5_sum wsX5_isBig := goodIn_r _ [32, 33, 34] (by decide +kernel) (by decide +kernel)
set_option maxRecDepth 20000 in
theorem gX5_sum_X5_isBig : GoodIn wsX5_sum (va_wsS RX5 89 yX5_isBig wsX5_isBig) := goodIn_app (goodIn_of _ (by decide +kernel)) ggX5_sum_X5_isBig
set_option maxRecDepth 20000 in
theorem ggX5_sum_X5_fail : GoodIn wsX5_sum wsX5_fail := goodIn_r _ [19, 5, 35, 36, 37, 38, 39, 40, 41, 42, 43, 44, 45, 46, 47, 48, 49, 50, 51, 52, 53, 54, 55] (by decide +kernel) (by decide +kernel)
set_option maxRecDepth 20000 in
theorem gX5_sum_X5_fail : GoodIn wsX5_sum (wsV RX5 54 RX5 yX5_fail wsX5_fail) := goodIn_app (goodIn_of _ (by decide +kernel)) ggX5_sum_X5_fail
theorem dX5_sum_0 : decode cX5_sum 0 = .ok (.aload_n 0, 1) := by decide +kernel
theorem dX5_sum_1 : decode cX5_sum 1 = .ok (.iconst 2, 1) := by decide +kernel
theorem dX5_sum_2 : decode cX5_sum 2 = .ok (.invokevirtual 71, 3) := by decide +kernel
theorem dX5_sum_5 : decode cX5_sum 5 = .ok (.ifCond .ne 5, 3) := by decide +kernel
theorem dX5_sum_8 : decode cX5_sum 8 = .ok (.iconst 0, 1) := by decide +kernel
theorem dX5_sum_9 : decode cX5_sum 9 = .ok (.ireturn, 1) := by decide +kernel
theorem dX5_sum_10 : decode cX5_sum 10 = .ok (.aload_n 0, 1) := by decide +kernel
theorem dX5_sum_11 : decode cX5_sum 11 = .ok (.aload_n 0, 1) := by decide +kernel
theorem dX5_sum_12 : decode cX5_sum 12 = .ok (.getfield 17, 3) := by decide +kernel
theorem dX5_sum_15 : decode cX5_sum 15 = .ok (.aload_n 0, 1) := by decide +kernel
theorem dX5_sum_16 : decode cX5_sum 16 = .ok (.getfield 51, 3) := by decide +kernel
theorem dX5_sum_19 : decode cX5_sum 19 = .ok (.iconst 1, 1) := by decide +kernel
theorem dX5_sum_20 : decode cX5_sum 20 = .ok (.isub, 1) := by decide +kernel
theorem dX5_sum_21 : decode cX5_sum 21 = .ok (.iaload, 1) := by decide +kernel
theorem dX5_sum_22 : decode cX5_sum 22 = .ok (.aload_n 0, 1) := by decide +kernel
theorem dX5_sum_23 : decode cX5_sum 23 = .ok (.getfield 17, 3) := by decide +kernel
theorem dX5_sum_26 : decode cX5_sum 26 = .ok (.aload_n 0, 1) := by decide +kernel
theorem dX5_sum_27 : decode cX5_sum 27 = .ok (.getfield 51, 3) := by decide +kernel
theorem dX5_sum_30 : decode cX5_sum 30 = .ok (.iconst 2, 1) := by decide +kernel
theorem dX5_sum_31 : decode cX5_sum 31 = .ok (.isub, 1) := by decide +kernel
theorem dX5_sum_32 : decode cX5_sum 32 = .ok (.iaload, 1) := by decide +kernel
theorem dX5_sum_33 : decode cX5_sum 33 = .ok (.invokestatic 74, 3) := by decide +kernel
theorem dX5_sum_36 : decode cX5_sum 36 = .ok (.putfield 78, 3) := by decide +kernel
theorem dX5_sum_39 : decode cX5_sum 39 = .ok (.aload_n 0, 1) := by decide +kernel
theorem dX5_sum_40 : decode cX5_sum 40 = .ok (.aload_n 0, 1) := by decide +kernel
theorem dX5_sum_41 : decode cX5_sum 41 = .ok (.getfield 13, 3) := by decide +kernel
theorem dX5_sum_44 : decode cX5_sum 44 = .ok (.aload_n 0, 1) := by decide +kernel
theorem dX5_sum_45 : decode cX5_sum 45 = .ok (.getfield 51, 3) := by decide +kernel
theorem dX5_sum_48 : decode cX5_sum 48 = .ok (.iconst 2, 1) := by decide +kernel
theorem dX5_sum_49 : decode cX5_sum 49 = .ok (.isub, 1) := by decide +kernel
theorem dX5_sum_50 : decode cX5_sum 50 = .ok (.laload, 1) := by decide +kernel
theorem dX5_sum_51 : decode cX5_sum 51 = .ok (.aload_n 0, 1) := by decide +kernel
theorem dX5_sum_52 : decode cX5_sum 52 = .ok (.getfield 78, 3) := by decide +kernel
theorem dX5_sum_55 : decode cX5_sum 55 = .ok (.aload_n 0, 1) := by decide +kernel
theorem dX5_sum_56 : decode cX5_sum 56 = .ok (.getfield 17, 3) := by decide +kernel
theorem dX5_sum_59 : decode cX5_sum 59 = .ok (.aload_n 0, 1) := by decide +kernel
theorem dX5_sum_60 : decode cX5_sum 60 = .ok (.getfield 51, 3) := by decide +kernel
theorem dX5_sum_63 : decode cX5_sum 63 = .ok (.iconst 2, 1) := by decide +kernel
theorem dX5_sum_64 : decode cX5_sum 64 = .ok (.isub, 1) := by decide +kernel
theorem dX5_sum_65 : decode cX5_sum 65 = .ok (.iaload, 1) := by decide +kernel
theorem dX5_sum_66 : decode cX5_sum 66 = .ok (.isub, 1) := by decide +kernel
theorem dX5_sum_67 : decode cX5_sum 67 = .ok (.invokevirtual 81, 3) := by decide +kernel
theorem dX5_sum_70 : decode cX5_sum 70 = .ok (.lstore_n 2, 1) := by decide +kernel
theorem dX5_sum_71 : decode cX5_sum 71 = .ok (.aload_n 0, 1) := by decide +kernel
theorem dX5_sum_72 : decode cX5_sum 72 = .ok (.aload_n 0, 1) := by decide +kernel
theorem dX5_sum_73 : decode cX5_sum 73 = .ok (.getfield 13, 3) := by decide +kernel

set_option maxRecDepth 20000 in
theorem ggX0_reduce_J9_floorMod_f86c9 : GoodIn wsX0_reduce wsJ9_floorMod_f86c9 := goodIn_r _ [5] (by decide +kernel) (by decide +kernel)
set_option maxRecDepth 20000 in
theorem gX0_reduce_J9_floorMod_f86c9 : GoodIn wsX0_reduce (va_wsS RX0 11 yJ9_floorMod_f86c9 wsJ9_floorMod_f86c9) := goodIn_app (goodIn_of _ (by decide +kernel)) ggX0_reduce_J9_floorMod_f86c9
theorem dX0_reduce_0 : decode cX0_reduce 0 = .ok (.lload_n 0, 1) := by decide +kernel
theorem dX0_reduce_1 : decode cX0_reduce 1 = .ok (.ldc2_w 9, 3) := by decide +kernel
theorem dX0_reduce_4 : decode cX0_reduce 4 = .ok (.invokestatic 11, 3) := by decide +kernel
theorem dX0_reduce_7 : decode cX0_reduce 7 = .ok (.lreturn, 1) := by decide +kernel
theorem dX0_sum_0 : decode cX0_sum 0 = .ok (.lload_n 0, 1) := by decide +kernel
theorem dX0_sum_1 : decode cX0_sum 1 = .ok (.lload_n 2, 1) := by decide +kernel
theorem dX0_sum_2 : decode cX0_sum 2 = .ok (.ladd, 1) := by decide +kernel
theorem dX0_sum_3 : decode cX0_sum 3 = .ok (.ldc2_w 9, 3) := by decide +kernel
theorem dX0_sum_6 : decode cX0_sum 6 = .ok (.lrem, 1) := by decide +kernel
theorem dX0_sum_7 : decode cX0_sum 7 = .ok (.lreturn, 1) := by decide +kernel
theorem dX0_difference_0 : decode cX0_difference 0 = .ok (.lload_n 0, 1) := by decide +kernel
theorem dX0_difference_1 : decode cX0_difference 1 = .ok (.lload_n 2, 1) := by decide +kernel
theorem dX0_difference_2 : decode cX0_difference 2 = .ok (.lsub, 1) := by decide +kernel
theorem dX0_difference_3 : decode cX0_difference 3 = .ok (.ldc2_w 9, 3) := by decide +kernel
theorem dX0_difference_6 : decode cX0_difference 6 = .ok (.ladd, 1) := by decide +kernel
theorem dX0_difference_7 : decode cX0_difference 7 = .ok (.ldc2_w 9, 3) := by decide +kernel
theorem dX0_difference_10 : decode cX0_difference 10 = .ok (.lrem, 1) := by decide +kernel
theorem dX0_difference_11 : decode cX0_difference 11 = .ok (.lreturn, 1) := by decide +kernel
set_option maxRecDepth 20000 in
theorem ggX0_product_X0_sum : GoodIn wsX0_product wsX0_sum := goodIn_r _ [8, 3] (by decide +kernel) (by decide +kernel)
set_option maxRecDepth 20000 in
theorem gX0_product_X0_sum : GoodIn wsX0_product (va_wsS RX0 23 yX0_sum wsX0_sum) := goodIn_app (goodIn_of _ (by decide +kernel)) ggX0_product_X0_sum
theorem dX0_product_0 : decode cX0_product 0 = .ok (.lload_n 0, 1) := by decide +kernel
theorem dX0_product_1 : decode cX0_product 1 = .ok (.bipush 31, 2) := by decide +kernel
theorem dX0_product_3 : decode cX0_product 3 = .ok (.lushr, 1) := by decide +kernel
theorem dX0_product_4 : decode cX0_product 4 = .ok (.lstore 4, 2) := by decide +kernel
theorem dX0_product_6 : decode cX0_product 6 = .ok (.lload_n 0, 1) := by decide +kernel
theorem dX0_product_7 : decode cX0_product 7 = .ok (.ldc2_w 17, 3) := by decide +kernel
theorem dX0_product_10 : decode cX0_product 10 = .ok (.land, 1) := by decide +kernel
theorem dX0_product_11 : decode cX0_product 11 = .ok (.lstore 6, 2) := by decide +kernel
theorem dX0_product_13 : decode cX0_product 13 = .ok (.lload_n 2, 1) := by decide +kernel
theorem dX0_product_14 : decode cX0_product 14 = .ok (.bipush 31, 2) := by decide +kernel
theorem dX0_product_16 : decode cX0_product 16 = .ok (.lushr, 1) := by decide +kernel
theorem dX0_product_17 : decode cX0_product 17 = .ok (.lstore 8, 2) := by decide +kernel
theorem dX0_product_19 : decode cX0_product 19 = .ok (.lload_n 2, 1) := by decide +kernel
theorem dX0_product_20 : decode cX0_product 20 = .ok (.ldc2_w 17, 3) := by decide +kernel
theorem dX0_product_23 : decode cX0_product 23 = .ok (.land, 1) := by decide +kernel
theorem dX0_product_24 : decode cX0_product 24 = .ok (.lstore 10, 2) := by decide +kernel
theorem dX0_product_26 : decode cX0_product 26 = .ok (.ldc2_w 19, 3) := by decide +kernel
theorem dX0_product_29 : decode cX0_product 29 = .ok (.lload 4, 2) := by decide +kernel
theorem dX0_product_31 : decode cX0_product 31 = .ok (.lload 8, 2) := by decide +kernel
theorem dX0_product_33 : decode cX0_product 33 = .ok (.lmul, 1) := by decide +kernel
theorem dX0_product_34 : decode cX0_product 34 = .ok (.lmul, 1) := by decide +kernel
theorem dX0_product_35 : decode cX0_product 35 = .ok (.ldc2_w 9, 3) := by decide +kernel
theorem dX0_product_38 : decode cX0_product 38 = .ok (.lrem, 1) := by decide +kernel
theorem dX0_product_39 : decode cX0_product 39 = .ok (.lstore 12, 2) := by decide +kernel
theorem dX0_product_41 : decode cX0_product 41 = .ok (.lload 4, 2) := by decide +kernel
theorem dX0_product_43 : decode cX0_product 43 = .ok (.lload 10, 2) := by decide +kernel
theorem dX0_product_45 : decode cX0_product 45 = .ok (.lmul, 1) := by decide +kernel
theorem dX0_product_46 : decode cX0_product 46 = .ok (.lload 6, 2) := by decide +kernel
theorem dX0_product_48 : decode cX0_product 48 = .ok (.lload 8, 2) := by decide +kernel
theorem dX0_product_50 : decode cX0_product 50 = .ok (.lmul, 1) := by decide +kernel
theorem dX0_product_51 : decode cX0_product 51 = .ok (.ladd, 1) := by decide +kernel
theorem dX0_product_52 : decode cX0_product 52 = .ok (.lstore 14, 2) := by decide +kernel
theorem dX0_product_54 : decode cX0_product 54 = .ok (.lload 14, 2) := by decide +kernel
theorem dX0_product_56 : decode cX0_product 56 = .ok (.bipush 30, 2) := by decide +kernel
theorem dX0_product_58 : decode cX0_product 58 = .ok (.lushr, 1) := by decide +kernel
theorem dX0_product_59 : decode cX0_product 59 = .ok (.lstore 16, 2) := by decide +kernel
theorem dX0_product_61 : decode cX0_product 61 = .ok (.lload 14, 2) := by decide +kernel
theorem dX0_product_63 : decode cX0_product 63 = .ok (.ldc2_w 21, 3) := by decide +kernel
theorem dX0_product_66 : decode cX0_product 66 = .ok (.land, 1) := by decide +kernel
theorem dX0_product_67 : decode cX0_product 67 = .ok (.bipush 31, 2) := by decide +kernel
theorem dX0_product_69 : decode cX0_product 69 = .ok (.lshl, 1) := by decide +kernel
theorem dX0_product_70 : decode cX0_product 70 = .ok (.ldc2_w 9, 3) := by decide +kernel
theorem dX0_product_73 : decode cX0_product 73 = .ok (.lrem, 1) := by decide +kernel
theorem dX0_product_74 : decode cX0_product 74 = .ok (.lstore 18, 2) := by decide +kernel
theorem dX0_product_76 : decode cX0_product 76 = .ok (.lload 6, 2) := by decide +kernel
theorem dX0_product_78 : decode cX0_product 78 = .ok (.lload 10, 2) := by decide +kernel
theorem dX0_product_80 : decode cX0_product 80 = .ok (.lmul, 1) := by decide +kernel
theorem dX0_product_81 : decode cX0_product 81 = .ok (.ldc2_w 9, 3) := by decide +kernel
theorem dX0_product_84 : decode cX0_product 84 = .ok (.lrem, 1) := by decide +kernel
theorem dX0_product_85 : decode cX0_product 85 = .ok (.lstore 20, 2) := by decide +kernel
theorem dX0_product_87 : decode cX0_product 87 = .ok (.lload 12, 2) := by decide +kernel
theorem dX0_product_89 : decode cX0_product 89 = .ok (.lload 18, 2) := by decide +kernel
theorem dX0_product_91 : decode cX0_product 91 = .ok (.invokestatic 23, 3) := by decide +kernel
theorem dX0_product_94 : decode cX0_product 94 = .ok (.lload 20, 2) := by decide +kernel
theorem dX0_product_96 : decode cX0_product 96 = .ok (.lload 16, 2) := by decide +kernel
theorem dX0_product_98 : decode cX0_product 98 = .ok (.invokestatic 23, 3) := by decide +kernel
theorem dX0_product_101 : decode cX0_product 101 = .ok (.invokestatic 23, 3) := by decide +kernel
theorem dX0_product_104 : decode cX0_product 104 = .ok (.lreturn, 1) := by decide +kernel
set_option maxRecDepth 20000 in
theorem ggX0_quotient_X0_product : GoodIn wsX0_quotient wsX0_product := goodIn_r _ [5, 6, 7, 8, 9, 10, 11, 4, 12] (by decide +kernel) (by decide +kernel)
set_option maxRecDepth 20000 in
theorem gX0_quotient_X0_product : GoodIn wsX0_quotient (va_wsS RX0 28 yX0_product wsX0_product) := goodIn_app (goodIn_of _ (by decide +kernel)) ggX0_quotient_X0_product
theorem dX0_quotient_0 : decode cX0_quotient 0 = .ok (.lload_n 0, 1) := by decide +kernel
theorem dX0_quotient_1 : decode cX0_quotient 1 = .ok (.lstore 4, 2) := by decide +kernel
theorem dX0_quotient_3 : decode cX0_quotient 3 = .ok (.lload_n 2, 1) := by decide +kernel
theorem dX0_quotient_4 : decode cX0_quotient 4 = .ok (.lstore 6, 2) := by decide +kernel
theorem dX0_quotient_6 : decode cX0_quotient 6 = .ok (.iconst 0, 1) := by decide +kernel
theorem dX0_quotient_7 : decode cX0_quotient 7 = .ok (.istore 8, 2) := by decide +kernel
theorem dX0_quotient_9 : decode cX0_quotient 9 = .ok (.iload 8, 2) := by decide +kernel
theorem dX0_quotient_11 : decode cX0_quotient 11 = .ok (.bipush 61, 2) := by decide +kernel
theorem dX0_quotient_13 : decode cX0_quotient 13 = .ok (.if_icmp .ge 40, 3) := by decide +kernel
theorem dX0_quotient_16 : decode cX0_quotient 16 = .ok (.ldc2_w 26, 3) := by decide +kernel
theorem dX0_quotient_19 : decode cX0_quotient 19 = .ok (.iload 8, 2) := by decide +kernel
theorem dX0_quotient_21 : decode cX0_quotient 21 = .ok (.lushr, 1) := by decide +kernel
theorem dX0_quotient_22 : decode cX0_quotient 22 = .ok (.lconst 1, 1) := by decide +kernel
theorem dX0_quotient_23 : decode cX0_quotient 23 = .ok (.land, 1) := by decide +kernel
theorem dX0_quotient_24 : decode cX0_quotient 24 = .ok (.lconst 0, 1) := by decide +kernel
theorem dX0_quotient_25 : decode cX0_quotient 25 = .ok (.lcmp, 1) := by decide +kernel
theorem dX0_quotient_26 : decode cX0_quotient 26 = .ok (.ifCond .eq 12, 3) := by decide +kernel
theorem dX0_quotient_29 : decode cX0_quotient 29 = .ok (.lload 4, 2) := by decide +kernel
theorem dX0_quotient_31 : decode cX0_quotient 31 = .ok (.lload 6, 2) := by decide +kernel
theorem dX0_quotient_33 : decode cX0_quotient 33 = .ok (.invokestatic 28, 3) := by decide +kernel
theorem dX0_quotient_36 : decode cX0_quotient 36 = .ok (.lstore 4, 2) := by decide +kernel
theorem dX0_quotient_38 : decode cX0_quotient 38 = .ok (.lload 6, 2) := by decide +kernel
theorem dX0_quotient_40 : decode cX0_quotient 40 = .ok (.lload 6, 2) := by decide +kernel
theorem dX0_quotient_42 : decode cX0_quotient 42 = .ok (.invokestatic 28, 3) := by decide +kernel
theorem dX0_quotient_45 : decode cX0_quotient 45 = .ok (.lstore 6, 2) := by decide +kernel
theorem dX0_quotient_47 : decode cX0_quotient 47 = .ok (.iinc 8 1, 3) := by decide +kernel
theorem dX0_quotient_50 : decode cX0_quotient 50 = .ok (.goto (-41), 3) := by decide +kernel
theorem dX0_quotient_53 : decode cX0_quotient 53 = .ok (.lload 4, 2) := by decide +kernel
theorem dX0_quotient_55 : decode cX0_quotient 55 = .ok (.lreturn, 1) := by decide +kernel
set_option maxRecDepth 20000 in
theorem ggX1_init_J7_fill_d0a16 : GoodIn wsX1_init wsJ7_fill_d0a16 := goodIn_r _ [10] (by decide +kernel) (by decide +kernel)
set_option maxRecDepth 20000 in
theorem gX1_init_J7_fill_d0a16 : GoodIn wsX1_init (va_wsS RX1 17 yJ7_fill_d0a16 wsJ7_fill_d0a16) := goodIn_app (goodIn_of _ (by decide +kernel)) ggX1_init_J7_fill_d0a16
theorem dX1_init_0 : decode cX1_init 0 = .ok (.aload_n 0, 1) := by decide +kernel
theorem dX1_init_1 : decode cX1_init 1 = .ok (.invokespecial 1, 3) := by decide +kernel
theorem dX1_init_4 : decode cX1_init 4 = .ok (.aload_n 0, 1) := by decide +kernel
theorem dX1_init_5 : decode cX1_init 5 = .ok (.sipush 320, 3) := by decide +kernel
theorem dX1_init_8 : decode cX1_init 8 = .ok (.newarray .long, 2) := by decide +kernel
theorem dX1_init_10 : decode cX1_init 10 = .ok (.putfield 9, 3) := by decide +kernel
theorem dX1_init_13 : decode cX1_init 13 = .ok (.aload_n 0, 1) := by decide +kernel
theorem dX1_init_14 : decode cX1_init 14 = .ok (.getfield 9, 3) := by decide +kernel
theorem dX1_init_17 : decode cX1_init 17 = .ok (.ldc2_w 15, 3) := by decide +kernel
theorem dX1_init_20 : decode cX1_init 20 = .ok (.invokestatic 17, 3) := by decide +kernel
theorem dX1_init_23 : decode cX1_init 23 = .ok (.return_, 1) := by decide +kernel
theorem dX1_isSegment_0 : decode cX1_isSegment 0 = .ok (.iload_n 0, 1) := by decide +kernel
theorem dX1_isSegment_1 : decode cX1_isSegment 1 = .ok (.iconst 1, 1) := by decide +kernel
theorem dX1_isSegment_2 : decode cX1_isSegment 2 = .ok (.if_icmp .lt 12, 3) := by decide +kernel
theorem dX1_isSegment_5 : decode cX1_isSegment 5 = .ok (.iload_n 0, 1) := by decide +kernel
theorem dX1_isSegment_6 : decode cX1_isSegment 6 = .ok (.iconst 5, 1) := by decide +kernel
theorem dX1_isSegment_7 : decode cX1_isSegment 7 = .ok (.if_icmp .gt 7, 3) := by decide +kernel
theorem dX1_isSegment_10 : decode cX1_isSegment 10 = .ok (.iconst 1, 1) := by decide +kernel
theorem dX1_isSegment_11 : decode cX1_isSegment 11 = .ok (.goto 4, 3) := by decide +kernel
theorem dX1_isSegment_14 : decode cX1_isSegment 14 = .ok (.iconst 0, 1) := by decide +kernel
theorem dX1_isSegment_15 : decode cX1_isSegment 15 = .ok (.ireturn, 1) := by decide +kernel
theorem dX1_isCell_0 : decode cX1_isCell 0 = .ok (.iload_n 0, 1) := by decide +kernel
theorem dX1_isCell_1 : decode cX1_isCell 1 = .ok (.ifCond .lt 13, 3) := by decide +kernel
theorem dX1_isCell_4 : decode cX1_isCell 4 = .ok (.iload_n 0, 1) := by decide +kernel
theorem dX1_isCell_5 : decode cX1_isCell 5 = .ok (.bipush 64, 2) := by decide +kernel
theorem dX1_isCell_7 : decode cX1_isCell 7 = .ok (.if_icmp .ge 7, 3) := by decide +kernel
theorem dX1_isCell_10 : decode cX1_isCell 10 = .ok (.iconst 1, 1) := by decide +kernel
theorem dX1_isCell_11 : decode cX1_isCell 11 = .ok (.goto 4, 3) := by decide +kernel
theorem dX1_isCell_14 : decode cX1_isCell 14 = .ok (.iconst 0, 1) := by decide +kernel
theorem dX1_isCell_15 : decode cX1_isCell 15 = .ok (.ireturn, 1) := by decide +kernel
set_option maxRecDepth 20000 in
theorem ggX1_look_X1_isSegment : GoodIn wsX1_look wsX1_isSegment := goodIn_r _ [6] (by decide +kernel) (by decide +kernel)
set_option maxRecDepth 20000 in
theorem gX1_look_X1_isSegment : GoodIn wsX1_look (va_wsS RX1 23 yX1_isSegment wsX1_isSegment) := goodIn_app (goodIn_of _ (by decide +kernel)) ggX1_look_X1_isSegment
set_option maxRecDepth 20000 in
theorem ggX1_look_X1_isCell : GoodIn wsX1_look wsX1_isCell := goodIn_r _ [9] (by decide +kernel) (by decide +kernel)
set_option maxRecDepth 20000 in
theorem gX1_look_X1_isCell : GoodIn wsX1_look (va_wsS RX1 27 yX1_isCell wsX1_isCell) := goodIn_app (goodIn_of _ (by decide +kernel)) ggX1_look_X1_isCell
set_option maxRecDepth 20000 in
theorem ggX1_look_X1_indexOf : GoodIn wsX1_look wsX1_indexOf := goodIn_r _ [12] (by decide +kernel) (by decide +kernel)
set_option maxRecDepth 20000 in
theorem gX1_look_X1_indexOf : GoodIn wsX1_look (va_wsS RX1 30 yX1_indexOf wsX1_indexOf) := goodIn_app (goodIn_of _ (by decide +kernel)) ggX1_look_X1_indexOf
theorem dX1_look_0 : decode cX1_look 0 = .ok (.iload_n 1, 1) := by decide +kernel
theorem dX1_look_1 : decode cX1_look 1 = .ok (.invokestatic 23, 3) := by decide +kernel
theorem dX1_look_4 : decode cX1_look 4 = .ok (.ifCond .eq 23, 3) := by decide +kernel
theorem dX1_look_7 : decode cX1_look 7 = .ok (.iload_n 2, 1) := by decide +kernel
theorem dX1_look_8 : decode cX1_look 8 = .ok (.invokestatic 27, 3) := by decide +kernel
theorem dX1_look_11 : decode cX1_look 11 = .ok (.ifCond .eq 16, 3) := by decide +kernel
theorem dX1_look_14 : decode cX1_look 14 = .ok (.aload_n 0, 1) := by decide +kernel
theorem dX1_look_15 : decode cX1_look 15 = .ok (.getfield 9, 3) := by decide +kernel
theorem dX1_look_18 : decode cX1_look 18 = .ok (.iload_n 1, 1) := by decide +kernel
theorem dX1_look_19 : decode cX1_look 19 = .ok (.iload_n 2, 1) := by decide +kernel
theorem dX1_look_20 : decode cX1_look 20 = .ok (.invokestatic 30, 3) := by decide +kernel
theorem dX1_look_23 : decode cX1_look 23 = .ok (.laload, 1) := by decide +kernel
theorem dX1_look_24 : decode cX1_look 24 = .ok (.goto 6, 3) := by decide +kernel
theorem dX1_look_27 : decode cX1_look 27 = .ok (.ldc2_w 15, 3) := by decide +kernel
theorem dX1_look_30 : decode cX1_look 30 = .ok (.lreturn, 1) := by decide +kernel
set_option maxRecDepth 20000 in
theorem ggX1_write_X1_isSegment : GoodIn wsX1_write wsX1_isSegment := goodIn_r _ [6] (by decide +kernel) (by decide +kernel)
set_option maxRecDepth 20000 in
theorem gX1_write_X1_isSegment : GoodIn wsX1_write (va_wsS RX1 23 yX1_isSegment wsX1_isSegment) := goodIn_app (goodIn_of _ (by decide +kernel)) ggX1_write_X1_isSegment
set_option maxRecDepth 20000 in
theorem ggX1_write_X1_isCell : GoodIn wsX1_write wsX1_isCell := goodIn_r _ [9] (by decide +kernel) (by decide +kernel)
set_option maxRecDepth 20000 in
theorem gX1_write_X1_isCell : GoodIn wsX1_write (va_wsS RX1 27 yX1_isCell wsX1_isCell) := goodIn_app (goodIn_of _ (by decide +kernel)) ggX1_write_X1_isCell
set_option maxRecDepth 20000 in
theorem ggX1_write_X1_indexOf : GoodIn wsX1_write wsX1_indexOf := goodIn_r _ [12] (by decide +kernel) (by decide +kernel)
set_option maxRecDepth 20000 in
theorem gX1_write_X1_indexOf : GoodIn wsX1_write (va_wsS RX1 30 yX1_indexOf wsX1_indexOf) := goodIn_app (goodIn_of _ (by decide +kernel)) ggX1_write_X1_indexOf
set_option maxRecDepth 20000 in
theorem ggX1_write_X1_takes : GoodIn wsX1_write wsX1_takes := goodIn_r _ [16, 17, 18, 1, 19, 20, 21, 22, 23, 24, 25, 26, 5, 27, 2, 3, 4, 6, 7, 8, 9, 10, 11, 12, 36] (by decide +kernel) (by decide +kernel)
set_option maxRecDepth 20000 in
theorem gX1_write_X1_takes : GoodIn wsX1_write (wsV RX1 34 RX1 yX1_takes wsX1_takes) := goodIn_app (goodIn_of _ (by decide +kernel)) ggX1_write_X1_takes
set_option maxRecDepth 20000 in
theorem ggX1_write_X1_completesGroup : GoodIn wsX1_write wsX1_completesGroup := goodIn_r _ [31, 2, 1, 10, 11, 5, 12, 32, 33, 34, 35, 36] (by decide +kernel) (by decide +kernel)
set_option maxRecDepth 20000 in
theorem gX1_write_X1_completesGroup : GoodIn wsX1_write (wsV RX1 38 RX1 yX1_completesGroup wsX1_completesGroup) := goodIn_app (goodIn_of _ (by decide +kernel)) ggX1_write_X1_completesGroup
theorem dX1_write_0 : decode cX1_write 0 = .ok (.iload_n 1, 1) := by decide +kernel
theorem dX1_write_1 : decode cX1_write 1 = .ok (.invokestatic 23, 3) := by decide +kernel
theorem dX1_write_4 : decode cX1_write 4 = .ok (.ifCond .eq 18, 3) := by decide +kernel
theorem dX1_write_7 : decode cX1_write 7 = .ok (.iload_n 2, 1) := by decide +kernel
theorem dX1_write_8 : decode cX1_write 8 = .ok (.invokestatic 27, 3) := by decide +kernel
theorem dX1_write_11 : decode cX1_write 11 = .ok (.ifCond .eq 11, 3) := by decide +kernel
theorem dX1_write_14 : decode cX1_write 14 = .ok (.lload_n 3, 1) := by decide +kernel
theorem dX1_write_15 : decode cX1_write 15 = .ok (.ldc2_w 15, 3) := by decide +kernel
theorem dX1_write_18 : decode cX1_write 18 = .ok (.lcmp, 1) := by decide +kernel
theorem dX1_write_19 : decode cX1_write 19 = .ok (.ifCond .ne 5, 3) := by decide +kernel
theorem dX1_write_22 : decode cX1_write 22 = .ok (.iconst 0, 1) := by decide +kernel
theorem dX1_write_23 : decode cX1_write 23 = .ok (.ireturn, 1) := by decide +kernel
theorem dX1_write_24 : decode cX1_write 24 = .ok (.iload_n 1, 1) := by decide +kernel
theorem dX1_write_25 : decode cX1_write 25 = .ok (.iload_n 2, 1) := by decide +kernel
theorem dX1_write_26 : decode cX1_write 26 = .ok (.invokestatic 30, 3) := by decide +kernel
theorem dX1_write_29 : decode cX1_write 29 = .ok (.istore 5, 2) := by decide +kernel
theorem dX1_write_31 : decode cX1_write 31 = .ok (.aload_n 0, 1) := by decide +kernel
theorem dX1_write_32 : decode cX1_write 32 = .ok (.getfield 9, 3) := by decide +kernel
theorem dX1_write_35 : decode cX1_write 35 = .ok (.iload 5, 2) := by decide +kernel
theorem dX1_write_37 : decode cX1_write 37 = .ok (.laload, 1) := by decide +kernel
theorem dX1_write_38 : decode cX1_write 38 = .ok (.ldc2_w 15, 3) := by decide +kernel
theorem dX1_write_41 : decode cX1_write 41 = .ok (.lcmp, 1) := by decide +kernel
theorem dX1_write_42 : decode cX1_write 42 = .ok (.ifCond .eq 21, 3) := by decide +kernel
theorem dX1_write_45 : decode cX1_write 45 = .ok (.aload_n 0, 1) := by decide +kernel
theorem dX1_write_46 : decode cX1_write 46 = .ok (.getfield 9, 3) := by decide +kernel
theorem dX1_write_49 : decode cX1_write 49 = .ok (.iload 5, 2) := by decide +kernel
theorem dX1_write_51 : decode cX1_write 51 = .ok (.laload, 1) := by decide +kernel
theorem dX1_write_52 : decode cX1_write 52 = .ok (.lload_n 3, 1) := by decide +kernel
theorem dX1_write_53 : decode cX1_write 53 = .ok (.lcmp, 1) := by decide +kernel
theorem dX1_write_54 : decode cX1_write 54 = .ok (.ifCond .ne 7, 3) := by decide +kernel
theorem dX1_write_57 : decode cX1_write 57 = .ok (.iconst 1, 1) := by decide +kernel
theorem dX1_write_58 : decode cX1_write 58 = .ok (.goto 4, 3) := by decide +kernel
theorem dX1_write_61 : decode cX1_write 61 = .ok (.iconst 0, 1) := by decide +kernel
theorem dX1_write_62 : decode cX1_write 62 = .ok (.ireturn, 1) := by decide +kernel
theorem dX1_write_63 : decode cX1_write 63 = .ok (.aload_n 0, 1) := by decide +kernel
theorem dX1_write_64 : decode cX1_write 64 = .ok (.iload_n 1, 1) := by decide +kernel
theorem dX1_write_65 : decode cX1_write 65 = .ok (.iload_n 2, 1) := by decide +kernel
theorem dX1_write_66 : decode cX1_write 66 = .ok (.lload_n 3, 1) := by decide +kernel
theorem dX1_write_67 : decode cX1_write 67 = .ok (.invokevirtual 34, 3) := by decide +kernel
theorem dX1_write_70 : decode cX1_write 70 = .ok (.ifCond .eq 17, 3) := by decide +kernel
theorem dX1_write_73 : decode cX1_write 73 = .ok (.iload_n 1, 1) := by decide +kernel
theorem dX1_write_74 : decode cX1_write 74 = .ok (.iconst 4, 1) := by decide +kernel
theorem dX1_write_75 : decode cX1_write 75 = .ok (.if_icmp .ne 14, 3) := by decide +kernel
theorem dX1_write_78 : decode cX1_write 78 = .ok (.aload_n 0, 1) := by decide +kernel
theorem dX1_write_79 : decode cX1_write 79 = .ok (.iload_n 2, 1) := by decide +kernel
theorem dX1_write_80 : decode cX1_write 80 = .ok (.lload_n 3, 1) := by decide +kernel
theorem dX1_write_81 : decode cX1_write 81 = .ok (.invokevirtual 38, 3) := by decide +kernel
theorem dX1_write_84 : decode cX1_write 84 = .ok (.ifCond .ne 5, 3) := by decide +kernel
theorem dX1_write_87 : decode cX1_write 87 = .ok (.iconst 0, 1) := by decide +kernel
theorem dX1_write_88 : decode cX1_write 88 = .ok (.ireturn, 1) := by decide +kernel
theorem dX1_write_89 : decode cX1_write 89 = .ok (.aload_n 0, 1) := by decide +kernel
theorem dX1_write_90 : decode cX1_write 90 = .ok (.getfield 9, 3) := by decide +kernel
theorem dX1_write_93 : decode cX1_write 93 = .ok (.iload 5, 2) := by decide +kernel
theorem dX1_write_95 : decode cX1_write 95 = .ok (.lload_n 3, 1) := by decide +kernel
theorem dX1_write_96 : decode cX1_write 96 = .ok (.lastore, 1) := by decide +kernel
theorem dX1_write_97 : decode cX1_write 97 = .ok (.iconst 1, 1) := by decide +kernel
theorem dX1_write_98 : decode cX1_write 98 = .ok (.ireturn, 1) := by decide +kernel
set_option maxRecDepth 20000 in
theorem ggX1_beginningOf_X1_lengthOf : GoodIn wsX1_beginningOf wsX1_lengthOf := goodIn_r _ [5, 6, 7, 8, 9, 4, 10, 11, 12, 13, 14, 15, 16, 17, 18, 19, 20, 21] (by decide +kernel) (by decide +kernel)
set_option maxRecDepth 20000 in
theorem gX1_beginningOf_X1_lengthOf : GoodIn wsX1_beginningOf (wsV RX1 42 RX1 yX1_lengthOf wsX1_lengthOf) := goodIn_app (goodIn_of _ (by decide +kernel)) ggX1_beginningOf_X1_lengthOf
theorem dX1_beginningOf_0 : decode cX1_beginningOf 0 = .ok (.iconst 1, 1) := by decide +kernel
theorem dX1_beginningOf_1 : decode cX1_beginningOf 1 = .ok (.istore_n 2, 1) := by decide +kernel
theorem dX1_beginningOf_2 : decode cX1_beginningOf 2 = .ok (.iconst 1, 1) := by decide +kernel
theorem dX1_beginningOf_3 : decode cX1_beginningOf 3 = .ok (.istore_n 3, 1) := by decide +kernel
theorem dX1_beginningOf_4 : decode cX1_beginningOf 4 = .ok (.iload_n 3, 1) := by decide +kernel
theorem dX1_beginningOf_5 : decode cX1_beginningOf 5 = .ok (.iload_n 1, 1) := by decide +kernel
theorem dX1_beginningOf_6 : decode cX1_beginningOf 6 = .ok (.if_icmp .ge 22, 3) := by decide +kernel
theorem dX1_beginningOf_9 : decode cX1_beginningOf 9 = .ok (.iload_n 3, 1) := by decide +kernel
theorem dX1_beginningOf_10 : decode cX1_beginningOf 10 = .ok (.iconst 5, 1) := by decide +kernel
theorem dX1_beginningOf_11 : decode cX1_beginningOf 11 = .ok (.if_icmp .gt 17, 3) := by decide +kernel
theorem dX1_beginningOf_14 : decode cX1_beginningOf 14 = .ok (.iload_n 2, 1) := by decide +kernel
theorem dX1_beginningOf_15 : decode cX1_beginningOf 15 = .ok (.aload_n 0, 1) := by decide +kernel
theorem dX1_beginningOf_16 : decode cX1_beginningOf 16 = .ok (.iload_n 3, 1) := by decide +kernel
theorem dX1_beginningOf_17 : decode cX1_beginningOf 17 = .ok (.invokevirtual 42, 3) := by decide +kernel
theorem dX1_beginningOf_20 : decode cX1_beginningOf 20 = .ok (.iadd, 1) := by decide +kernel
theorem dX1_beginningOf_21 : decode cX1_beginningOf 21 = .ok (.istore_n 2, 1) := by decide +kernel
theorem dX1_beginningOf_22 : decode cX1_beginningOf 22 = .ok (.iinc 3 1, 3) := by decide +kernel
theorem dX1_beginningOf_25 : decode cX1_beginningOf 25 = .ok (.goto (-21), 3) := by decide +kernel
theorem dX1_beginningOf_28 : decode cX1_beginningOf 28 = .ok (.iload_n 2, 1) := by decide +kernel
theorem dX1_beginningOf_29 : decode cX1_beginningOf 29 = .ok (.ireturn, 1) := by decide +kernel
set_option maxRecDepth 20000 in
theorem ggX1_relocate_X4_isAddress : GoodIn wsX1_relocate wsX4_isAddress := goodIn_r _ [4, 5] (by decide +kernel) (by decide +kernel)
set_option maxRecDepth 20000 in
theorem gX1_relocate_X4_isAddress : GoodIn wsX1_relocate (va_wsS RX1 46 yX4_isAddress wsX4_isAddress) := goodIn_app (goodIn_of _ (by decide +kernel)) ggX1_relocate_X4_isAddress
set_option maxRecDepth 20000 in
theorem ggX1_relocate_X4_segmentOf : GoodIn wsX1_relocate wsX4_segmentOf := goodIn_r _ [8, 5] (by decide +kernel) (by decide +kernel)
set_option maxRecDepth 20000 in
theorem gX1_relocate_X4_segmentOf : GoodIn wsX1_relocate (va_wsS RX1 50 yX4_segmentOf wsX4_segmentOf) := goodIn_app (goodIn_of _ (by decide +kernel)) ggX1_relocate_X4_segmentOf
set_option maxRecDepth 20000 in
theorem ggX1_relocate_X1_beginningOf : GoodIn wsX1_relocate wsX1_beginningOf := goodIn_r _ [13, 14, 15, 16, 12, 17, 18, 19, 20, 21, 22, 23, 24, 25, 26, 27, 28, 29, 30, 31, 32, 46] (by decide +kernel) (by decide +kernel)
set_option maxRecDepth 20000 in
theorem gX1_relocate_X1_beginningOf : GoodIn wsX1_relocate (wsV RX1 54 RX1 yX1_beginningOf wsX1_beginningOf) := goodIn_app (goodIn_of _ (by decide +kernel)) ggX1_relocate_X1_beginningOf
set_option maxRecDepth 20000 in
theorem ggX1_relocate_X4_cellOf : GoodIn wsX1_relocate wsX4_cellOf := goodIn_r _ [35, 5, 36] (by decide +kernel) (by decide +kernel)
set_option maxRecDepth 20000 in
theorem gX1_relocate_X4_cellOf : GoodIn wsX1_relocate (va_wsS RX1 57 yX4_cellOf wsX4_cellOf) := goodIn_app (goodIn_of _ (by decide +kernel)) ggX1_relocate_X4_cellOf
set_option maxRecDepth 20000 in
theorem ggX1_relocate_X0_reduce : GoodIn wsX1_relocate wsX0_reduce := goodIn_r _ [40, 41, 42, 43, 44, 45] (by decide +kernel) (by decide +kernel)
set_option maxRecDepth 20000 in
theorem gX1_relocate_X0_reduce : GoodIn wsX1_relocate (va_wsS RX1 60 yX0_reduce wsX0_reduce) := goodIn_app (goodIn_of _ (by decide +kernel)) ggX1_relocate_X0_reduce
theorem dX1_relocate_0 : decode cX1_relocate 0 = .ok (.lload_n 1, 1) := by decide +kernel
theorem dX1_relocate_1 : decode cX1_relocate 1 = .ok (.invokestatic 46, 3) := by decide +kernel
theorem dX1_relocate_4 : decode cX1_relocate 4 = .ok (.ifCond .ne 5, 3) := by decide +kernel
theorem dX1_relocate_7 : decode cX1_relocate 7 = .ok (.lload_n 1, 1) := by decide +kernel
theorem dX1_relocate_8 : decode cX1_relocate 8 = .ok (.lreturn, 1) := by decide +kernel
theorem dX1_relocate_9 : decode cX1_relocate 9 = .ok (.aload_n 0, 1) := by decide +kernel
theorem dX1_relocate_10 : decode cX1_relocate 10 = .ok (.lload_n 1, 1) := by decide +kernel
theorem dX1_relocate_11 : decode cX1_relocate 11 = .ok (.invokestatic 50, 3) := by decide +kernel
theorem dX1_relocate_14 : decode cX1_relocate 14 = .ok (.invokevirtual 54, 3) := by decide +kernel
theorem dX1_relocate_17 : decode cX1_relocate 17 = .ok (.lload_n 1, 1) := by decide +kernel
theorem dX1_relocate_18 : decode cX1_relocate 18 = .ok (.invokestatic 57, 3) := by decide +kernel
theorem dX1_relocate_21 : decode cX1_relocate 21 = .ok (.iadd, 1) := by decide +kernel
theorem dX1_relocate_22 : decode cX1_relocate 22 = .ok (.i2l, 1) := by decide +kernel
theorem dX1_relocate_23 : decode cX1_relocate 23 = .ok (.invokestatic 60, 3) := by decide +kernel
theorem dX1_relocate_26 : decode cX1_relocate 26 = .ok (.lreturn, 1) := by decide +kernel
set_option maxRecDepth 20000 in
theorem ggX1_relocatedAt_X1_beginningOf : GoodIn wsX1_relocatedAt wsX1_beginningOf := goodIn_r _ [6, 7, 8, 9, 5, 10, 1, 11, 12, 13, 14, 15, 16, 17, 18, 19, 20, 21, 22, 23, 24, 50] (by decide +kernel) (by decide +kernel)
set_option maxRecDepth 20000 in
theorem gX1_relocatedAt_X1_beginningOf : GoodIn wsX1_relocatedAt (wsV RX1 54 RX1 yX1_beginningOf wsX1_beginningOf) := goodIn_app (goodIn_of _ (by decide +kernel)) ggX1_relocatedAt_X1_beginningOf
set_option maxRecDepth 20000 in
theorem ggX1_relocatedAt_X1_look : GoodIn wsX1_relocatedAt wsX1_look := goodIn_r _ [14, 15, 1, 16, 17, 5, 18, 19, 20, 21, 22, 23, 24, 50] (by decide +kernel) (by decide +kernel)
set_option maxRecDepth 20000 in
theorem gX1_relocatedAt_X1_look : GoodIn wsX1_relocatedAt (wsV RX1 66 RX1 yX1_look wsX1_look) := goodIn_app (goodIn_of _ (by decide +kernel)) ggX1_relocatedAt_X1_look
set_option maxRecDepth 20000 in
theorem ggX1_relocatedAt_X1_relocate : GoodIn wsX1_relocatedAt wsX1_relocate := goodIn_r _ [28, 29, 30, 31, 32, 33, 34, 35, 36, 2, 3, 4, 5, 6, 7, 8, 9, 10, 1, 11, 12, 13, 14, 15, 16, 17, 18, 19, 20, 21, 22, 23, 24, 37, 38, 39, 40, 41, 42, 43, 44, 45, 46, 47, 48, 49, 50] (by decide +kernel) (by decide +kernel)
set_option maxRecDepth 20000 in
theorem gX1_relocatedAt_X1_relocate : GoodIn wsX1_relocatedAt (wsV RX1 70 RX1 yX1_relocate wsX1_relocate) := goodIn_app (goodIn_of _ (by decide +kernel)) ggX1_relocatedAt_X1_relocate
theorem dX1_relocatedAt_0 : decode cX1_relocatedAt 0 = .ok (.iconst 5, 1) := by decide +kernel
theorem dX1_relocatedAt_1 : decode cX1_relocatedAt 1 = .ok (.istore_n 2, 1) := by decide +kernel
theorem dX1_relocatedAt_2 : decode cX1_relocatedAt 2 = .ok (.iload_n 2, 1) := by decide +kernel
theorem dX1_relocatedAt_3 : decode cX1_relocatedAt 3 = .ok (.iconst 1, 1) := by decide +kernel
theorem dX1_relocatedAt_4 : decode cX1_relocatedAt 4 = .ok (.if_icmp .le 18, 3) := by decide +kernel
theorem dX1_relocatedAt_7 : decode cX1_relocatedAt 7 = .ok (.iload_n 1, 1) := by decide +kernel
theorem dX1_relocatedAt_8 : decode cX1_relocatedAt 8 = .ok (.aload_n 0, 1) := by decide +kernel
theorem dX1_relocatedAt_9 : decode cX1_relocatedAt 9 = .ok (.iload_n 2, 1) := by decide +kernel
theorem dX1_relocatedAt_10 : decode cX1_relocatedAt 10 = .ok (.invokevirtual 54, 3) := by decide +kernel
theorem dX1_relocatedAt_13 : decode cX1_relocatedAt 13 = .ok (.if_icmp .ge 9, 3) := by decide +kernel
theorem dX1_relocatedAt_16 : decode cX1_relocatedAt 16 = .ok (.iinc 2 (-1), 3) := by decide +kernel
theorem dX1_relocatedAt_19 : decode cX1_relocatedAt 19 = .ok (.goto (-17), 3) := by decide +kernel
theorem dX1_relocatedAt_22 : decode cX1_relocatedAt 22 = .ok (.aload_n 0, 1) := by decide +kernel
theorem dX1_relocatedAt_23 : decode cX1_relocatedAt 23 = .ok (.iload_n 2, 1) := by decide +kernel
theorem dX1_relocatedAt_24 : decode cX1_relocatedAt 24 = .ok (.iload_n 1, 1) := by decide +kernel
theorem dX1_relocatedAt_25 : decode cX1_relocatedAt 25 = .ok (.aload_n 0, 1) := by decide +kernel
theorem dX1_relocatedAt_26 : decode cX1_relocatedAt 26 = .ok (.iload_n 2, 1) := by decide +kernel
theorem dX1_relocatedAt_27 : decode cX1_relocatedAt 27 = .ok (.invokevirtual 54, 3) := by decide +kernel
theorem dX1_relocatedAt_30 : decode cX1_relocatedAt 30 = .ok (.isub, 1) := by decide +kernel
theorem dX1_relocatedAt_31 : decode cX1_relocatedAt 31 = .ok (.invokevirtual 66, 3) := by decide +kernel
theorem dX1_relocatedAt_34 : decode cX1_relocatedAt 34 = .ok (.lstore_n 3, 1) := by decide +kernel
theorem dX1_relocatedAt_35 : decode cX1_relocatedAt 35 = .ok (.lload_n 3, 1) := by decide +kernel
theorem dX1_relocatedAt_36 : decode cX1_relocatedAt 36 = .ok (.ldc2_w 15, 3) := by decide +kernel
theorem dX1_relocatedAt_39 : decode cX1_relocatedAt 39 = .ok (.lcmp, 1) := by decide +kernel
theorem dX1_relocatedAt_40 : decode cX1_relocatedAt 40 = .ok (.ifCond .ne 7, 3) := by decide +kernel
theorem dX1_relocatedAt_43 : decode cX1_relocatedAt 43 = .ok (.lconst 0, 1) := by decide +kernel
theorem dX1_relocatedAt_44 : decode cX1_relocatedAt 44 = .ok (.goto 8, 3) := by decide +kernel
theorem dX1_relocatedAt_47 : decode cX1_relocatedAt 47 = .ok (.aload_n 0, 1) := by decide +kernel
theorem dX1_relocatedAt_48 : decode cX1_relocatedAt 48 = .ok (.lload_n 3, 1) := by decide +kernel
theorem dX1_relocatedAt_49 : decode cX1_relocatedAt 49 = .ok (.invokevirtual 70, 3) := by decide +kernel
theorem dX1_relocatedAt_52 : decode cX1_relocatedAt 52 = .ok (.lreturn, 1) := by decide +kernel
theorem dX1_indexOf_0 : decode cX1_indexOf 0 = .ok (.iload_n 0, 1) := by decide +kernel
theorem dX1_indexOf_1 : decode cX1_indexOf 1 = .ok (.iconst 1, 1) := by decide +kernel
theorem dX1_indexOf_2 : decode cX1_indexOf 2 = .ok (.isub, 1) := by decide +kernel
theorem dX1_indexOf_3 : decode cX1_indexOf 3 = .ok (.bipush 64, 2) := by decide +kernel
theorem dX1_indexOf_5 : decode cX1_indexOf 5 = .ok (.imul, 1) := by decide +kernel
theorem dX1_indexOf_6 : decode cX1_indexOf 6 = .ok (.iload_n 1, 1) := by decide +kernel
theorem dX1_indexOf_7 : decode cX1_indexOf 7 = .ok (.iadd, 1) := by decide +kernel
theorem dX1_indexOf_8 : decode cX1_indexOf 8 = .ok (.ireturn, 1) := by decide +kernel
set_option maxRecDepth 20000 in
theorem ggX1_lengthOf_X1_look : GoodIn wsX1_lengthOf wsX1_look := goodIn_r _ [6, 7, 1, 8, 9, 5, 10, 11, 12, 13, 14, 15, 16, 17] (by decide +kernel) (by decide +kernel)
set_option maxRecDepth 20000 in
theorem gX1_lengthOf_X1_look : GoodIn wsX1_lengthOf (wsV RX1 66 RX1 yX1_look wsX1_look) := goodIn_app (goodIn_of _ (by decide +kernel)) ggX1_lengthOf_X1_look
theorem dX1_lengthOf_0 : decode cX1_lengthOf 0 = .ok (.bipush 64, 2) := by decide +kernel
theorem dX1_lengthOf_2 : decode cX1_lengthOf 2 = .ok (.istore_n 2, 1) := by decide +kernel
theorem dX1_lengthOf_3 : decode cX1_lengthOf 3 = .ok (.iload_n 2, 1) := by decide +kernel
theorem dX1_lengthOf_4 : decode cX1_lengthOf 4 = .ok (.ifCond .le 24, 3) := by decide +kernel
theorem dX1_lengthOf_7 : decode cX1_lengthOf 7 = .ok (.aload_n 0, 1) := by decide +kernel
theorem dX1_lengthOf_8 : decode cX1_lengthOf 8 = .ok (.iload_n 1, 1) := by decide +kernel
theorem dX1_lengthOf_9 : decode cX1_lengthOf 9 = .ok (.iload_n 2, 1) := by decide +kernel
theorem dX1_lengthOf_10 : decode cX1_lengthOf 10 = .ok (.iconst 1, 1) := by decide +kernel
theorem dX1_lengthOf_11 : decode cX1_lengthOf 11 = .ok (.isub, 1) := by decide +kernel
theorem dX1_lengthOf_12 : decode cX1_lengthOf 12 = .ok (.invokevirtual 66, 3) := by decide +kernel
theorem dX1_lengthOf_15 : decode cX1_lengthOf 15 = .ok (.ldc2_w 15, 3) := by decide +kernel
theorem dX1_lengthOf_18 : decode cX1_lengthOf 18 = .ok (.lcmp, 1) := by decide +kernel
theorem dX1_lengthOf_19 : decode cX1_lengthOf 19 = .ok (.ifCond .ne 9, 3) := by decide +kernel
theorem dX1_lengthOf_22 : decode cX1_lengthOf 22 = .ok (.iinc 2 (-1), 3) := by decide +kernel
theorem dX1_lengthOf_25 : decode cX1_lengthOf 25 = .ok (.goto (-22), 3) := by decide +kernel
theorem dX1_lengthOf_28 : decode cX1_lengthOf 28 = .ok (.iload_n 2, 1) := by decide +kernel
theorem dX1_lengthOf_29 : decode cX1_lengthOf 29 = .ok (.ireturn, 1) := by decide +kernel
set_option maxRecDepth 20000 in
theorem ggX1_takes_X4_isNumber : GoodIn wsX1_takes wsX4_isNumber := goodIn_r _ [7, 8] (by decide +kernel) (by decide +kernel)
set_option maxRecDepth 20000 in
theorem gX1_takes_X4_isNumber : GoodIn wsX1_takes (va_wsS RX1 73 yX4_isNumber wsX4_isNumber) := goodIn_app (goodIn_of _ (by decide +kernel)) ggX1_takes_X4_isNumber
set_option maxRecDepth 20000 in
theorem ggX1_takes_X1_look : GoodIn wsX1_takes wsX1_look := goodIn_r _ [13, 14, 3, 15, 16, 12, 17, 18, 19, 20, 21, 22, 23, 24] (by decide +kernel) (by decide +kernel)
set_option maxRecDepth 20000 in
theorem gX1_takes_X1_look : GoodIn wsX1_takes (wsV RX1 66 RX1 yX1_look wsX1_look) := goodIn_app (goodIn_of _ (by decide +kernel)) ggX1_takes_X1_look
theorem dX1_takes_0 : decode cX1_takes 0 = .ok (.iload_n 1, 1) := by decide +kernel
theorem dX1_takes_1 : decode cX1_takes 1 = .ok (.tableswitch 101 3 5 #[27, 48, 76], 27) := by decide +kernel
theorem dX1_takes_28 : decode cX1_takes 28 = .ok (.lload_n 3, 1) := by decide +kernel
theorem dX1_takes_29 : decode cX1_takes 29 = .ok (.invokestatic 73, 3) := by decide +kernel
theorem dX1_takes_32 : decode cX1_takes 32 = .ok (.ifCond .eq 15, 3) := by decide +kernel
theorem dX1_takes_35 : decode cX1_takes 35 = .ok (.lload_n 3, 1) := by decide +kernel
theorem dX1_takes_36 : decode cX1_takes 36 = .ok (.ldc2_w 76, 3) := by decide +kernel
theorem dX1_takes_39 : decode cX1_takes 39 = .ok (.lcmp, 1) := by decide +kernel
theorem dX1_takes_40 : decode cX1_takes 40 = .ok (.ifCond .ge 7, 3) := by decide +kernel
theorem dX1_takes_43 : decode cX1_takes 43 = .ok (.iconst 1, 1) := by decide +kernel
theorem dX1_takes_44 : decode cX1_takes 44 = .ok (.goto 4, 3) := by decide +kernel
theorem dX1_takes_47 : decode cX1_takes 47 = .ok (.iconst 0, 1) := by decide +kernel
theorem dX1_takes_48 : decode cX1_takes 48 = .ok (.ireturn, 1) := by decide +kernel
theorem dX1_takes_49 : decode cX1_takes 49 = .ok (.iload_n 2, 1) := by decide +kernel
theorem dX1_takes_50 : decode cX1_takes 50 = .ok (.iconst 5, 1) := by decide +kernel
theorem dX1_takes_51 : decode cX1_takes 51 = .ok (.irem, 1) := by decide +kernel
theorem dX1_takes_52 : decode cX1_takes 52 = .ok (.iconst 1, 1) := by decide +kernel
theorem dX1_takes_53 : decode cX1_takes 53 = .ok (.if_icmp .gt 18, 3) := by decide +kernel
theorem dX1_takes_56 : decode cX1_takes 56 = .ok (.lload_n 3, 1) := by decide +kernel
theorem dX1_takes_57 : decode cX1_takes 57 = .ok (.invokestatic 73, 3) := by decide +kernel
theorem dX1_takes_60 : decode cX1_takes 60 = .ok (.ifCond .eq 15, 3) := by decide +kernel
theorem dX1_takes_63 : decode cX1_takes 63 = .ok (.lload_n 3, 1) := by decide +kernel
theorem dX1_takes_64 : decode cX1_takes 64 = .ok (.ldc2_w 78, 3) := by decide +kernel
theorem dX1_takes_67 : decode cX1_takes 67 = .ok (.lcmp, 1) := by decide +kernel
theorem dX1_takes_68 : decode cX1_takes 68 = .ok (.ifCond .ge 7, 3) := by decide +kernel
theorem dX1_takes_71 : decode cX1_takes 71 = .ok (.iconst 1, 1) := by decide +kernel
theorem dX1_takes_72 : decode cX1_takes 72 = .ok (.goto 4, 3) := by decide +kernel
theorem dX1_takes_75 : decode cX1_takes 75 = .ok (.iconst 0, 1) := by decide +kernel
theorem dX1_takes_76 : decode cX1_takes 76 = .ok (.ireturn, 1) := by decide +kernel
theorem dX1_takes_77 : decode cX1_takes 77 = .ok (.iload_n 2, 1) := by decide +kernel
theorem dX1_takes_78 : decode cX1_takes 78 = .ok (.ifCond .eq 18, 3) := by decide +kernel
theorem dX1_takes_81 : decode cX1_takes 81 = .ok (.aload_n 0, 1) := by decide +kernel
theorem dX1_takes_82 : decode cX1_takes 82 = .ok (.iconst 5, 1) := by decide +kernel
theorem dX1_takes_83 : decode cX1_takes 83 = .ok (.iload_n 2, 1) := by decide +kernel
theorem dX1_takes_84 : decode cX1_takes 84 = .ok (.iconst 1, 1) := by decide +kernel
theorem dX1_takes_85 : decode cX1_takes 85 = .ok (.isub, 1) := by decide +kernel
theorem dX1_takes_86 : decode cX1_takes 86 = .ok (.invokevirtual 66, 3) := by decide +kernel
theorem dX1_takes_89 : decode cX1_takes 89 = .ok (.ldc2_w 15, 3) := by decide +kernel
theorem dX1_takes_92 : decode cX1_takes 92 = .ok (.lcmp, 1) := by decide +kernel
theorem dX1_takes_93 : decode cX1_takes 93 = .ok (.ifCond .eq 7, 3) := by decide +kernel
theorem dX1_takes_96 : decode cX1_takes 96 = .ok (.iconst 1, 1) := by decide +kernel
theorem dX1_takes_97 : decode cX1_takes 97 = .ok (.goto 4, 3) := by decide +kernel
theorem dX1_takes_100 : decode cX1_takes 100 = .ok (.iconst 0, 1) := by decide +kernel
theorem dX1_takes_101 : decode cX1_takes 101 = .ok (.ireturn, 1) := by decide +kernel
theorem dX1_takes_102 : decode cX1_takes 102 = .ok (.iconst 1, 1) := by decide +kernel
theorem dX1_takes_103 : decode cX1_takes 103 = .ok (.ireturn, 1) := by decide +kernel
set_option maxRecDepth 20000 in
theorem ggX1_completesGroup_X1_indexOf : GoodIn wsX1_completesGroup wsX1_indexOf := goodIn_r _ [6] (by decide +kernel) (by decide +kernel)
set_option maxRecDepth 20000 in
theorem gX1_completesGroup_X1_indexOf : GoodIn wsX1_completesGroup (va_wsS RX1 30 yX1_indexOf wsX1_indexOf) := goodIn_app (goodIn_of _ (by decide +kernel)) ggX1_completesGroup_X1_indexOf
set_option maxRecDepth 20000 in
theorem ggX1_completesGroup_X1_isOpenTo : GoodIn wsX1_completesGroup wsX1_isOpenTo := goodIn_r _ [10, 1, 2, 11] (by decide +kernel) (by decide +kernel)
set_option maxRecDepth 20000 in
theorem gX1_completesGroup_X1_isOpenTo : GoodIn wsX1_completesGroup (wsV RX1 80 RX1 yX1_isOpenTo wsX1_isOpenTo) := goodIn_app (goodIn_of _ (by decide +kernel)) ggX1_completesGroup_X1_isOpenTo
theorem dX1_completesGroup_0 : decode cX1_completesGroup 0 = .ok (.iload_n 1, 1) := by decide +kernel
theorem dX1_completesGroup_1 : decode cX1_completesGroup 1 = .ok (.iload_n 1, 1) := by decide +kernel
theorem dX1_completesGroup_2 : decode cX1_completesGroup 2 = .ok (.iconst 5, 1) := by decide +kernel
theorem dX1_completesGroup_3 : decode cX1_completesGroup 3 = .ok (.irem, 1) := by decide +kernel
theorem dX1_completesGroup_4 : decode cX1_completesGroup 4 = .ok (.isub, 1) := by decide +kernel
theorem dX1_completesGroup_5 : decode cX1_completesGroup 5 = .ok (.istore 4, 2) := by decide +kernel
theorem dX1_completesGroup_7 : decode cX1_completesGroup 7 = .ok (.iload_n 1, 1) := by decide +kernel
theorem dX1_completesGroup_8 : decode cX1_completesGroup 8 = .ok (.iload 4, 2) := by decide +kernel
theorem dX1_completesGroup_10 : decode cX1_completesGroup 10 = .ok (.iconst 1, 1) := by decide +kernel
theorem dX1_completesGroup_11 : decode cX1_completesGroup 11 = .ok (.iadd, 1) := by decide +kernel
theorem dX1_completesGroup_12 : decode cX1_completesGroup 12 = .ok (.if_icmp .gt 12, 3) := by decide +kernel
theorem dX1_completesGroup_15 : decode cX1_completesGroup 15 = .ok (.iload 4, 2) := by decide +kernel
theorem dX1_completesGroup_17 : decode cX1_completesGroup 17 = .ok (.iconst 5, 1) := by decide +kernel
theorem dX1_completesGroup_18 : decode cX1_completesGroup 18 = .ok (.iadd, 1) := by decide +kernel
theorem dX1_completesGroup_19 : decode cX1_completesGroup 19 = .ok (.bipush 64, 2) := by decide +kernel
theorem dX1_completesGroup_21 : decode cX1_completesGroup 21 = .ok (.if_icmp .le 5, 3) := by decide +kernel
theorem dX1_completesGroup_24 : decode cX1_completesGroup 24 = .ok (.iconst 1, 1) := by decide +kernel
theorem dX1_completesGroup_25 : decode cX1_completesGroup 25 = .ok (.ireturn, 1) := by decide +kernel
theorem dX1_completesGroup_26 : decode cX1_completesGroup 26 = .ok (.iconst 4, 1) := by decide +kernel
theorem dX1_completesGroup_27 : decode cX1_completesGroup 27 = .ok (.iload 4, 2) := by decide +kernel
theorem dX1_completesGroup_29 : decode cX1_completesGroup 29 = .ok (.iconst 2, 1) := by decide +kernel
theorem dX1_completesGroup_30 : decode cX1_completesGroup 30 = .ok (.iadd, 1) := by decide +kernel
theorem dX1_completesGroup_31 : decode cX1_completesGroup 31 = .ok (.invokestatic 30, 3) := by decide +kernel
theorem dX1_completesGroup_34 : decode cX1_completesGroup 34 = .ok (.istore 5, 2) := by decide +kernel
theorem dX1_completesGroup_36 : decode cX1_completesGroup 36 = .ok (.aload_n 0, 1) := by decide +kernel
theorem dX1_completesGroup_37 : decode cX1_completesGroup 37 = .ok (.getfield 9, 3) := by decide +kernel
theorem dX1_completesGroup_40 : decode cX1_completesGroup 40 = .ok (.iload_n 1, 1) := by decide +kernel
theorem dX1_completesGroup_41 : decode cX1_completesGroup 41 = .ok (.iload 4, 2) := by decide +kernel
theorem dX1_completesGroup_43 : decode cX1_completesGroup 43 = .ok (.if_icmp .ne 10, 3) := by decide +kernel
theorem dX1_completesGroup_46 : decode cX1_completesGroup 46 = .ok (.iload 5, 2) := by decide +kernel
theorem dX1_completesGroup_48 : decode cX1_completesGroup 48 = .ok (.iconst 1, 1) := by decide +kernel
theorem dX1_completesGroup_49 : decode cX1_completesGroup 49 = .ok (.isub, 1) := by decide +kernel
theorem dX1_completesGroup_50 : decode cX1_completesGroup 50 = .ok (.goto 7, 3) := by decide +kernel
theorem dX1_completesGroup_53 : decode cX1_completesGroup 53 = .ok (.iload 5, 2) := by decide +kernel
theorem dX1_completesGroup_55 : decode cX1_completesGroup 55 = .ok (.iconst 2, 1) := by decide +kernel
theorem dX1_completesGroup_56 : decode cX1_completesGroup 56 = .ok (.isub, 1) := by decide +kernel
theorem dX1_completesGroup_57 : decode cX1_completesGroup 57 = .ok (.laload, 1) := by decide +kernel
theorem dX1_completesGroup_58 : decode cX1_completesGroup 58 = .ok (.lstore 6, 2) := by decide +kernel
theorem dX1_completesGroup_60 : decode cX1_completesGroup 60 = .ok (.lload 6, 2) := by decide +kernel
theorem dX1_completesGroup_62 : decode cX1_completesGroup 62 = .ok (.ldc2_w 15, 3) := by decide +kernel
theorem dX1_completesGroup_65 : decode cX1_completesGroup 65 = .ok (.lcmp, 1) := by decide +kernel
theorem dX1_completesGroup_66 : decode cX1_completesGroup 66 = .ok (.ifCond .ne 5, 3) := by decide +kernel
theorem dX1_completesGroup_69 : decode cX1_completesGroup 69 = .ok (.iconst 1, 1) := by decide +kernel
theorem dX1_completesGroup_70 : decode cX1_completesGroup 70 = .ok (.ireturn, 1) := by decide +kernel
theorem dX1_completesGroup_71 : decode cX1_completesGroup 71 = .ok (.aload_n 0, 1) := by decide +kernel
theorem dX1_completesGroup_72 : decode cX1_completesGroup 72 = .ok (.iload 5, 2) := by decide +kernel
theorem dX1_completesGroup_74 : decode cX1_completesGroup 74 = .ok (.lload_n 2, 1) := by decide +kernel
theorem dX1_completesGroup_75 : decode cX1_completesGroup 75 = .ok (.lload 6, 2) := by decide +kernel
theorem dX1_completesGroup_77 : decode cX1_completesGroup 77 = .ok (.land, 1) := by decide +kernel
theorem dX1_completesGroup_78 : decode cX1_completesGroup 78 = .ok (.invokevirtual 80, 3) := by decide +kernel
theorem dX1_completesGroup_81 : decode cX1_completesGroup 81 = .ok (.ifCond .eq 33, 3) := by decide +kernel
theorem dX1_completesGroup_84 : decode cX1_completesGroup 84 = .ok (.aload_n 0, 1) := by decide +kernel
theorem dX1_completesGroup_85 : decode cX1_completesGroup 85 = .ok (.iload 5, 2) := by decide +kernel
theorem dX1_completesGroup_87 : decode cX1_completesGroup 87 = .ok (.iconst 1, 1) := by decide +kernel
theorem dX1_completesGroup_88 : decode cX1_completesGroup 88 = .ok (.iadd, 1) := by decide +kernel
theorem dX1_completesGroup_89 : decode cX1_completesGroup 89 = .ok (.lload_n 2, 1) := by decide +kernel
theorem dX1_completesGroup_90 : decode cX1_completesGroup 90 = .ok (.lload 6, 2) := by decide +kernel
theorem dX1_completesGroup_92 : decode cX1_completesGroup 92 = .ok (.lxor, 1) := by decide +kernel
theorem dX1_completesGroup_93 : decode cX1_completesGroup 93 = .ok (.invokevirtual 80, 3) := by decide +kernel
theorem dX1_completesGroup_96 : decode cX1_completesGroup 96 = .ok (.ifCond .eq 18, 3) := by decide +kernel
theorem dX1_completesGroup_99 : decode cX1_completesGroup 99 = .ok (.aload_n 0, 1) := by decide +kernel
theorem dX1_completesGroup_100 : decode cX1_completesGroup 100 = .ok (.iload 5, 2) := by decide +kernel
theorem dX1_completesGroup_102 : decode cX1_completesGroup 102 = .ok (.iconst 2, 1) := by decide +kernel
theorem dX1_completesGroup_103 : decode cX1_completesGroup 103 = .ok (.iadd, 1) := by decide +kernel
theorem dX1_completesGroup_104 : decode cX1_completesGroup 104 = .ok (.lload_n 2, 1) := by decide +kernel
theorem dX1_completesGroup_105 : decode cX1_completesGroup 105 = .ok (.lload 6, 2) := by decide +kernel
theorem dX1_completesGroup_107 : decode cX1_completesGroup 107 = .ok (.lor, 1) := by decide +kernel
theorem dX1_completesGroup_108 : decode cX1_completesGroup 108 = .ok (.invokevirtual 80, 3) := by decide +kernel
theorem dX1_completesGroup_111 : decode cX1_completesGroup 111 = .ok (.ifCond .ne 5, 3) := by decide +kernel
theorem dX1_completesGroup_114 : decode cX1_completesGroup 114 = .ok (.iconst 0, 1) := by decide +kernel
theorem dX1_completesGroup_115 : decode cX1_completesGroup 115 = .ok (.ireturn, 1) := by decide +kernel
theorem dX1_completesGroup_116 : decode cX1_completesGroup 116 = .ok (.aload_n 0, 1) := by decide +kernel
theorem dX1_completesGroup_117 : decode cX1_completesGroup 117 = .ok (.getfield 9, 3) := by decide +kernel
theorem dX1_completesGroup_120 : decode cX1_completesGroup 120 = .ok (.iload 5, 2) := by decide +kernel
theorem dX1_completesGroup_122 : decode cX1_completesGroup 122 = .ok (.lload_n 2, 1) := by decide +kernel
theorem dX1_completesGroup_123 : decode cX1_completesGroup 123 = .ok (.lload 6, 2) := by decide +kernel
theorem dX1_completesGroup_125 : decode cX1_completesGroup 125 = .ok (.land, 1) := by decide +kernel
theorem dX1_completesGroup_126 : decode cX1_completesGroup 126 = .ok (.lastore, 1) := by decide +kernel
theorem dX1_completesGroup_127 : decode cX1_completesGroup 127 = .ok (.aload_n 0, 1) := by decide +kernel
theorem dX1_completesGroup_128 : decode cX1_completesGroup 128 = .ok (.getfield 9, 3) := by decide +kernel
theorem dX1_completesGroup_131 : decode cX1_completesGroup 131 = .ok (.iload 5, 2) := by decide +kernel
theorem dX1_completesGroup_133 : decode cX1_completesGroup 133 = .ok (.iconst 1, 1) := by decide +kernel
theorem dX1_completesGroup_134 : decode cX1_completesGroup 134 = .ok (.iadd, 1) := by decide +kernel
theorem dX1_completesGroup_135 : decode cX1_completesGroup 135 = .ok (.lload_n 2, 1) := by decide +kernel
theorem dX1_completesGroup_136 : decode cX1_completesGroup 136 = .ok (.lload 6, 2) := by decide +kernel
theorem dX1_completesGroup_138 : decode cX1_completesGroup 138 = .ok (.lxor, 1) := by decide +kernel
theorem dX1_completesGroup_139 : decode cX1_completesGroup 139 = .ok (.lastore, 1) := by decide +kernel
theorem dX1_completesGroup_140 : decode cX1_completesGroup 140 = .ok (.aload_n 0, 1) := by decide +kernel
theorem dX1_completesGroup_141 : decode cX1_completesGroup 141 = .ok (.getfield 9, 3) := by decide +kernel
theorem dX1_completesGroup_144 : decode cX1_completesGroup 144 = .ok (.iload 5, 2) := by decide +kernel
theorem dX1_completesGroup_146 : decode cX1_completesGroup 146 = .ok (.iconst 2, 1) := by decide +kernel
theorem dX1_completesGroup_147 : decode cX1_completesGroup 147 = .ok (.iadd, 1) := by decide +kernel
theorem dX1_completesGroup_148 : decode cX1_completesGroup 148 = .ok (.lload_n 2, 1) := by decide +kernel
theorem dX1_completesGroup_149 : decode cX1_completesGroup 149 = .ok (.lload 6, 2) := by decide +kernel
theorem dX1_completesGroup_151 : decode cX1_completesGroup 151 = .ok (.lor, 1) := by decide +kernel
theorem dX1_completesGroup_152 : decode cX1_completesGroup 152 = .ok (.lastore, 1) := by decide +kernel
theorem dX1_completesGroup_153 : decode cX1_completesGroup 153 = .ok (.iconst 1, 1) := by decide +kernel
theorem dX1_completesGroup_154 : decode cX1_completesGroup 154 = .ok (.ireturn, 1) := by decide +kernel
theorem dX1_isOpenTo_0 : decode cX1_isOpenTo 0 = .ok (.aload_n 0, 1) := by decide +kernel
theorem dX1_isOpenTo_1 : decode cX1_isOpenTo 1 = .ok (.getfield 9, 3) := by decide +kernel
theorem dX1_isOpenTo_4 : decode cX1_isOpenTo 4 = .ok (.iload_n 1, 1) := by decide +kernel
theorem dX1_isOpenTo_5 : decode cX1_isOpenTo 5 = .ok (.laload, 1) := by decide +kernel
theorem dX1_isOpenTo_6 : decode cX1_isOpenTo 6 = .ok (.ldc2_w 15, 3) := by decide +kernel
theorem dX1_isOpenTo_9 : decode cX1_isOpenTo 9 = .ok (.lcmp, 1) := by decide +kernel
theorem dX1_isOpenTo_10 : decode cX1_isOpenTo 10 = .ok (.ifCond .eq 14, 3) := by decide +kernel
theorem dX1_isOpenTo_13 : decode cX1_isOpenTo 13 = .ok (.aload_n 0, 1) := by decide +kernel
theorem dX1_isOpenTo_14 : decode cX1_isOpenTo 14 = .ok (.getfield 9, 3) := by decide +kernel
theorem dX1_isOpenTo_17 : decode cX1_isOpenTo 17 = .ok (.iload_n 1, 1) := by decide +kernel
theorem dX1_isOpenTo_18 : decode cX1_isOpenTo 18 = .ok (.laload, 1) := by decide +kernel
theorem dX1_isOpenTo_19 : decode cX1_isOpenTo 19 = .ok (.lload_n 2, 1) := by decide +kernel
theorem dX1_isOpenTo_20 : decode cX1_isOpenTo 20 = .ok (.lcmp, 1) := by decide +kernel
theorem dX1_isOpenTo_21 : decode cX1_isOpenTo 21 = .ok (.ifCond .ne 7, 3) := by decide +kernel
theorem dX1_isOpenTo_24 : decode cX1_isOpenTo 24 = .ok (.iconst 1, 1) := by decide +kernel
theorem dX1_isOpenTo_25 : decode cX1_isOpenTo 25 = .ok (.goto 4, 3) := by decide +kernel
theorem dX1_isOpenTo_28 : decode cX1_isOpenTo 28 = .ok (.iconst 0, 1) := by decide +kernel
theorem dX1_isOpenTo_29 : decode cX1_isOpenTo 29 = .ok (.ireturn, 1) := by decide +kernel
set_option maxRecDepth 20000 in
theorem ggX2_init_X4_ofAddress : GoodIn wsX2_init wsX4_ofAddress := goodIn_r _ [11, 12, 13, 14, 15] (by decide +kernel) (by decide +kernel)
set_option maxRecDepth 20000 in
theorem gX2_init_X4_ofAddress : GoodIn wsX2_init (va_wsS RX2 13 yX4_ofAddress wsX4_ofAddress) := goodIn_app (goodIn_of _ (by decide +kernel)) ggX2_init_X4_ofAddress
theorem dX2_init_0 : decode cX2_init 0 = .ok (.aload_n 0, 1) := by decide +kernel
theorem dX2_init_1 : decode cX2_init 1 = .ok (.invokespecial 1, 3) := by decide +kernel
theorem dX2_init_4 : decode cX2_init 4 = .ok (.aload_n 0, 1) := by decide +kernel
theorem dX2_init_5 : decode cX2_init 5 = .ok (.aload_n 1, 1) := by decide +kernel
theorem dX2_init_6 : decode cX2_init 6 = .ok (.putfield 7, 3) := by decide +kernel
theorem dX2_init_9 : decode cX2_init 9 = .ok (.aload_n 0, 1) := by decide +kernel
theorem dX2_init_10 : decode cX2_init 10 = .ok (.iconst 1, 1) := by decide +kernel
theorem dX2_init_11 : decode cX2_init 11 = .ok (.lconst 0, 1) := by decide +kernel
theorem dX2_init_12 : decode cX2_init 12 = .ok (.invokestatic 13, 3) := by decide +kernel
theorem dX2_init_15 : decode cX2_init 15 = .ok (.putfield 19, 3) := by decide +kernel
theorem dX2_init_18 : decode cX2_init 18 = .ok (.aload_n 0, 1) := by decide +kernel
theorem dX2_init_19 : decode cX2_init 19 = .ok (.iconst 2, 1) := by decide +kernel
theorem dX2_init_20 : decode cX2_init 20 = .ok (.lconst 0, 1) := by decide +kernel
theorem dX2_init_21 : decode cX2_init 21 = .ok (.invokestatic 13, 3) := by decide +kernel
theorem dX2_init_24 : decode cX2_init 24 = .ok (.putfield 23, 3) := by decide +kernel
theorem dX2_init_27 : decode cX2_init 27 = .ok (.aload_n 0, 1) := by decide +kernel
theorem dX2_init_28 : decode cX2_init 28 = .ok (.aload_n 0, 1) := by decide +kernel
theorem dX2_init_29 : decode cX2_init 29 = .ok (.getfield 23, 3) := by decide +kernel
theorem dX2_init_32 : decode cX2_init 32 = .ok (.putfield 26, 3) := by decide +kernel
theorem dX2_init_35 : decode cX2_init 35 = .ok (.return_, 1) := by decide +kernel
set_option maxRecDepth 20000 in
theorem ggX2_place_X4_ofAddress : GoodIn wsX2_place wsX4_ofAddress := goodIn_r _ [7, 8, 9, 10, 11] (by decide +kernel) (by decide +kernel)
set_option maxRecDepth 20000 in
theorem gX2_place_X4_ofAddress : GoodIn wsX2_place (va_wsS RX2 13 yX4_ofAddress wsX4_ofAddress) := goodIn_app (goodIn_of _ (by decide +kernel)) ggX2_place_X4_ofAddress
theorem dX2_place_0 : decode cX2_place 0 = .ok (.aload_n 0, 1) := by decide +kernel
theorem dX2_place_1 : decode cX2_place 1 = .ok (.iconst 1, 1) := by decide +kernel
theorem dX2_place_2 : decode cX2_place 2 = .ok (.iload_n 1, 1) := by decide +kernel
theorem dX2_place_3 : decode cX2_place 3 = .ok (.i2l, 1) := by decide +kernel
theorem dX2_place_4 : decode cX2_place 4 = .ok (.invokestatic 13, 3) := by decide +kernel
theorem dX2_place_7 : decode cX2_place 7 = .ok (.putfield 19, 3) := by decide +kernel
theorem dX2_place_10 : decode cX2_place 10 = .ok (.aload_n 0, 1) := by decide +kernel
theorem dX2_place_11 : decode cX2_place 11 = .ok (.iconst 2, 1) := by decide +kernel
theorem dX2_place_12 : decode cX2_place 12 = .ok (.iload_n 2, 1) := by decide +kernel
theorem dX2_place_13 : decode cX2_place 13 = .ok (.i2l, 1) := by decide +kernel
theorem dX2_place_14 : decode cX2_place 14 = .ok (.invokestatic 13, 3) := by decide +kernel
theorem dX2_place_17 : decode cX2_place 17 = .ok (.putfield 23, 3) := by decide +kernel
theorem dX2_place_20 : decode cX2_place 20 = .ok (.aload_n 0, 1) := by decide +kernel
theorem dX2_place_21 : decode cX2_place 21 = .ok (.iconst 2, 1) := by decide +kernel
theorem dX2_place_22 : decode cX2_place 22 = .ok (.iload_n 3, 1) := by decide +kernel
theorem dX2_place_23 : decode cX2_place 23 = .ok (.i2l, 1) := by decide +kernel
theorem dX2_place_24 : decode cX2_place 24 = .ok (.invokestatic 13, 3) := by decide +kernel
theorem dX2_place_27 : decode cX2_place 27 = .ok (.putfield 26, 3) := by decide +kernel
theorem dX2_place_30 : decode cX2_place 30 = .ok (.return_, 1) := by decide +kernel
set_option maxRecDepth 20000 in
theorem ggX2_step_X2_fetch : GoodIn wsX2_step wsX2_fetch := goodIn_r _ [7, 8, 9, 10, 11, 12, 13, 14, 6, 15, 16, 17, 18, 19, 20, 21, 22, 23, 24, 25, 26, 27, 28, 29, 30, 31, 32, 33, 34, 35, 36, 37, 38, 39, 40, 41, 42, 43, 44, 45, 46, 47, 48, 49, 50, 51, 52, 53, 54, 55, 56, 57, 58, 59, 60, 61, 62, 63, 64, 65, 66, 67, 68, 69, 70, 71, 72, 73, 222, 223, 224, 225, 226, 227, 228, 229, 230, 231, 232, 233, 234, 235] (by decide +kernel) (by decide +kernel)
set_option maxRecDepth 20000 in
theorem gX2_step_X2_fetch : GoodIn wsX2_step (wsV RX2 29 RX2 yX2_fetch wsX2_fetch) := goodIn_app (goodIn_of _ (by decide +kernel)) ggX2_step_X2_fetch
set_option maxRecDepth 20000 in
theorem ggX2_step_X2_placeDstAndOp0 : GoodIn wsX2_step wsX2_placeDstAndOp0 := goodIn_r _ [77, 78, 79, 9, 1, 80, 81, 82, 83, 6, 84, 11, 85, 54, 47, 55, 56, 86, 87, 19, 88, 89, 18, 20, 21, 90, 23, 24, 25, 91, 92, 93, 94, 95, 96, 97, 98, 99, 10, 222, 223, 224, 225, 226, 227, 228, 229, 230, 231, 232, 233, 234] (by decide +kernel) (by decide +kernel)
set_option maxRecDepth 20000 in
theorem gX2_step_X2_placeDstAndOp0 : GoodIn wsX2_step (wsV RX2 33 RX2 yX2_placeDstAndOp0 wsX2_placeDstAndOp0) := goodIn_app (goodIn_of _ (by decide +kernel)) ggX2_step_X2_placeDstAndOp0
set_option maxRecDepth 20000 in
theorem ggX2_step_X2_has : GoodIn wsX2_step wsX2_has := goodIn_r _ [84, 11, 222, 223, 224, 225, 226, 227, 228, 229, 230, 231, 232, 233, 234] (by decide +kernel) (by decide +kernel)
set_option maxRecDepth 20000 in
theorem gX2_step_X2_has : GoodIn wsX2_step (wsV RX2 38 RX2 yX2_has wsX2_has) := goodIn_app (goodIn_of _ (by decide +kernel)) ggX2_step_X2_has
set_option maxRecDepth 20000 in
theorem ggX2_step_X2_saveForReturn : GoodIn wsX2_step wsX2_saveForReturn := goodIn_r _ [103, 1, 78, 80, 104, 105, 106, 6, 107, 16, 17, 18, 19, 20, 21, 22, 23, 24, 25, 108, 109, 110, 29, 111, 32, 31, 33, 34, 35, 36, 37, 38, 39, 40, 41, 112, 113, 114, 115, 116, 117, 118, 43, 44, 119, 27, 28, 30, 120, 121, 122, 123, 124, 125, 126, 127, 128, 129, 130, 131, 8, 9, 132, 133, 47, 134, 50, 51, 52, 86, 87, 88, 89, 90, 91, 92, 93, 94, 95, 96, 222, 223, 224, 225, 226, 227, 228, 229, 230, 231, 232, 233, 234, 235] (by decide +kernel) (by decide +kernel)
set_option maxRecDepth 20000 in
theorem gX2_step_X2_saveForReturn : GoodIn wsX2_step (wsV RX2 42 RX2 yX2_saveForReturn wsX2_saveForReturn) := goodIn_app (goodIn_of _ (by decide +kernel)) ggX2_step_X2_saveForReturn
set_option maxRecDepth 20000 in
theorem ggX2_step_X2_placeOp1 : GoodIn wsX2_step wsX2_placeOp1 := goodIn_r _ [138, 8, 78, 79, 80, 10, 9, 139, 81, 82, 83, 6, 84, 11, 12, 13, 14, 15, 16, 17, 18, 19, 20, 21, 22, 23, 24, 25, 26, 27, 28, 29, 30, 31, 32, 33, 34, 35, 36, 37, 38, 39, 40, 41, 140, 141, 142, 85, 54, 47, 55, 56, 86, 87, 88, 89, 90, 91, 92, 93, 94, 95, 96, 97, 98, 99, 222, 223, 224, 225, 226, 227, 228, 229, 230, 231, 232, 233, 234, 235] (by decide +kernel) (by decide +kernel)
set_option maxRecDepth 20000 in
theorem gX2_step_X2_placeOp1 : GoodIn wsX2_step (wsV RX2 45 RX2 yX2_placeOp1 wsX2_placeOp1) := goodIn_app (goodIn_of _ (by decide +kernel)) ggX2_step_X2_placeOp1
set_option maxRecDepth 20000 in
theorem ggX2_step_X2_deduce : GoodIn wsX2_step wsX2_deduce := goodIn_r _ [146, 1, 80, 139, 10, 12, 13, 14, 6, 15, 16, 17, 18, 19, 20, 21, 22, 23, 24, 25, 26, 27, 28, 29, 30, 31, 32, 33, 34, 35, 36, 37, 38, 39, 40, 41, 81, 82, 83, 84, 11, 147, 148, 149, 96, 150, 43, 44, 151, 152, 153, 154, 155, 156, 141, 142, 157, 158, 159, 95, 160, 161, 162, 87, 88, 89, 90, 91, 92, 93, 94, 163, 164, 165, 166, 167, 168, 169, 170, 171, 172, 173, 174, 175, 176, 177, 178, 179, 180, 181, 182, 183, 184, 185, 104, 105, 106, 107, 108, 109, 110, 111, 112, 113, 114, 115, 116, 117, 118, 119, 120, 121, 122, 123, 124, 125, 126, 127, 222, 223, 224, 225, 226, 227, 228, 229, 230, 231, 232, 233, 234, 235] (by decide +kernel) (by decide +kernel)
set_option maxRecDepth 20000 in
theorem gX2_step_X2_deduce : GoodIn wsX2_step (wsV RX2 48 RX2 yX2_deduce wsX2_deduce) := goodIn_app (goodIn_of _ (by decide +kernel)) ggX2_step_X2_deduce
set_option maxRecDepth 20000 in
theorem ggX2_step_X2_findRes : GoodIn wsX2_step wsX2_findRes := goodIn_r _ [189, 139, 2, 10, 80, 12, 13, 14, 6, 15, 16, 17, 18, 19, 20, 21, 22, 23, 24, 25, 26, 27, 28, 29, 30, 31, 32, 33, 34, 35, 36, 37, 38, 39, 40, 41, 81, 82, 83, 84, 11, 190, 191, 192, 96, 150, 43, 44, 193, 184, 153, 185, 155, 156, 141, 142, 157, 158, 159, 95, 160, 161, 162, 87, 88, 89, 90, 91, 92, 93, 94, 194, 195, 196, 197, 178, 179, 180, 181, 182, 183, 97, 98, 99, 222, 223, 224, 225, 226, 227, 228, 229, 230, 231, 232, 233, 234, 235] (by decide +kernel) (by decide +kernel)
set_option maxRecDepth 20000 in
theorem gX2_step_X2_findRes : GoodIn wsX2_step (wsV RX2 51 RX2 yX2_findRes wsX2_findRes) := goodIn_app (goodIn_of _ (by decide +kernel)) ggX2_step_X2_findRes
set_option maxRecDepth 20000 in
theorem ggX2_step_X2_put : GoodIn wsX2_step wsX2_put := goodIn_r _ [107, 16, 17, 18, 19, 20, 21, 22, 23, 24, 25, 108, 109, 110, 29, 111, 32, 31, 33, 34, 35, 36, 37, 38, 39, 40, 41, 112, 113, 114, 115, 116, 117, 118, 43, 44, 119, 27, 28, 30, 120, 121, 122, 123, 124, 125, 126, 127, 222, 223, 224, 225, 226, 227, 228, 229, 230, 231, 232, 233, 234, 235] (by decide +kernel) (by decide +kernel)
set_option maxRecDepth 20000 in
theorem gX2_step_X2_put : GoodIn wsX2_step (wsV RX2 60 RX2 yX2_put wsX2_put) := goodIn_app (goodIn_of _ (by decide +kernel)) ggX2_step_X2_put
set_option maxRecDepth 20000 in
theorem ggX2_step_X2_moveRegisters : GoodIn wsX2_step wsX2_moveRegisters := goodIn_r _ [201, 202, 8, 203, 79, 204, 78, 81, 82, 83, 6, 84, 11, 205, 206, 207, 208, 1, 10, 139, 12, 13, 14, 15, 16, 17, 18, 19, 20, 21, 22, 23, 24, 25, 26, 27, 28, 29, 30, 31, 32, 33, 34, 35, 36, 37, 38, 39, 40, 41, 128, 129, 130, 131, 9, 132, 133, 47, 134, 50, 51, 52, 86, 87, 88, 89, 90, 91, 92, 93, 94, 95, 96, 97, 98, 99, 190, 191, 192, 150, 43, 44, 193, 184, 153, 185, 155, 156, 141, 142, 157, 158, 159, 160, 161, 162, 209, 210, 211, 212, 2, 140, 213, 214, 215, 216, 217, 218, 219, 220, 221, 222, 223, 224, 225, 226, 227, 228, 229, 230, 231, 232, 233, 234, 235] (by decide +kernel) (by decide +kernel)
set_option maxRecDepth 20000 in
theorem gX2_step_X2_moveRegisters : GoodIn wsX2_step (wsV RX2 64 RX2 yX2_moveRegisters wsX2_moveRegisters) := goodIn_app (goodIn_of _ (by decide +kernel)) ggX2_step_X2_moveRegisters
theorem dX2_step_0 : decode cX2_step 0 = .ok (.aload_n 0, 1) := by decide +kernel
theorem dX2_step_1 : decode cX2_step 1 = .ok (.invokevirtual 29, 3) := by decide +kernel
theorem dX2_step_4 : decode cX2_step 4 = .ok (.istore_n 1, 1) := by decide +kernel
theorem dX2_step_5 : decode cX2_step 5 = .ok (.iload_n 1, 1) := by decide +kernel
theorem dX2_step_6 : decode cX2_step 6 = .ok (.ifCond .ne 8, 3) := by decide +kernel
theorem dX2_step_9 : decode cX2_step 9 = .ok (.aload_n 0, 1) := by decide +kernel
theorem dX2_step_10 : decode cX2_step 10 = .ok (.invokevirtual 33, 3) := by decide +kernel
theorem dX2_step_13 : decode cX2_step 13 = .ok (.istore_n 1, 1) := by decide +kernel
theorem dX2_step_14 : decode cX2_step 14 = .ok (.iload_n 1, 1) := by decide +kernel
theorem dX2_step_15 : decode cX2_step 15 = .ok (.ifCond .ne 18, 3) := by decide +kernel
theorem dX2_step_18 : decode cX2_step 18 = .ok (.aload_n 0, 1) := by decide +kernel
theorem dX2_step_19 : decode cX2_step 19 = .ok (.sipush 4096, 3) := by decide +kernel
theorem dX2_step_22 : decode cX2_step 22 = .ok (.invokevirtual 38, 3) := by decide +kernel
theorem dX2_step_25 : decode cX2_step 25 = .ok (.ifCond .eq 8, 3) := by decide +kernel
theorem dX2_step_28 : decode cX2_step 28 = .ok (.aload_n 0, 1) := by decide +kernel
theorem dX2_step_29 : decode cX2_step 29 = .ok (.invokevirtual 42, 3) := by decide +kernel
theorem dX2_step_32 : decode cX2_step 32 = .ok (.istore_n 1, 1) := by decide +kernel
theorem dX2_step_33 : decode cX2_step 33 = .ok (.iload_n 1, 1) := by decide +kernel
theorem dX2_step_34 : decode cX2_step 34 = .ok (.ifCond .ne 8, 3) := by decide +kernel
theorem dX2_step_37 : decode cX2_step 37 = .ok (.aload_n 0, 1) := by decide +kernel
theorem dX2_step_38 : decode cX2_step 38 = .ok (.invokevirtual 45, 3) := by decide +kernel
theorem dX2_step_41 : decode cX2_step 41 = .ok (.istore_n 1, 1) := by decide +kernel
theorem dX2_step_42 : decode cX2_step 42 = .ok (.iload_n 1, 1) := by decide +kernel
theorem dX2_step_43 : decode cX2_step 43 = .ok (.ifCond .ne 27, 3) := by decide +kernel
theorem dX2_step_46 : decode cX2_step 46 = .ok (.aload_n 0, 1) := by decide +kernel
theorem dX2_step_47 : decode cX2_step 47 = .ok (.sipush 16384, 3) := by decide +kernel
theorem dX2_step_50 : decode cX2_step 50 = .ok (.invokevirtual 38, 3) := by decide +kernel
theorem dX2_step_53 : decode cX2_step 53 = .ok (.ifCond .eq 17, 3) := by decide +kernel
theorem dX2_step_56 : decode cX2_step 56 = .ok (.aload_n 0, 1) := by decide +kernel
theorem dX2_step_57 : decode cX2_step 57 = .ok (.bipush 96, 2) := by decide +kernel
theorem dX2_step_59 : decode cX2_step 59 = .ok (.invokevirtual 38, 3) := by decide +kernel
theorem dX2_step_62 : decode cX2_step 62 = .ok (.ifCond .eq 8, 3) := by decide +kernel
theorem dX2_step_65 : decode cX2_step 65 = .ok (.aload_n 0, 1) := by decide +kernel
theorem dX2_step_66 : decode cX2_step 66 = .ok (.invokevirtual 48, 3) := by decide +kernel
theorem dX2_step_69 : decode cX2_step 69 = .ok (.istore_n 1, 1) := by decide +kernel
theorem dX2_step_70 : decode cX2_step 70 = .ok (.iload_n 1, 1) := by decide +kernel
theorem dX2_step_71 : decode cX2_step 71 = .ok (.ifCond .ne 18, 3) := by decide +kernel
theorem dX2_step_74 : decode cX2_step 74 = .ok (.aload_n 0, 1) := by decide +kernel
theorem dX2_step_75 : decode cX2_step 75 = .ok (.sipush 17792, 3) := by decide +kernel
theorem dX2_step_78 : decode cX2_step 78 = .ok (.invokevirtual 38, 3) := by decide +kernel
theorem dX2_step_81 : decode cX2_step 81 = .ok (.ifCond .eq 8, 3) := by decide +kernel
theorem dX2_step_84 : decode cX2_step 84 = .ok (.aload_n 0, 1) := by decide +kernel
theorem dX2_step_85 : decode cX2_step 85 = .ok (.invokevirtual 51, 3) := by decide +kernel
theorem dX2_step_88 : decode cX2_step 88 = .ok (.istore_n 1, 1) := by decide +kernel
theorem dX2_step_89 : decode cX2_step 89 = .ok (.iload_n 1, 1) := by decide +kernel
theorem dX2_step_90 : decode cX2_step 90 = .ok (.ifCond .ne 26, 3) := by decide +kernel
theorem dX2_step_93 : decode cX2_step 93 = .ok (.aload_n 0, 1) := by decide +kernel
theorem dX2_step_94 : decode cX2_step 94 = .ok (.sipush 16384, 3) := by decide +kernel
theorem dX2_step_97 : decode cX2_step 97 = .ok (.invokevirtual 38, 3) := by decide +kernel
theorem dX2_step_100 : decode cX2_step 100 = .ok (.ifCond .eq 16, 3) := by decide +kernel
theorem dX2_step_103 : decode cX2_step 103 = .ok (.aload_n 0, 1) := by decide +kernel
theorem dX2_step_104 : decode cX2_step 104 = .ok (.aload_n 0, 1) := by decide +kernel
theorem dX2_step_105 : decode cX2_step 105 = .ok (.getfield 54, 3) := by decide +kernel
theorem dX2_step_108 : decode cX2_step 108 = .ok (.aload_n 0, 1) := by decide +kernel
theorem dX2_step_109 : decode cX2_step 109 = .ok (.getfield 57, 3) := by decide +kernel
theorem dX2_step_112 : decode cX2_step 112 = .ok (.invokevirtual 60, 3) := by decide +kernel
theorem dX2_step_115 : decode cX2_step 115 = .ok (.istore_n 1, 1) := by decide +kernel
theorem dX2_step_116 : decode cX2_step 116 = .ok (.iload_n 1, 1) := by decide +kernel
theorem dX2_step_117 : decode cX2_step 117 = .ok (.ifCond .ne 10, 3) := by decide +kernel
theorem dX2_step_120 : decode cX2_step 120 = .ok (.aload_n 0, 1) := by decide +kernel
theorem dX2_step_121 : decode cX2_step 121 = .ok (.invokevirtual 64, 3) := by decide +kernel
theorem dX2_step_124 : decode cX2_step 124 = .ok (.goto 4, 3) := by decide +kernel
theorem dX2_step_127 : decode cX2_step 127 = .ok (.iload_n 1, 1) := by decide +kernel
theorem dX2_step_128 : decode cX2_step 128 = .ok (.ireturn, 1) := by decide +kernel
set_option maxRecDepth 20000 in
theorem ggX2_moveRegisters_X2_has : GoodIn wsX2_moveRegisters wsX2_has := goodIn_r _ [11, 12, 111, 112, 113, 114, 115, 116, 117, 118, 119, 120, 121, 122, 123] (by decide +kernel) (by decide +kernel)
set_option maxRecDepth 20000 in
theorem gX2_moveRegisters_X2_has : GoodIn wsX2_moveRegisters (wsV RX2 38 RX2 yX2_has wsX2_has) := goodIn_app (goodIn_of _ (by decide +kernel)) ggX2_moveRegisters_X2_has
set_option maxRecDepth 20000 in
theorem ggX2_moveRegisters_X2_findPcUnlessDstIsZero : GoodIn wsX2_moveRegisters wsX2_findPcUnlessDstIsZero := goodIn_r _ [16, 17, 18, 1, 19, 2, 20, 21, 22, 10, 23, 24, 25, 26, 27, 28, 29, 30, 31, 32, 33, 34, 35, 36, 37, 38, 39, 40, 41, 42, 43, 44, 45, 46, 47, 48, 49, 50, 51, 52, 53, 54, 55, 56, 57, 58, 59, 60, 61, 62, 63, 64, 65, 66, 67, 68, 69, 70, 71, 72, 73, 74, 75, 76, 77, 78, 79, 80, 81, 82, 83, 84, 85, 86, 87, 88, 89, 90, 91, 92, 93, 94, 95, 111, 112, 113, 114, 115, 116, 117, 118, 119, 120, 121, 122, 123, 124] (by decide +kernel) (by decide +kernel)
set_option maxRecDepth 20000 in
theorem gX2_moveRegisters_X2_findPcUnlessDstIsZero : GoodIn wsX2_moveRegisters (wsV RX2 67 RX2 yX2_findPcUnlessDstIsZero wsX2_findPcUnlessDstIsZero) := goodIn_app (goodIn_of _ (by decide +kernel)) ggX2_moveRegisters_X2_findPcUnlessDstIsZero
set_option maxRecDepth 20000 in
theorem ggX2_moveRegisters_X2_findPc : GoodIn wsX2_moveRegisters wsX2_findPc := goodIn_r _ [99, 100, 18, 1, 2, 7, 8, 9, 10, 11, 12, 101, 88, 27, 89, 29, 76, 77, 78, 72, 79, 80, 81, 82, 83, 84, 85, 86, 87, 90, 91, 92, 71, 93, 94, 95, 63, 64, 65, 26, 28, 66, 31, 32, 33, 67, 68, 69, 70, 50, 51, 52, 53, 54, 55, 56, 57, 58, 59, 60, 61, 62, 73, 74, 75, 111, 112, 113, 114, 115, 116, 117, 118, 119, 120, 121, 122, 123] (by decide +kernel) (by decide +kernel)
set_option maxRecDepth 20000 in
theorem gX2_moveRegisters_X2_findPc : GoodIn wsX2_moveRegisters (wsV RX2 70 RX2 yX2_findPc wsX2_findPc) := goodIn_app (goodIn_of _ (by decide +kernel)) ggX2_moveRegisters_X2_findPc
set_option maxRecDepth 20000 in
theorem ggX2_moveRegisters_X2_findAp : GoodIn wsX2_moveRegisters wsX2_findAp := goodIn_r _ [105, 4, 100, 3, 106, 7, 8, 9, 10, 11, 12, 76, 77, 27, 78, 72, 79, 80, 81, 29, 82, 83, 84, 85, 86, 87, 88, 89, 90, 91, 92, 71, 93, 94, 95, 63, 64, 65, 26, 28, 66, 31, 32, 33, 67, 68, 69, 70, 62, 73, 74, 75, 18, 111, 112, 113, 114, 115, 116, 117, 118, 119, 120, 121, 122, 123] (by decide +kernel) (by decide +kernel)
set_option maxRecDepth 20000 in
theorem gX2_moveRegisters_X2_findAp : GoodIn wsX2_moveRegisters (wsV RX2 73 RX2 yX2_findAp wsX2_findAp) := goodIn_app (goodIn_of _ (by decide +kernel)) ggX2_moveRegisters_X2_findAp
set_option maxRecDepth 20000 in
theorem ggX2_moveRegisters_X2_findFp : GoodIn wsX2_moveRegisters wsX2_findFp := goodIn_r _ [110, 6, 5, 3, 17, 18, 7, 8, 9, 10, 11, 12, 20, 21, 22, 23, 24, 25, 26, 27, 28, 29, 30, 31, 32, 33, 34, 35, 36, 37, 38, 39, 40, 41, 42, 43, 44, 45, 46, 47, 48, 49, 101, 88, 89, 111, 112, 113, 114, 115, 116, 117, 118, 119, 120, 121, 122, 123, 124] (by decide +kernel) (by decide +kernel)
set_option maxRecDepth 20000 in
theorem gX2_moveRegisters_X2_findFp : GoodIn wsX2_moveRegisters (wsV RX2 76 RX2 yX2_findFp wsX2_findFp) := goodIn_app (goodIn_of _ (by decide +kernel)) ggX2_moveRegisters_X2_findFp
theorem dX2_moveRegisters_0 : decode cX2_moveRegisters 0 = .ok (.aload_n 0, 1) := by decide +kernel
theorem dX2_moveRegisters_1 : decode cX2_moveRegisters 1 = .ok (.sipush 512, 3) := by decide +kernel
theorem dX2_moveRegisters_4 : decode cX2_moveRegisters 4 = .ok (.invokevirtual 38, 3) := by decide +kernel
theorem dX2_moveRegisters_7 : decode cX2_moveRegisters 7 = .ok (.ifCond .eq 10, 3) := by decide +kernel
theorem dX2_moveRegisters_10 : decode cX2_moveRegisters 10 = .ok (.aload_n 0, 1) := by decide +kernel
theorem dX2_moveRegisters_11 : decode cX2_moveRegisters 11 = .ok (.invokevirtual 67, 3) := by decide +kernel
theorem dX2_moveRegisters_14 : decode cX2_moveRegisters 14 = .ok (.goto 7, 3) := by decide +kernel
theorem dX2_moveRegisters_17 : decode cX2_moveRegisters 17 = .ok (.aload_n 0, 1) := by decide +kernel
theorem dX2_moveRegisters_18 : decode cX2_moveRegisters 18 = .ok (.invokevirtual 70, 3) := by decide +kernel
theorem dX2_moveRegisters_21 : decode cX2_moveRegisters 21 = .ok (.istore_n 1, 1) := by decide +kernel
theorem dX2_moveRegisters_22 : decode cX2_moveRegisters 22 = .ok (.iload_n 1, 1) := by decide +kernel
theorem dX2_moveRegisters_23 : decode cX2_moveRegisters 23 = .ok (.ifCond .ne 8, 3) := by decide +kernel
theorem dX2_moveRegisters_26 : decode cX2_moveRegisters 26 = .ok (.aload_n 0, 1) := by decide +kernel
theorem dX2_moveRegisters_27 : decode cX2_moveRegisters 27 = .ok (.invokevirtual 73, 3) := by decide +kernel
theorem dX2_moveRegisters_30 : decode cX2_moveRegisters 30 = .ok (.istore_n 1, 1) := by decide +kernel
theorem dX2_moveRegisters_31 : decode cX2_moveRegisters 31 = .ok (.iload_n 1, 1) := by decide +kernel
theorem dX2_moveRegisters_32 : decode cX2_moveRegisters 32 = .ok (.ifCond .ne 8, 3) := by decide +kernel
theorem dX2_moveRegisters_35 : decode cX2_moveRegisters 35 = .ok (.aload_n 0, 1) := by decide +kernel
theorem dX2_moveRegisters_36 : decode cX2_moveRegisters 36 = .ok (.invokevirtual 76, 3) := by decide +kernel
theorem dX2_moveRegisters_39 : decode cX2_moveRegisters 39 = .ok (.istore_n 1, 1) := by decide +kernel
theorem dX2_moveRegisters_40 : decode cX2_moveRegisters 40 = .ok (.iload_n 1, 1) := by decide +kernel
theorem dX2_moveRegisters_41 : decode cX2_moveRegisters 41 = .ok (.ifCond .ne 27, 3) := by decide +kernel
theorem dX2_moveRegisters_44 : decode cX2_moveRegisters 44 = .ok (.aload_n 0, 1) := by decide +kernel
theorem dX2_moveRegisters_45 : decode cX2_moveRegisters 45 = .ok (.aload_n 0, 1) := by decide +kernel
theorem dX2_moveRegisters_46 : decode cX2_moveRegisters 46 = .ok (.getfield 79, 3) := by decide +kernel
theorem dX2_moveRegisters_49 : decode cX2_moveRegisters 49 = .ok (.putfield 19, 3) := by decide +kernel
theorem dX2_moveRegisters_52 : decode cX2_moveRegisters 52 = .ok (.aload_n 0, 1) := by decide +kernel
theorem dX2_moveRegisters_53 : decode cX2_moveRegisters 53 = .ok (.aload_n 0, 1) := by decide +kernel
theorem dX2_moveRegisters_54 : decode cX2_moveRegisters 54 = .ok (.getfield 82, 3) := by decide +kernel
theorem dX2_moveRegisters_57 : decode cX2_moveRegisters 57 = .ok (.putfield 23, 3) := by decide +kernel
theorem dX2_moveRegisters_60 : decode cX2_moveRegisters 60 = .ok (.aload_n 0, 1) := by decide +kernel
theorem dX2_moveRegisters_61 : decode cX2_moveRegisters 61 = .ok (.aload_n 0, 1) := by decide +kernel
theorem dX2_moveRegisters_62 : decode cX2_moveRegisters 62 = .ok (.getfield 85, 3) := by decide +kernel
theorem dX2_moveRegisters_65 : decode cX2_moveRegisters 65 = .ok (.putfield 26, 3) := by decide +kernel
theorem dX2_moveRegisters_68 : decode cX2_moveRegisters 68 = .ok (.iload_n 1, 1) := by decide +kernel
theorem dX2_moveRegisters_69 : decode cX2_moveRegisters 69 = .ok (.ireturn, 1) := by decide +kernel
set_option maxRecDepth 20000 in
theorem ggX2_fetch_X2_look : GoodIn wsX2_fetch wsX2_look := goodIn_r _ [9, 10, 11, 12, 13, 14, 15, 16, 17, 18, 19, 20, 21, 22, 23, 24, 25, 26, 27, 28, 29, 30, 31, 32, 33, 34, 35, 68, 69, 70, 71, 72, 73, 74, 75, 76, 77, 78, 79, 80, 81] (by decide +kernel) (by decide +kernel)
set_option maxRecDepth 20000 in
theorem gX2_fetch_X2_look : GoodIn wsX2_fetch (wsV RX2 88 RX2 yX2_look wsX2_look) := goodIn_app (goodIn_of _ (by decide +kernel)) ggX2_fetch_X2_look
set_option maxRecDepth 20000 in
theorem ggX2_fetch_X4_isNumber : GoodIn wsX2_fetch wsX4_isNumber := goodIn_r _ [38, 15] (by decide +kernel) (by decide +kernel)
set_option maxRecDepth 20000 in
theorem gX2_fetch_X4_isNumber : GoodIn wsX2_fetch (va_wsS RX2 97 yX4_isNumber wsX4_isNumber) := goodIn_app (goodIn_of _ (by decide +kernel)) ggX2_fetch_X4_isNumber
set_option maxRecDepth 20000 in
theorem ggX2_fetch_X5_isInstruction : GoodIn wsX2_fetch wsX5_isInstruction := goodIn_r _ [42, 43, 44, 45, 41, 46, 47, 48, 49, 50, 51, 52, 53, 54, 55, 56, 57, 58, 59, 60, 61, 62, 63, 64, 65, 66] (by decide +kernel) (by decide +kernel)
set_option maxRecDepth 20000 in
theorem gX2_fetch_X5_isInstruction : GoodIn wsX2_fetch (va_wsS RX2 101 yX5_isInstruction wsX5_isInstruction) := goodIn_app (goodIn_of _ (by decide +kernel)) ggX2_fetch_X5_isInstruction
set_option maxRecDepth 20000 in
theorem ggX2_fetch_X5_flagsOf : GoodIn wsX2_fetch wsX5_flagsOf := goodIn_r _ [46] (by decide +kernel) (by decide +kernel)
set_option maxRecDepth 20000 in
theorem gX2_fetch_X5_flagsOf : GoodIn wsX2_fetch (va_wsS RX2 104 yX5_flagsOf wsX5_flagsOf) := goodIn_app (goodIn_of _ (by decide +kernel)) ggX2_fetch_X5_flagsOf
theorem dX2_fetch_0 : decode cX2_fetch 0 = .ok (.aload_n 0, 1) := by decide +kernel
theorem dX2_fetch_1 : decode cX2_fetch 1 = .ok (.aload_n 0, 1) := by decide +kernel
theorem dX2_fetch_2 : decode cX2_fetch 2 = .ok (.aload_n 0, 1) := by decide +kernel
theorem dX2_fetch_3 : decode cX2_fetch 3 = .ok (.getfield 19, 3) := by decide +kernel
theorem dX2_fetch_6 : decode cX2_fetch 6 = .ok (.invokevirtual 88, 3) := by decide +kernel
theorem dX2_fetch_9 : decode cX2_fetch 9 = .ok (.putfield 92, 3) := by decide +kernel
theorem dX2_fetch_12 : decode cX2_fetch 12 = .ok (.aload_n 0, 1) := by decide +kernel
theorem dX2_fetch_13 : decode cX2_fetch 13 = .ok (.getfield 92, 3) := by decide +kernel
theorem dX2_fetch_16 : decode cX2_fetch 16 = .ok (.ldc2_w 95, 3) := by decide +kernel
theorem dX2_fetch_19 : decode cX2_fetch 19 = .ok (.lcmp, 1) := by decide +kernel
theorem dX2_fetch_20 : decode cX2_fetch 20 = .ok (.ifCond .ne 5, 3) := by decide +kernel
theorem dX2_fetch_23 : decode cX2_fetch 23 = .ok (.iconst 1, 1) := by decide +kernel
theorem dX2_fetch_24 : decode cX2_fetch 24 = .ok (.ireturn, 1) := by decide +kernel
theorem dX2_fetch_25 : decode cX2_fetch 25 = .ok (.aload_n 0, 1) := by decide +kernel
theorem dX2_fetch_26 : decode cX2_fetch 26 = .ok (.getfield 92, 3) := by decide +kernel
theorem dX2_fetch_29 : decode cX2_fetch 29 = .ok (.invokestatic 97, 3) := by decide +kernel
theorem dX2_fetch_32 : decode cX2_fetch 32 = .ok (.ifCond .eq 13, 3) := by decide +kernel
theorem dX2_fetch_35 : decode cX2_fetch 35 = .ok (.aload_n 0, 1) := by decide +kernel
theorem dX2_fetch_36 : decode cX2_fetch 36 = .ok (.getfield 92, 3) := by decide +kernel
theorem dX2_fetch_39 : decode cX2_fetch 39 = .ok (.invokestatic 101, 3) := by decide +kernel
theorem dX2_fetch_42 : decode cX2_fetch 42 = .ok (.ifCond .ne 5, 3) := by decide +kernel
theorem dX2_fetch_45 : decode cX2_fetch 45 = .ok (.iconst 3, 1) := by decide +kernel
theorem dX2_fetch_46 : decode cX2_fetch 46 = .ok (.ireturn, 1) := by decide +kernel
theorem dX2_fetch_47 : decode cX2_fetch 47 = .ok (.aload_n 0, 1) := by decide +kernel
theorem dX2_fetch_48 : decode cX2_fetch 48 = .ok (.aload_n 0, 1) := by decide +kernel
theorem dX2_fetch_49 : decode cX2_fetch 49 = .ok (.getfield 92, 3) := by decide +kernel
theorem dX2_fetch_52 : decode cX2_fetch 52 = .ok (.invokestatic 104, 3) := by decide +kernel
theorem dX2_fetch_55 : decode cX2_fetch 55 = .ok (.putfield 108, 3) := by decide +kernel
theorem dX2_fetch_58 : decode cX2_fetch 58 = .ok (.iconst 0, 1) := by decide +kernel
theorem dX2_fetch_59 : decode cX2_fetch 59 = .ok (.ireturn, 1) := by decide +kernel
set_option maxRecDepth 20000 in
theorem ggX2_placeDstAndOp0_X2_has : GoodIn wsX2_placeDstAndOp0 wsX2_has := goodIn_r _ [10, 11, 39, 40, 41, 42, 43, 44, 45, 46, 47, 48, 49, 50, 51] (by decide +kernel) (by decide +kernel)
set_option maxRecDepth 20000 in
theorem gX2_placeDstAndOp0_X2_has : GoodIn wsX2_placeDstAndOp0 (wsV RX2 38 RX2 yX2_has wsX2_has) := goodIn_app (goodIn_of _ (by decide +kernel)) ggX2_placeDstAndOp0_X2_has
set_option maxRecDepth 20000 in
theorem ggX2_placeDstAndOp0_X5_offsetOf : GoodIn wsX2_placeDstAndOp0 wsX5_offsetOf := goodIn_r _ [15, 16] (by decide +kernel) (by decide +kernel)
set_option maxRecDepth 20000 in
theorem gX2_placeDstAndOp0_X5_offsetOf : GoodIn wsX2_placeDstAndOp0 (va_wsS RX2 112 yX5_offsetOf wsX5_offsetOf) := goodIn_app (goodIn_of _ (by decide +kernel)) ggX2_placeDstAndOp0_X5_offsetOf
set_option maxRecDepth 20000 in
theorem ggX2_placeDstAndOp0_X4_shifted : GoodIn wsX2_placeDstAndOp0 wsX4_shifted := goodIn_r _ [20, 21, 22, 19, 23, 24, 25, 26, 27, 28, 29, 30, 31, 32, 33, 34] (by decide +kernel) (by decide +kernel)
set_option maxRecDepth 20000 in
theorem gX2_placeDstAndOp0_X4_shifted : GoodIn wsX2_placeDstAndOp0 (va_wsS RX2 116 yX4_shifted wsX4_shifted) := goodIn_app (goodIn_of _ (by decide +kernel)) ggX2_placeDstAndOp0_X4_shifted
set_option maxRecDepth 20000 in
theorem ggX2_placeDstAndOp0_X2_reckoned : GoodIn wsX2_placeDstAndOp0 wsX2_reckoned := goodIn_r _ [37, 38] (by decide +kernel) (by decide +kernel)
set_option maxRecDepth 20000 in
theorem gX2_placeDstAndOp0_X2_reckoned : GoodIn wsX2_placeDstAndOp0 (va_wsS RX2 123 yX2_reckoned wsX2_reckoned) := goodIn_app (goodIn_of _ (by decide +kernel)) ggX2_placeDstAndOp0_X2_reckoned
theorem dX2_placeDstAndOp0_0 : decode cX2_placeDstAndOp0 0 = .ok (.aload_n 0, 1) := by decide +kernel
theorem dX2_placeDstAndOp0_1 : decode cX2_placeDstAndOp0 1 = .ok (.aload_n 0, 1) := by decide +kernel
theorem dX2_placeDstAndOp0_2 : decode cX2_placeDstAndOp0 2 = .ok (.iconst 1, 1) := by decide +kernel
theorem dX2_placeDstAndOp0_3 : decode cX2_placeDstAndOp0 3 = .ok (.invokevirtual 38, 3) := by decide +kernel
theorem dX2_placeDstAndOp0_6 : decode cX2_placeDstAndOp0 6 = .ok (.ifCond .eq 10, 3) := by decide +kernel
theorem dX2_placeDstAndOp0_9 : decode cX2_placeDstAndOp0 9 = .ok (.aload_n 0, 1) := by decide +kernel
theorem dX2_placeDstAndOp0_10 : decode cX2_placeDstAndOp0 10 = .ok (.getfield 26, 3) := by decide +kernel
theorem dX2_placeDstAndOp0_13 : decode cX2_placeDstAndOp0 13 = .ok (.goto 7, 3) := by decide +kernel
theorem dX2_placeDstAndOp0_16 : decode cX2_placeDstAndOp0 16 = .ok (.aload_n 0, 1) := by decide +kernel
theorem dX2_placeDstAndOp0_17 : decode cX2_placeDstAndOp0 17 = .ok (.getfield 23, 3) := by decide +kernel
theorem dX2_placeDstAndOp0_20 : decode cX2_placeDstAndOp0 20 = .ok (.aload_n 0, 1) := by decide +kernel
theorem dX2_placeDstAndOp0_21 : decode cX2_placeDstAndOp0 21 = .ok (.getfield 92, 3) := by decide +kernel
theorem dX2_placeDstAndOp0_24 : decode cX2_placeDstAndOp0 24 = .ok (.iconst 0, 1) := by decide +kernel
theorem dX2_placeDstAndOp0_25 : decode cX2_placeDstAndOp0 25 = .ok (.invokestatic 112, 3) := by decide +kernel
theorem dX2_placeDstAndOp0_28 : decode cX2_placeDstAndOp0 28 = .ok (.i2l, 1) := by decide +kernel
theorem dX2_placeDstAndOp0_29 : decode cX2_placeDstAndOp0 29 = .ok (.invokestatic 116, 3) := by decide +kernel
theorem dX2_placeDstAndOp0_32 : decode cX2_placeDstAndOp0 32 = .ok (.putfield 54, 3) := by decide +kernel
theorem dX2_placeDstAndOp0_35 : decode cX2_placeDstAndOp0 35 = .ok (.aload_n 0, 1) := by decide +kernel
theorem dX2_placeDstAndOp0_36 : decode cX2_placeDstAndOp0 36 = .ok (.aload_n 0, 1) := by decide +kernel
theorem dX2_placeDstAndOp0_37 : decode cX2_placeDstAndOp0 37 = .ok (.iconst 2, 1) := by decide +kernel
theorem dX2_placeDstAndOp0_38 : decode cX2_placeDstAndOp0 38 = .ok (.invokevirtual 38, 3) := by decide +kernel
theorem dX2_placeDstAndOp0_41 : decode cX2_placeDstAndOp0 41 = .ok (.ifCond .eq 10, 3) := by decide +kernel
theorem dX2_placeDstAndOp0_44 : decode cX2_placeDstAndOp0 44 = .ok (.aload_n 0, 1) := by decide +kernel
theorem dX2_placeDstAndOp0_45 : decode cX2_placeDstAndOp0 45 = .ok (.getfield 26, 3) := by decide +kernel
theorem dX2_placeDstAndOp0_48 : decode cX2_placeDstAndOp0 48 = .ok (.goto 7, 3) := by decide +kernel
theorem dX2_placeDstAndOp0_51 : decode cX2_placeDstAndOp0 51 = .ok (.aload_n 0, 1) := by decide +kernel
theorem dX2_placeDstAndOp0_52 : decode cX2_placeDstAndOp0 52 = .ok (.getfield 23, 3) := by decide +kernel
theorem dX2_placeDstAndOp0_55 : decode cX2_placeDstAndOp0 55 = .ok (.aload_n 0, 1) := by decide +kernel
theorem dX2_placeDstAndOp0_56 : decode cX2_placeDstAndOp0 56 = .ok (.getfield 92, 3) := by decide +kernel
theorem dX2_placeDstAndOp0_59 : decode cX2_placeDstAndOp0 59 = .ok (.iconst 1, 1) := by decide +kernel
theorem dX2_placeDstAndOp0_60 : decode cX2_placeDstAndOp0 60 = .ok (.invokestatic 112, 3) := by decide +kernel
theorem dX2_placeDstAndOp0_63 : decode cX2_placeDstAndOp0 63 = .ok (.i2l, 1) := by decide +kernel
theorem dX2_placeDstAndOp0_64 : decode cX2_placeDstAndOp0 64 = .ok (.invokestatic 116, 3) := by decide +kernel
theorem dX2_placeDstAndOp0_67 : decode cX2_placeDstAndOp0 67 = .ok (.putfield 120, 3) := by decide +kernel
theorem dX2_placeDstAndOp0_70 : decode cX2_placeDstAndOp0 70 = .ok (.aload_n 0, 1) := by decide +kernel
theorem dX2_placeDstAndOp0_71 : decode cX2_placeDstAndOp0 71 = .ok (.getfield 54, 3) := by decide +kernel
theorem dX2_placeDstAndOp0_74 : decode cX2_placeDstAndOp0 74 = .ok (.invokestatic 123, 3) := by decide +kernel
theorem dX2_placeDstAndOp0_77 : decode cX2_placeDstAndOp0 77 = .ok (.ifCond .ne 13, 3) := by decide +kernel
theorem dX2_placeDstAndOp0_80 : decode cX2_placeDstAndOp0 80 = .ok (.aload_n 0, 1) := by decide +kernel
theorem dX2_placeDstAndOp0_81 : decode cX2_placeDstAndOp0 81 = .ok (.getfield 120, 3) := by decide +kernel
theorem dX2_placeDstAndOp0_84 : decode cX2_placeDstAndOp0 84 = .ok (.invokestatic 123, 3) := by decide +kernel
theorem dX2_placeDstAndOp0_87 : decode cX2_placeDstAndOp0 87 = .ok (.goto 4, 3) := by decide +kernel
theorem dX2_placeDstAndOp0_90 : decode cX2_placeDstAndOp0 90 = .ok (.iconst 4, 1) := by decide +kernel
theorem dX2_placeDstAndOp0_91 : decode cX2_placeDstAndOp0 91 = .ok (.ireturn, 1) := by decide +kernel
set_option maxRecDepth 20000 in
theorem ggX2_saveForReturn_X2_put : GoodIn wsX2_saveForReturn wsX2_put := goodIn_r _ [8, 9, 10, 11, 12, 13, 14, 15, 16, 17, 18, 19, 20, 21, 22, 23, 24, 25, 26, 27, 28, 29, 30, 31, 32, 33, 34, 35, 36, 37, 38, 39, 40, 41, 42, 43, 44, 45, 46, 47, 48, 49, 50, 51, 52, 53, 54, 55, 80, 81, 82, 83, 84, 85, 86, 87, 88, 89, 90, 91, 92, 93] (by decide +kernel) (by decide +kernel)
set_option maxRecDepth 20000 in
theorem gX2_saveForReturn_X2_put : GoodIn wsX2_saveForReturn (wsV RX2 60 RX2 yX2_put wsX2_put) := goodIn_app (goodIn_of _ (by decide +kernel)) ggX2_saveForReturn_X2_put
set_option maxRecDepth 20000 in
theorem ggX2_saveForReturn_X2_behindInstruction : GoodIn wsX2_saveForReturn wsX2_behindInstruction := goodIn_r _ [59, 60, 61, 62, 63, 64, 65, 66, 67, 68, 69, 70, 12, 71, 72, 11, 13, 14, 73, 16, 17, 18, 74, 75, 76, 77, 78, 79, 80, 81, 82, 83, 84, 85, 86, 87, 88, 89, 90, 91, 92] (by decide +kernel) (by decide +kernel)
set_option maxRecDepth 20000 in
theorem gX2_saveForReturn_X2_behindInstruction : GoodIn wsX2_saveForReturn (wsV RX2 126 RX2 yX2_behindInstruction wsX2_behindInstruction) := goodIn_app (goodIn_of _ (by decide +kernel)) ggX2_saveForReturn_X2_behindInstruction
theorem dX2_saveForReturn_0 : decode cX2_saveForReturn 0 = .ok (.aload_n 0, 1) := by decide +kernel
theorem dX2_saveForReturn_1 : decode cX2_saveForReturn 1 = .ok (.aload_n 0, 1) := by decide +kernel
theorem dX2_saveForReturn_2 : decode cX2_saveForReturn 2 = .ok (.getfield 54, 3) := by decide +kernel
theorem dX2_saveForReturn_5 : decode cX2_saveForReturn 5 = .ok (.aload_n 0, 1) := by decide +kernel
theorem dX2_saveForReturn_6 : decode cX2_saveForReturn 6 = .ok (.getfield 26, 3) := by decide +kernel
theorem dX2_saveForReturn_9 : decode cX2_saveForReturn 9 = .ok (.invokevirtual 60, 3) := by decide +kernel
theorem dX2_saveForReturn_12 : decode cX2_saveForReturn 12 = .ok (.istore_n 1, 1) := by decide +kernel
theorem dX2_saveForReturn_13 : decode cX2_saveForReturn 13 = .ok (.iload_n 1, 1) := by decide +kernel
theorem dX2_saveForReturn_14 : decode cX2_saveForReturn 14 = .ok (.ifCond .ne 18, 3) := by decide +kernel
theorem dX2_saveForReturn_17 : decode cX2_saveForReturn 17 = .ok (.aload_n 0, 1) := by decide +kernel
theorem dX2_saveForReturn_18 : decode cX2_saveForReturn 18 = .ok (.aload_n 0, 1) := by decide +kernel
theorem dX2_saveForReturn_19 : decode cX2_saveForReturn 19 = .ok (.getfield 120, 3) := by decide +kernel
theorem dX2_saveForReturn_22 : decode cX2_saveForReturn 22 = .ok (.aload_n 0, 1) := by decide +kernel
theorem dX2_saveForReturn_23 : decode cX2_saveForReturn 23 = .ok (.invokevirtual 126, 3) := by decide +kernel
theorem dX2_saveForReturn_26 : decode cX2_saveForReturn 26 = .ok (.invokevirtual 60, 3) := by decide +kernel
theorem dX2_saveForReturn_29 : decode cX2_saveForReturn 29 = .ok (.goto 4, 3) := by decide +kernel
theorem dX2_saveForReturn_32 : decode cX2_saveForReturn 32 = .ok (.iload_n 1, 1) := by decide +kernel
theorem dX2_saveForReturn_33 : decode cX2_saveForReturn 33 = .ok (.ireturn, 1) := by decide +kernel
set_option maxRecDepth 20000 in
theorem ggX2_placeOp1_X2_has : GoodIn wsX2_placeOp1 wsX2_has := goodIn_r _ [12, 13, 66, 67, 68, 69, 70, 71, 72, 73, 74, 75, 76, 77, 78] (by decide +kernel) (by decide +kernel)
set_option maxRecDepth 20000 in
theorem gX2_placeOp1_X2_has : GoodIn wsX2_placeOp1 (wsV RX2 38 RX2 yX2_has wsX2_has) := goodIn_app (goodIn_of _ (by decide +kernel)) ggX2_placeOp1_X2_has
set_option maxRecDepth 20000 in
theorem ggX2_placeOp1_X2_look : GoodIn wsX2_placeOp1 wsX2_look := goodIn_r _ [17, 18, 19, 20, 21, 22, 23, 24, 25, 26, 27, 28, 29, 30, 31, 32, 33, 34, 35, 36, 37, 38, 39, 40, 41, 42, 43, 66, 67, 68, 69, 70, 71, 72, 73, 74, 75, 76, 77, 78, 79] (by decide +kernel) (by decide +kernel)
set_option maxRecDepth 20000 in
theorem gX2_placeOp1_X2_look : GoodIn wsX2_placeOp1 (wsV RX2 88 RX2 yX2_look wsX2_look) := goodIn_app (goodIn_of _ (by decide +kernel)) ggX2_placeOp1_X2_look
set_option maxRecDepth 20000 in
theorem ggX2_placeOp1_X4_isAddress : GoodIn wsX2_placeOp1 wsX4_isAddress := goodIn_r _ [46, 23] (by decide +kernel) (by decide +kernel)
set_option maxRecDepth 20000 in
theorem gX2_placeOp1_X4_isAddress : GoodIn wsX2_placeOp1 (va_wsS RX2 130 yX4_isAddress wsX4_isAddress) := goodIn_app (goodIn_of _ (by decide +kernel)) ggX2_placeOp1_X4_isAddress
set_option maxRecDepth 20000 in
theorem ggX2_placeOp1_X5_offsetOf : GoodIn wsX2_placeOp1 wsX5_offsetOf := goodIn_r _ [50, 51] (by decide +kernel) (by decide +kernel)
set_option maxRecDepth 20000 in
theorem gX2_placeOp1_X5_offsetOf : GoodIn wsX2_placeOp1 (va_wsS RX2 112 yX5_offsetOf wsX5_offsetOf) := goodIn_app (goodIn_of _ (by decide +kernel)) ggX2_placeOp1_X5_offsetOf
set_option maxRecDepth 20000 in
theorem ggX2_placeOp1_X4_shifted : GoodIn wsX2_placeOp1 wsX4_shifted := goodIn_r _ [54, 55, 20, 21, 22, 23, 56, 25, 26, 27, 57, 58, 59, 60, 61, 62] (by decide +kernel) (by decide +kernel)
set_option maxRecDepth 20000 in
theorem gX2_placeOp1_X4_shifted : GoodIn wsX2_placeOp1 (va_wsS RX2 116 yX4_shifted wsX4_shifted) := goodIn_app (goodIn_of _ (by decide +kernel)) ggX2_placeOp1_X4_shifted
set_option maxRecDepth 20000 in
theorem ggX2_placeOp1_X2_reckoned : GoodIn wsX2_placeOp1 wsX2_reckoned := goodIn_r _ [65, 5] (by decide +kernel) (by decide +kernel)
set_option maxRecDepth 20000 in
theorem gX2_placeOp1_X2_reckoned : GoodIn wsX2_placeOp1 (va_wsS RX2 123 yX2_reckoned wsX2_reckoned) := goodIn_app (goodIn_of _ (by decide +kernel)) ggX2_placeOp1_X2_reckoned
theorem dX2_placeOp1_0 : decode cX2_placeOp1 0 = .ok (.aload_n 0, 1) := by decide +kernel
theorem dX2_placeOp1_1 : decode cX2_placeOp1 1 = .ok (.iconst 4, 1) := by decide +kernel
theorem dX2_placeOp1_2 : decode cX2_placeOp1 2 = .ok (.invokevirtual 38, 3) := by decide +kernel
theorem dX2_placeOp1_5 : decode cX2_placeOp1 5 = .ok (.ifCond .eq 11, 3) := by decide +kernel
theorem dX2_placeOp1_8 : decode cX2_placeOp1 8 = .ok (.aload_n 0, 1) := by decide +kernel
theorem dX2_placeOp1_9 : decode cX2_placeOp1 9 = .ok (.getfield 19, 3) := by decide +kernel
theorem dX2_placeOp1_12 : decode cX2_placeOp1 12 = .ok (.lstore_n 1, 1) := by decide +kernel
theorem dX2_placeOp1_13 : decode cX2_placeOp1 13 = .ok (.goto 67, 3) := by decide +kernel
theorem dX2_placeOp1_16 : decode cX2_placeOp1 16 = .ok (.aload_n 0, 1) := by decide +kernel
theorem dX2_placeOp1_17 : decode cX2_placeOp1 17 = .ok (.bipush 8, 2) := by decide +kernel
theorem dX2_placeOp1_19 : decode cX2_placeOp1 19 = .ok (.invokevirtual 38, 3) := by decide +kernel
theorem dX2_placeOp1_22 : decode cX2_placeOp1 22 = .ok (.ifCond .eq 11, 3) := by decide +kernel
theorem dX2_placeOp1_25 : decode cX2_placeOp1 25 = .ok (.aload_n 0, 1) := by decide +kernel
theorem dX2_placeOp1_26 : decode cX2_placeOp1 26 = .ok (.getfield 26, 3) := by decide +kernel
theorem dX2_placeOp1_29 : decode cX2_placeOp1 29 = .ok (.lstore_n 1, 1) := by decide +kernel
theorem dX2_placeOp1_30 : decode cX2_placeOp1 30 = .ok (.goto 50, 3) := by decide +kernel
theorem dX2_placeOp1_33 : decode cX2_placeOp1 33 = .ok (.aload_n 0, 1) := by decide +kernel
theorem dX2_placeOp1_34 : decode cX2_placeOp1 34 = .ok (.bipush 16, 2) := by decide +kernel
theorem dX2_placeOp1_36 : decode cX2_placeOp1 36 = .ok (.invokevirtual 38, 3) := by decide +kernel
theorem dX2_placeOp1_39 : decode cX2_placeOp1 39 = .ok (.ifCond .eq 11, 3) := by decide +kernel
theorem dX2_placeOp1_42 : decode cX2_placeOp1 42 = .ok (.aload_n 0, 1) := by decide +kernel
theorem dX2_placeOp1_43 : decode cX2_placeOp1 43 = .ok (.getfield 23, 3) := by decide +kernel
theorem dX2_placeOp1_46 : decode cX2_placeOp1 46 = .ok (.lstore_n 1, 1) := by decide +kernel
theorem dX2_placeOp1_47 : decode cX2_placeOp1 47 = .ok (.goto 33, 3) := by decide +kernel
theorem dX2_placeOp1_50 : decode cX2_placeOp1 50 = .ok (.aload_n 0, 1) := by decide +kernel
theorem dX2_placeOp1_51 : decode cX2_placeOp1 51 = .ok (.aload_n 0, 1) := by decide +kernel
theorem dX2_placeOp1_52 : decode cX2_placeOp1 52 = .ok (.getfield 120, 3) := by decide +kernel
theorem dX2_placeOp1_55 : decode cX2_placeOp1 55 = .ok (.invokevirtual 88, 3) := by decide +kernel
theorem dX2_placeOp1_58 : decode cX2_placeOp1 58 = .ok (.lstore_n 1, 1) := by decide +kernel
theorem dX2_placeOp1_59 : decode cX2_placeOp1 59 = .ok (.lload_n 1, 1) := by decide +kernel
theorem dX2_placeOp1_60 : decode cX2_placeOp1 60 = .ok (.invokestatic 130, 3) := by decide +kernel
theorem dX2_placeOp1_63 : decode cX2_placeOp1 63 = .ok (.ifCond .ne 17, 3) := by decide +kernel
theorem dX2_placeOp1_66 : decode cX2_placeOp1 66 = .ok (.lload_n 1, 1) := by decide +kernel
theorem dX2_placeOp1_67 : decode cX2_placeOp1 67 = .ok (.ldc2_w 95, 3) := by decide +kernel
theorem dX2_placeOp1_70 : decode cX2_placeOp1 70 = .ok (.lcmp, 1) := by decide +kernel
theorem dX2_placeOp1_71 : decode cX2_placeOp1 71 = .ok (.ifCond .ne 7, 3) := by decide +kernel
theorem dX2_placeOp1_74 : decode cX2_placeOp1 74 = .ok (.iconst 1, 1) := by decide +kernel
theorem dX2_placeOp1_75 : decode cX2_placeOp1 75 = .ok (.goto 4, 3) := by decide +kernel
theorem dX2_placeOp1_78 : decode cX2_placeOp1 78 = .ok (.iconst 4, 1) := by decide +kernel
theorem dX2_placeOp1_79 : decode cX2_placeOp1 79 = .ok (.ireturn, 1) := by decide +kernel
theorem dX2_placeOp1_80 : decode cX2_placeOp1 80 = .ok (.aload_n 0, 1) := by decide +kernel
theorem dX2_placeOp1_81 : decode cX2_placeOp1 81 = .ok (.lload_n 1, 1) := by decide +kernel
theorem dX2_placeOp1_82 : decode cX2_placeOp1 82 = .ok (.aload_n 0, 1) := by decide +kernel
theorem dX2_placeOp1_83 : decode cX2_placeOp1 83 = .ok (.getfield 92, 3) := by decide +kernel
theorem dX2_placeOp1_86 : decode cX2_placeOp1 86 = .ok (.iconst 2, 1) := by decide +kernel
theorem dX2_placeOp1_87 : decode cX2_placeOp1 87 = .ok (.invokestatic 112, 3) := by decide +kernel
theorem dX2_placeOp1_90 : decode cX2_placeOp1 90 = .ok (.i2l, 1) := by decide +kernel
theorem dX2_placeOp1_91 : decode cX2_placeOp1 91 = .ok (.invokestatic 116, 3) := by decide +kernel
theorem dX2_placeOp1_94 : decode cX2_placeOp1 94 = .ok (.putfield 133, 3) := by decide +kernel
theorem dX2_placeOp1_97 : decode cX2_placeOp1 97 = .ok (.aload_n 0, 1) := by decide +kernel
theorem dX2_placeOp1_98 : decode cX2_placeOp1 98 = .ok (.getfield 133, 3) := by decide +kernel
theorem dX2_placeOp1_101 : decode cX2_placeOp1 101 = .ok (.invokestatic 123, 3) := by decide +kernel
theorem dX2_placeOp1_104 : decode cX2_placeOp1 104 = .ok (.ireturn, 1) := by decide +kernel
set_option maxRecDepth 20000 in
theorem ggX2_deduce_X2_look : GoodIn wsX2_deduce wsX2_look := goodIn_r _ [9, 10, 11, 12, 13, 14, 15, 16, 17, 18, 19, 20, 21, 22, 23, 24, 25, 26, 27, 28, 29, 30, 31, 32, 33, 34, 35, 118, 119, 120, 121, 122, 123, 124, 125, 126, 127, 128, 129, 130, 131] (by decide +kernel) (by decide +kernel)
set_option maxRecDepth 20000 in
theorem gX2_deduce_X2_look : GoodIn wsX2_deduce (wsV RX2 88 RX2 yX2_look wsX2_look) := goodIn_app (goodIn_of _ (by decide +kernel)) ggX2_deduce_X2_look
set_option maxRecDepth 20000 in
theorem ggX2_deduce_X2_has : GoodIn wsX2_deduce wsX2_has := goodIn_r _ [39, 40, 118, 119, 120, 121, 122, 123, 124, 125, 126, 127, 128, 129, 130] (by decide +kernel) (by decide +kernel)
set_option maxRecDepth 20000 in
theorem gX2_deduce_X2_has : GoodIn wsX2_deduce (wsV RX2 38 RX2 yX2_has wsX2_has) := goodIn_app (goodIn_of _ (by decide +kernel)) ggX2_deduce_X2_has
set_option maxRecDepth 20000 in
theorem ggX2_deduce_X4_minus : GoodIn wsX2_deduce wsX4_minus := goodIn_r _ [43, 44, 45, 46, 13, 47, 15, 48, 49, 50, 51, 52, 53, 54, 55, 56, 57, 58, 59, 60, 61, 62, 63, 64, 65, 12, 14, 66, 17, 18, 19, 67, 68, 69, 70, 71, 72, 73, 74, 75, 76, 77] (by decide +kernel) (by decide +kernel)
set_option maxRecDepth 20000 in
theorem gX2_deduce_X4_minus : GoodIn wsX2_deduce (va_wsS RX2 136 yX4_minus wsX4_minus) := goodIn_app (goodIn_of _ (by decide +kernel)) ggX2_deduce_X4_minus
set_option maxRecDepth 20000 in
theorem ggX2_deduce_X4_over : GoodIn wsX2_deduce wsX4_over := goodIn_r _ [80, 44, 45, 46, 13, 47, 15, 81, 82, 50, 83, 84, 85, 86, 87, 88, 89, 52, 90, 91, 92, 93] (by decide +kernel) (by decide +kernel)
set_option maxRecDepth 20000 in
theorem gX2_deduce_X4_over : GoodIn wsX2_deduce (va_wsS RX2 139 yX4_over wsX4_over) := goodIn_app (goodIn_of _ (by decide +kernel)) ggX2_deduce_X4_over
set_option maxRecDepth 20000 in
theorem ggX2_deduce_X2_put : GoodIn wsX2_deduce wsX2_put := goodIn_r _ [97, 10, 11, 12, 13, 14, 15, 16, 17, 18, 19, 98, 99, 100, 23, 101, 26, 25, 27, 28, 29, 30, 31, 32, 33, 34, 35, 102, 103, 104, 105, 106, 107, 108, 46, 47, 109, 21, 22, 24, 110, 111, 112, 113, 114, 115, 116, 117, 118, 119, 120, 121, 122, 123, 124, 125, 126, 127, 128, 129, 130, 131] (by decide +kernel) (by decide +kernel)
set_option maxRecDepth 20000 in
theorem gX2_deduce_X2_put : GoodIn wsX2_deduce (wsV RX2 60 RX2 yX2_put wsX2_put) := goodIn_app (goodIn_of _ (by decide +kernel)) ggX2_deduce_X2_put
theorem dX2_deduce_0 : decode cX2_deduce 0 = .ok (.aload_n 0, 1) := by decide +kernel
theorem dX2_deduce_1 : decode cX2_deduce 1 = .ok (.aload_n 0, 1) := by decide +kernel
theorem dX2_deduce_2 : decode cX2_deduce 2 = .ok (.getfield 54, 3) := by decide +kernel
theorem dX2_deduce_5 : decode cX2_deduce 5 = .ok (.invokevirtual 88, 3) := by decide +kernel
theorem dX2_deduce_8 : decode cX2_deduce 8 = .ok (.lstore_n 1, 1) := by decide +kernel
theorem dX2_deduce_9 : decode cX2_deduce 9 = .ok (.aload_n 0, 1) := by decide +kernel
theorem dX2_deduce_10 : decode cX2_deduce 10 = .ok (.aload_n 0, 1) := by decide +kernel
theorem dX2_deduce_11 : decode cX2_deduce 11 = .ok (.getfield 120, 3) := by decide +kernel
theorem dX2_deduce_14 : decode cX2_deduce 14 = .ok (.invokevirtual 88, 3) := by decide +kernel
theorem dX2_deduce_17 : decode cX2_deduce 17 = .ok (.lstore_n 3, 1) := by decide +kernel
theorem dX2_deduce_18 : decode cX2_deduce 18 = .ok (.aload_n 0, 1) := by decide +kernel
theorem dX2_deduce_19 : decode cX2_deduce 19 = .ok (.aload_n 0, 1) := by decide +kernel
theorem dX2_deduce_20 : decode cX2_deduce 20 = .ok (.getfield 133, 3) := by decide +kernel
theorem dX2_deduce_23 : decode cX2_deduce 23 = .ok (.invokevirtual 88, 3) := by decide +kernel
theorem dX2_deduce_26 : decode cX2_deduce 26 = .ok (.lstore 5, 2) := by decide +kernel
theorem dX2_deduce_28 : decode cX2_deduce 28 = .ok (.lload_n 3, 1) := by decide +kernel
theorem dX2_deduce_29 : decode cX2_deduce 29 = .ok (.ldc2_w 95, 3) := by decide +kernel
theorem dX2_deduce_32 : decode cX2_deduce 32 = .ok (.lcmp, 1) := by decide +kernel
theorem dX2_deduce_33 : decode cX2_deduce 33 = .ok (.ifCond .ne 7, 3) := by decide +kernel
theorem dX2_deduce_36 : decode cX2_deduce 36 = .ok (.iconst 1, 1) := by decide +kernel
theorem dX2_deduce_37 : decode cX2_deduce 37 = .ok (.goto 4, 3) := by decide +kernel
theorem dX2_deduce_40 : decode cX2_deduce 40 = .ok (.iconst 0, 1) := by decide +kernel
theorem dX2_deduce_41 : decode cX2_deduce 41 = .ok (.istore 7, 2) := by decide +kernel
theorem dX2_deduce_43 : decode cX2_deduce 43 = .ok (.lload 5, 2) := by decide +kernel
theorem dX2_deduce_45 : decode cX2_deduce 45 = .ok (.ldc2_w 95, 3) := by decide +kernel
theorem dX2_deduce_48 : decode cX2_deduce 48 = .ok (.lcmp, 1) := by decide +kernel
theorem dX2_deduce_49 : decode cX2_deduce 49 = .ok (.ifCond .ne 7, 3) := by decide +kernel
theorem dX2_deduce_52 : decode cX2_deduce 52 = .ok (.iconst 1, 1) := by decide +kernel
theorem dX2_deduce_53 : decode cX2_deduce 53 = .ok (.goto 4, 3) := by decide +kernel
theorem dX2_deduce_56 : decode cX2_deduce 56 = .ok (.iconst 0, 1) := by decide +kernel
theorem dX2_deduce_57 : decode cX2_deduce 57 = .ok (.istore 8, 2) := by decide +kernel
theorem dX2_deduce_59 : decode cX2_deduce 59 = .ok (.lload_n 1, 1) := by decide +kernel
theorem dX2_deduce_60 : decode cX2_deduce 60 = .ok (.ldc2_w 95, 3) := by decide +kernel
theorem dX2_deduce_63 : decode cX2_deduce 63 = .ok (.lcmp, 1) := by decide +kernel
theorem dX2_deduce_64 : decode cX2_deduce 64 = .ok (.ifCond .eq 10, 3) := by decide +kernel
theorem dX2_deduce_67 : decode cX2_deduce 67 = .ok (.iload 7, 2) := by decide +kernel
theorem dX2_deduce_69 : decode cX2_deduce 69 = .ok (.iload 8, 2) := by decide +kernel
theorem dX2_deduce_71 : decode cX2_deduce 71 = .ok (.if_icmp .ne 5, 3) := by decide +kernel
theorem dX2_deduce_74 : decode cX2_deduce 74 = .ok (.iconst 0, 1) := by decide +kernel
theorem dX2_deduce_75 : decode cX2_deduce 75 = .ok (.ireturn, 1) := by decide +kernel
theorem dX2_deduce_76 : decode cX2_deduce 76 = .ok (.iload 7, 2) := by decide +kernel
theorem dX2_deduce_78 : decode cX2_deduce 78 = .ok (.ifCond .eq 8, 3) := by decide +kernel
theorem dX2_deduce_81 : decode cX2_deduce 81 = .ok (.lload 5, 2) := by decide +kernel
theorem dX2_deduce_83 : decode cX2_deduce 83 = .ok (.goto 4, 3) := by decide +kernel
theorem dX2_deduce_86 : decode cX2_deduce 86 = .ok (.lload_n 3, 1) := by decide +kernel
theorem dX2_deduce_87 : decode cX2_deduce 87 = .ok (.lstore 9, 2) := by decide +kernel
theorem dX2_deduce_89 : decode cX2_deduce 89 = .ok (.aload_n 0, 1) := by decide +kernel
theorem dX2_deduce_90 : decode cX2_deduce 90 = .ok (.bipush 64, 2) := by decide +kernel
theorem dX2_deduce_92 : decode cX2_deduce 92 = .ok (.invokevirtual 38, 3) := by decide +kernel
theorem dX2_deduce_95 : decode cX2_deduce 95 = .ok (.ifCond .eq 12, 3) := by decide +kernel
theorem dX2_deduce_98 : decode cX2_deduce 98 = .ok (.lload 9, 2) := by decide +kernel
theorem dX2_deduce_100 : decode cX2_deduce 100 = .ok (.lconst 0, 1) := by decide +kernel
theorem dX2_deduce_101 : decode cX2_deduce 101 = .ok (.lcmp, 1) := by decide +kernel
theorem dX2_deduce_102 : decode cX2_deduce 102 = .ok (.ifCond .ne 5, 3) := by decide +kernel
theorem dX2_deduce_105 : decode cX2_deduce 105 = .ok (.iconst 0, 1) := by decide +kernel
theorem dX2_deduce_106 : decode cX2_deduce 106 = .ok (.ireturn, 1) := by decide +kernel
theorem dX2_deduce_107 : decode cX2_deduce 107 = .ok (.aload_n 0, 1) := by decide +kernel
theorem dX2_deduce_108 : decode cX2_deduce 108 = .ok (.bipush 32, 2) := by decide +kernel
theorem dX2_deduce_110 : decode cX2_deduce 110 = .ok (.invokevirtual 38, 3) := by decide +kernel
theorem dX2_deduce_113 : decode cX2_deduce 113 = .ok (.ifCond .eq 12, 3) := by decide +kernel
theorem dX2_deduce_116 : decode cX2_deduce 116 = .ok (.lload_n 1, 1) := by decide +kernel
theorem dX2_deduce_117 : decode cX2_deduce 117 = .ok (.lload 9, 2) := by decide +kernel
theorem dX2_deduce_119 : decode cX2_deduce 119 = .ok (.invokestatic 136, 3) := by decide +kernel
theorem dX2_deduce_122 : decode cX2_deduce 122 = .ok (.goto 9, 3) := by decide +kernel
theorem dX2_deduce_125 : decode cX2_deduce 125 = .ok (.lload_n 1, 1) := by decide +kernel
theorem dX2_deduce_126 : decode cX2_deduce 126 = .ok (.lload 9, 2) := by decide +kernel
theorem dX2_deduce_128 : decode cX2_deduce 128 = .ok (.invokestatic 139, 3) := by decide +kernel
theorem dX2_deduce_131 : decode cX2_deduce 131 = .ok (.lstore 11, 2) := by decide +kernel
theorem dX2_deduce_133 : decode cX2_deduce 133 = .ok (.lload 11, 2) := by decide +kernel
theorem dX2_deduce_135 : decode cX2_deduce 135 = .ok (.ldc2_w 95, 3) := by decide +kernel
theorem dX2_deduce_138 : decode cX2_deduce 138 = .ok (.lcmp, 1) := by decide +kernel
theorem dX2_deduce_139 : decode cX2_deduce 139 = .ok (.ifCond .ne 7, 3) := by decide +kernel
theorem dX2_deduce_142 : decode cX2_deduce 142 = .ok (.iconst 4, 1) := by decide +kernel
theorem dX2_deduce_143 : decode cX2_deduce 143 = .ok (.goto 25, 3) := by decide +kernel
theorem dX2_deduce_146 : decode cX2_deduce 146 = .ok (.aload_n 0, 1) := by decide +kernel
theorem dX2_deduce_147 : decode cX2_deduce 147 = .ok (.iload 7, 2) := by decide +kernel
theorem dX2_deduce_149 : decode cX2_deduce 149 = .ok (.ifCond .eq 10, 3) := by decide +kernel
theorem dX2_deduce_152 : decode cX2_deduce 152 = .ok (.aload_n 0, 1) := by decide +kernel
theorem dX2_deduce_153 : decode cX2_deduce 153 = .ok (.getfield 120, 3) := by decide +kernel
theorem dX2_deduce_156 : decode cX2_deduce 156 = .ok (.goto 7, 3) := by decide +kernel
theorem dX2_deduce_159 : decode cX2_deduce 159 = .ok (.aload_n 0, 1) := by decide +kernel
theorem dX2_deduce_160 : decode cX2_deduce 160 = .ok (.getfield 133, 3) := by decide +kernel
theorem dX2_deduce_163 : decode cX2_deduce 163 = .ok (.lload 11, 2) := by decide +kernel
theorem dX2_deduce_165 : decode cX2_deduce 165 = .ok (.invokevirtual 60, 3) := by decide +kernel
theorem dX2_deduce_168 : decode cX2_deduce 168 = .ok (.ireturn, 1) := by decide +kernel
set_option maxRecDepth 20000 in
theorem ggX2_findRes_X2_look : GoodIn wsX2_findRes wsX2_look := goodIn_r _ [9, 10, 11, 12, 13, 14, 15, 16, 17, 18, 19, 20, 21, 22, 23, 24, 25, 26, 27, 28, 29, 30, 31, 32, 33, 34, 35, 84, 85, 86, 87, 88, 89, 90, 91, 92, 93, 94, 95, 96, 97] (by decide +kernel) (by decide +kernel)
set_option maxRecDepth 20000 in
theorem gX2_findRes_X2_look : GoodIn wsX2_findRes (wsV RX2 88 RX2 yX2_look wsX2_look) := goodIn_app (goodIn_of _ (by decide +kernel)) ggX2_findRes_X2_look
set_option maxRecDepth 20000 in
theorem ggX2_findRes_X2_has : GoodIn wsX2_findRes wsX2_has := goodIn_r _ [39, 40, 84, 85, 86, 87, 88, 89, 90, 91, 92, 93, 94, 95, 96] (by decide +kernel) (by decide +kernel)
set_option maxRecDepth 20000 in
theorem gX2_findRes_X2_has : GoodIn wsX2_findRes (wsV RX2 38 RX2 yX2_has wsX2_has) := goodIn_app (goodIn_of _ (by decide +kernel)) ggX2_findRes_X2_has
set_option maxRecDepth 20000 in
theorem ggX2_findRes_X4_plus : GoodIn wsX2_findRes wsX4_plus := goodIn_r _ [43, 44, 45, 46, 13, 47, 15, 48, 49, 50, 51, 52, 53, 54, 55, 56, 57, 58, 59, 60, 61, 62, 63, 64, 65, 12, 14, 66, 17, 18, 19, 67, 68, 69, 70] (by decide +kernel) (by decide +kernel)
set_option maxRecDepth 20000 in
theorem gX2_findRes_X4_plus : GoodIn wsX2_findRes (va_wsS RX2 142 yX4_plus wsX4_plus) := goodIn_app (goodIn_of _ (by decide +kernel)) ggX2_findRes_X4_plus
set_option maxRecDepth 20000 in
theorem ggX2_findRes_X4_times : GoodIn wsX2_findRes wsX4_times := goodIn_r _ [73, 44, 45, 46, 13, 47, 15, 74, 75, 50, 76, 77, 78, 52, 79, 80, 49, 51] (by decide +kernel) (by decide +kernel)
set_option maxRecDepth 20000 in
theorem gX2_findRes_X4_times : GoodIn wsX2_findRes (va_wsS RX2 145 yX4_times wsX4_times) := goodIn_app (goodIn_of _ (by decide +kernel)) ggX2_findRes_X4_times
set_option maxRecDepth 20000 in
theorem ggX2_findRes_X2_reckoned : GoodIn wsX2_findRes wsX2_reckoned := goodIn_r _ [83, 3] (by decide +kernel) (by decide +kernel)
set_option maxRecDepth 20000 in
theorem gX2_findRes_X2_reckoned : GoodIn wsX2_findRes (va_wsS RX2 123 yX2_reckoned wsX2_reckoned) := goodIn_app (goodIn_of _ (by decide +kernel)) ggX2_findRes_X2_reckoned
theorem dX2_findRes_0 : decode cX2_findRes 0 = .ok (.aload_n 0, 1) := by decide +kernel
theorem dX2_findRes_1 : decode cX2_findRes 1 = .ok (.aload_n 0, 1) := by decide +kernel
theorem dX2_findRes_2 : decode cX2_findRes 2 = .ok (.aload_n 0, 1) := by decide +kernel
theorem dX2_findRes_3 : decode cX2_findRes 3 = .ok (.getfield 133, 3) := by decide +kernel
theorem dX2_findRes_6 : decode cX2_findRes 6 = .ok (.invokevirtual 88, 3) := by decide +kernel
theorem dX2_findRes_9 : decode cX2_findRes 9 = .ok (.putfield 57, 3) := by decide +kernel
theorem dX2_findRes_12 : decode cX2_findRes 12 = .ok (.aload_n 0, 1) := by decide +kernel
theorem dX2_findRes_13 : decode cX2_findRes 13 = .ok (.getfield 57, 3) := by decide +kernel
theorem dX2_findRes_16 : decode cX2_findRes 16 = .ok (.ldc2_w 95, 3) := by decide +kernel
theorem dX2_findRes_19 : decode cX2_findRes 19 = .ok (.lcmp, 1) := by decide +kernel
theorem dX2_findRes_20 : decode cX2_findRes 20 = .ok (.ifCond .ne 5, 3) := by decide +kernel
theorem dX2_findRes_23 : decode cX2_findRes 23 = .ok (.iconst 1, 1) := by decide +kernel
theorem dX2_findRes_24 : decode cX2_findRes 24 = .ok (.ireturn, 1) := by decide +kernel
theorem dX2_findRes_25 : decode cX2_findRes 25 = .ok (.aload_n 0, 1) := by decide +kernel
theorem dX2_findRes_26 : decode cX2_findRes 26 = .ok (.bipush 96, 2) := by decide +kernel
theorem dX2_findRes_28 : decode cX2_findRes 28 = .ok (.invokevirtual 38, 3) := by decide +kernel
theorem dX2_findRes_31 : decode cX2_findRes 31 = .ok (.ifCond .ne 5, 3) := by decide +kernel
theorem dX2_findRes_34 : decode cX2_findRes 34 = .ok (.iconst 0, 1) := by decide +kernel
theorem dX2_findRes_35 : decode cX2_findRes 35 = .ok (.ireturn, 1) := by decide +kernel
theorem dX2_findRes_36 : decode cX2_findRes 36 = .ok (.aload_n 0, 1) := by decide +kernel
theorem dX2_findRes_37 : decode cX2_findRes 37 = .ok (.aload_n 0, 1) := by decide +kernel
theorem dX2_findRes_38 : decode cX2_findRes 38 = .ok (.getfield 120, 3) := by decide +kernel
theorem dX2_findRes_41 : decode cX2_findRes 41 = .ok (.invokevirtual 88, 3) := by decide +kernel
theorem dX2_findRes_44 : decode cX2_findRes 44 = .ok (.lstore_n 1, 1) := by decide +kernel
theorem dX2_findRes_45 : decode cX2_findRes 45 = .ok (.lload_n 1, 1) := by decide +kernel
theorem dX2_findRes_46 : decode cX2_findRes 46 = .ok (.ldc2_w 95, 3) := by decide +kernel
theorem dX2_findRes_49 : decode cX2_findRes 49 = .ok (.lcmp, 1) := by decide +kernel
theorem dX2_findRes_50 : decode cX2_findRes 50 = .ok (.ifCond .ne 5, 3) := by decide +kernel
theorem dX2_findRes_53 : decode cX2_findRes 53 = .ok (.iconst 1, 1) := by decide +kernel
theorem dX2_findRes_54 : decode cX2_findRes 54 = .ok (.ireturn, 1) := by decide +kernel
theorem dX2_findRes_55 : decode cX2_findRes 55 = .ok (.aload_n 0, 1) := by decide +kernel
theorem dX2_findRes_56 : decode cX2_findRes 56 = .ok (.aload_n 0, 1) := by decide +kernel
theorem dX2_findRes_57 : decode cX2_findRes 57 = .ok (.bipush 32, 2) := by decide +kernel
theorem dX2_findRes_59 : decode cX2_findRes 59 = .ok (.invokevirtual 38, 3) := by decide +kernel
theorem dX2_findRes_62 : decode cX2_findRes 62 = .ok (.ifCond .eq 14, 3) := by decide +kernel
theorem dX2_findRes_65 : decode cX2_findRes 65 = .ok (.lload_n 1, 1) := by decide +kernel
theorem dX2_findRes_66 : decode cX2_findRes 66 = .ok (.aload_n 0, 1) := by decide +kernel
theorem dX2_findRes_67 : decode cX2_findRes 67 = .ok (.getfield 57, 3) := by decide +kernel
theorem dX2_findRes_70 : decode cX2_findRes 70 = .ok (.invokestatic 142, 3) := by decide +kernel
theorem dX2_findRes_73 : decode cX2_findRes 73 = .ok (.goto 11, 3) := by decide +kernel
theorem dX2_findRes_76 : decode cX2_findRes 76 = .ok (.lload_n 1, 1) := by decide +kernel
theorem dX2_findRes_77 : decode cX2_findRes 77 = .ok (.aload_n 0, 1) := by decide +kernel
theorem dX2_findRes_78 : decode cX2_findRes 78 = .ok (.getfield 57, 3) := by decide +kernel
theorem dX2_findRes_81 : decode cX2_findRes 81 = .ok (.invokestatic 145, 3) := by decide +kernel
theorem dX2_findRes_84 : decode cX2_findRes 84 = .ok (.putfield 57, 3) := by decide +kernel
theorem dX2_findRes_87 : decode cX2_findRes 87 = .ok (.aload_n 0, 1) := by decide +kernel
theorem dX2_findRes_88 : decode cX2_findRes 88 = .ok (.getfield 57, 3) := by decide +kernel
theorem dX2_findRes_91 : decode cX2_findRes 91 = .ok (.invokestatic 123, 3) := by decide +kernel
theorem dX2_findRes_94 : decode cX2_findRes 94 = .ok (.ireturn, 1) := by decide +kernel
set_option maxRecDepth 20000 in
theorem ggX2_findPc_X2_has : GoodIn wsX2_findPc wsX2_has := goodIn_r _ [9, 10, 65, 66, 67, 68, 69, 70, 71, 72, 73, 74, 75, 76, 77] (by decide +kernel) (by decide +kernel)
set_option maxRecDepth 20000 in
theorem gX2_findPc_X2_has : GoodIn wsX2_findPc (wsV RX2 38 RX2 yX2_has wsX2_has) := goodIn_app (goodIn_of _ (by decide +kernel)) ggX2_findPc_X2_has
set_option maxRecDepth 20000 in
theorem ggX2_findPc_X4_isAddress : GoodIn wsX2_findPc wsX4_isAddress := goodIn_r _ [14, 15] (by decide +kernel) (by decide +kernel)
set_option maxRecDepth 20000 in
theorem gX2_findPc_X4_isAddress : GoodIn wsX2_findPc (va_wsS RX2 130 yX4_isAddress wsX4_isAddress) := goodIn_app (goodIn_of _ (by decide +kernel)) ggX2_findPc_X4_isAddress
set_option maxRecDepth 20000 in
theorem ggX2_findPc_X4_plus : GoodIn wsX2_findPc wsX4_plus := goodIn_r _ [18, 19, 20, 21, 13, 22, 15, 23, 24, 25, 26, 27, 28, 12, 14, 29, 30, 31, 32, 33, 34, 35, 36, 37, 38, 39, 40, 41, 42, 43, 44, 45, 46, 47, 48] (by decide +kernel) (by decide +kernel)
set_option maxRecDepth 20000 in
theorem gX2_findPc_X4_plus : GoodIn wsX2_findPc (va_wsS RX2 142 yX4_plus wsX4_plus) := goodIn_app (goodIn_of _ (by decide +kernel)) ggX2_findPc_X4_plus
set_option maxRecDepth 20000 in
theorem ggX2_findPc_X2_behindInstruction : GoodIn wsX2_findPc wsX2_behindInstruction := goodIn_r _ [52, 4, 53, 54, 55, 56, 57, 58, 59, 60, 61, 36, 13, 37, 38, 39, 40, 15, 41, 42, 43, 44, 45, 46, 47, 48, 32, 19, 65, 66, 67, 68, 69, 70, 71, 72, 73, 74, 75, 76, 77] (by decide +kernel) (by decide +kernel)
set_option maxRecDepth 20000 in
theorem gX2_findPc_X2_behindInstruction : GoodIn wsX2_findPc (wsV RX2 126 RX2 yX2_behindInstruction wsX2_behindInstruction) := goodIn_app (goodIn_of _ (by decide +kernel)) ggX2_findPc_X2_behindInstruction
set_option maxRecDepth 20000 in
theorem ggX2_findPc_X2_reckoned : GoodIn wsX2_findPc wsX2_reckoned := goodIn_r _ [64, 2] (by decide +kernel) (by decide +kernel)
set_option maxRecDepth 20000 in
theorem gX2_findPc_X2_reckoned : GoodIn wsX2_findPc (va_wsS RX2 123 yX2_reckoned wsX2_reckoned) := goodIn_app (goodIn_of _ (by decide +kernel)) ggX2_findPc_X2_reckoned
theorem dX2_findPc_0 : decode cX2_findPc 0 = .ok (.aload_n 0, 1) := by decide +kernel
theorem dX2_findPc_1 : decode cX2_findPc 1 = .ok (.sipush 128, 3) := by decide +kernel
theorem dX2_findPc_4 : decode cX2_findPc 4 = .ok (.invokevirtual 38, 3) := by decide +kernel
theorem dX2_findPc_7 : decode cX2_findPc 7 = .ok (.ifCond .eq 30, 3) := by decide +kernel
theorem dX2_findPc_10 : decode cX2_findPc 10 = .ok (.aload_n 0, 1) := by decide +kernel
theorem dX2_findPc_11 : decode cX2_findPc 11 = .ok (.aload_n 0, 1) := by decide +kernel
theorem dX2_findPc_12 : decode cX2_findPc 12 = .ok (.getfield 57, 3) := by decide +kernel
theorem dX2_findPc_15 : decode cX2_findPc 15 = .ok (.invokestatic 130, 3) := by decide +kernel
theorem dX2_findPc_18 : decode cX2_findPc 18 = .ok (.ifCond .eq 10, 3) := by decide +kernel
theorem dX2_findPc_21 : decode cX2_findPc 21 = .ok (.aload_n 0, 1) := by decide +kernel
theorem dX2_findPc_22 : decode cX2_findPc 22 = .ok (.getfield 57, 3) := by decide +kernel
theorem dX2_findPc_25 : decode cX2_findPc 25 = .ok (.goto 6, 3) := by decide +kernel
theorem dX2_findPc_28 : decode cX2_findPc 28 = .ok (.ldc2_w 95, 3) := by decide +kernel
theorem dX2_findPc_31 : decode cX2_findPc 31 = .ok (.putfield 79, 3) := by decide +kernel
theorem dX2_findPc_34 : decode cX2_findPc 34 = .ok (.goto 39, 3) := by decide +kernel
theorem dX2_findPc_37 : decode cX2_findPc 37 = .ok (.aload_n 0, 1) := by decide +kernel
theorem dX2_findPc_38 : decode cX2_findPc 38 = .ok (.sipush 256, 3) := by decide +kernel
theorem dX2_findPc_41 : decode cX2_findPc 41 = .ok (.invokevirtual 38, 3) := by decide +kernel
theorem dX2_findPc_44 : decode cX2_findPc 44 = .ok (.ifCond .eq 21, 3) := by decide +kernel
theorem dX2_findPc_47 : decode cX2_findPc 47 = .ok (.aload_n 0, 1) := by decide +kernel
theorem dX2_findPc_48 : decode cX2_findPc 48 = .ok (.aload_n 0, 1) := by decide +kernel
theorem dX2_findPc_49 : decode cX2_findPc 49 = .ok (.getfield 19, 3) := by decide +kernel
theorem dX2_findPc_52 : decode cX2_findPc 52 = .ok (.aload_n 0, 1) := by decide +kernel
theorem dX2_findPc_53 : decode cX2_findPc 53 = .ok (.getfield 57, 3) := by decide +kernel
theorem dX2_findPc_56 : decode cX2_findPc 56 = .ok (.invokestatic 142, 3) := by decide +kernel
theorem dX2_findPc_59 : decode cX2_findPc 59 = .ok (.putfield 79, 3) := by decide +kernel
theorem dX2_findPc_62 : decode cX2_findPc 62 = .ok (.goto 11, 3) := by decide +kernel
theorem dX2_findPc_65 : decode cX2_findPc 65 = .ok (.aload_n 0, 1) := by decide +kernel
theorem dX2_findPc_66 : decode cX2_findPc 66 = .ok (.aload_n 0, 1) := by decide +kernel
theorem dX2_findPc_67 : decode cX2_findPc 67 = .ok (.invokevirtual 126, 3) := by decide +kernel
theorem dX2_findPc_70 : decode cX2_findPc 70 = .ok (.putfield 79, 3) := by decide +kernel
theorem dX2_findPc_73 : decode cX2_findPc 73 = .ok (.aload_n 0, 1) := by decide +kernel
theorem dX2_findPc_74 : decode cX2_findPc 74 = .ok (.getfield 79, 3) := by decide +kernel
theorem dX2_findPc_77 : decode cX2_findPc 77 = .ok (.invokestatic 123, 3) := by decide +kernel
theorem dX2_findPc_80 : decode cX2_findPc 80 = .ok (.ireturn, 1) := by decide +kernel
set_option maxRecDepth 20000 in
theorem ggX2_findPcUnlessDstIsZero_X2_look : GoodIn wsX2_findPcUnlessDstIsZero wsX2_look := goodIn_r _ [10, 11, 12, 13, 14, 15, 16, 17, 18, 19, 20, 21, 22, 23, 24, 25, 26, 27, 28, 29, 30, 31, 32, 33, 34, 35, 36, 83, 84, 85, 86, 87, 88, 89, 90, 91, 92, 93, 94, 95, 96] (by decide +kernel) (by decide +kernel)
set_option maxRecDepth 20000 in
theorem gX2_findPcUnlessDstIsZero_X2_look : GoodIn wsX2_findPcUnlessDstIsZero (wsV RX2 88 RX2 yX2_look wsX2_look) := goodIn_app (goodIn_of _ (by decide +kernel)) ggX2_findPcUnlessDstIsZero_X2_look
set_option maxRecDepth 20000 in
theorem ggX2_findPcUnlessDstIsZero_X2_behindInstruction : GoodIn wsX2_findPcUnlessDstIsZero wsX2_behindInstruction := goodIn_r _ [40, 5, 41, 42, 43, 44, 45, 46, 47, 48, 49, 50, 14, 51, 52, 13, 15, 16, 53, 18, 19, 20, 54, 55, 56, 57, 58, 59, 83, 84, 85, 86, 87, 88, 89, 90, 91, 92, 93, 94, 95] (by decide +kernel) (by decide +kernel)
set_option maxRecDepth 20000 in
theorem gX2_findPcUnlessDstIsZero_X2_behindInstruction : GoodIn wsX2_findPcUnlessDstIsZero (wsV RX2 126 RX2 yX2_behindInstruction wsX2_behindInstruction) := goodIn_app (goodIn_of _ (by decide +kernel)) ggX2_findPcUnlessDstIsZero_X2_behindInstruction
set_option maxRecDepth 20000 in
theorem ggX2_findPcUnlessDstIsZero_X2_reckoned : GoodIn wsX2_findPcUnlessDstIsZero wsX2_reckoned := goodIn_r _ [62, 2] (by decide +kernel) (by decide +kernel)
set_option maxRecDepth 20000 in
theorem gX2_findPcUnlessDstIsZero_X2_reckoned : GoodIn wsX2_findPcUnlessDstIsZero (va_wsS RX2 123 yX2_reckoned wsX2_reckoned) := goodIn_app (goodIn_of _ (by decide +kernel)) ggX2_findPcUnlessDstIsZero_X2_reckoned
set_option maxRecDepth 20000 in
theorem ggX2_findPcUnlessDstIsZero_X4_plus : GoodIn wsX2_findPcUnlessDstIsZero wsX4_plus := goodIn_r _ [65, 59, 66, 67, 14, 68, 16, 69, 70, 71, 72, 73, 74, 75, 76, 77, 78, 79, 58, 80, 81, 82, 50, 51, 52, 13, 15, 53, 18, 19, 20, 54, 55, 56, 57] (by decide +kernel) (by decide +kernel)
set_option maxRecDepth 20000 in
theorem gX2_findPcUnlessDstIsZero_X4_plus : GoodIn wsX2_findPcUnlessDstIsZero (va_wsS RX2 142 yX4_plus wsX4_plus) := goodIn_app (goodIn_of _ (by decide +kernel)) ggX2_findPcUnlessDstIsZero_X4_plus
theorem dX2_findPcUnlessDstIsZero_0 : decode cX2_findPcUnlessDstIsZero 0 = .ok (.aload_n 0, 1) := by decide +kernel
theorem dX2_findPcUnlessDstIsZero_1 : decode cX2_findPcUnlessDstIsZero 1 = .ok (.aload_n 0, 1) := by decide +kernel
theorem dX2_findPcUnlessDstIsZero_2 : decode cX2_findPcUnlessDstIsZero 2 = .ok (.getfield 54, 3) := by decide +kernel
theorem dX2_findPcUnlessDstIsZero_5 : decode cX2_findPcUnlessDstIsZero 5 = .ok (.invokevirtual 88, 3) := by decide +kernel
theorem dX2_findPcUnlessDstIsZero_8 : decode cX2_findPcUnlessDstIsZero 8 = .ok (.lstore_n 1, 1) := by decide +kernel
theorem dX2_findPcUnlessDstIsZero_9 : decode cX2_findPcUnlessDstIsZero 9 = .ok (.lload_n 1, 1) := by decide +kernel
theorem dX2_findPcUnlessDstIsZero_10 : decode cX2_findPcUnlessDstIsZero 10 = .ok (.ldc2_w 95, 3) := by decide +kernel
theorem dX2_findPcUnlessDstIsZero_13 : decode cX2_findPcUnlessDstIsZero 13 = .ok (.lcmp, 1) := by decide +kernel
theorem dX2_findPcUnlessDstIsZero_14 : decode cX2_findPcUnlessDstIsZero 14 = .ok (.ifCond .ne 5, 3) := by decide +kernel
theorem dX2_findPcUnlessDstIsZero_17 : decode cX2_findPcUnlessDstIsZero 17 = .ok (.iconst 1, 1) := by decide +kernel
theorem dX2_findPcUnlessDstIsZero_18 : decode cX2_findPcUnlessDstIsZero 18 = .ok (.ireturn, 1) := by decide +kernel
theorem dX2_findPcUnlessDstIsZero_19 : decode cX2_findPcUnlessDstIsZero 19 = .ok (.lload_n 1, 1) := by decide +kernel
theorem dX2_findPcUnlessDstIsZero_20 : decode cX2_findPcUnlessDstIsZero 20 = .ok (.lconst 0, 1) := by decide +kernel
theorem dX2_findPcUnlessDstIsZero_21 : decode cX2_findPcUnlessDstIsZero 21 = .ok (.lcmp, 1) := by decide +kernel
theorem dX2_findPcUnlessDstIsZero_22 : decode cX2_findPcUnlessDstIsZero 22 = .ok (.ifCond .ne 19, 3) := by decide +kernel
theorem dX2_findPcUnlessDstIsZero_25 : decode cX2_findPcUnlessDstIsZero 25 = .ok (.aload_n 0, 1) := by decide +kernel
theorem dX2_findPcUnlessDstIsZero_26 : decode cX2_findPcUnlessDstIsZero 26 = .ok (.aload_n 0, 1) := by decide +kernel
theorem dX2_findPcUnlessDstIsZero_27 : decode cX2_findPcUnlessDstIsZero 27 = .ok (.invokevirtual 126, 3) := by decide +kernel
theorem dX2_findPcUnlessDstIsZero_30 : decode cX2_findPcUnlessDstIsZero 30 = .ok (.putfield 79, 3) := by decide +kernel
theorem dX2_findPcUnlessDstIsZero_33 : decode cX2_findPcUnlessDstIsZero 33 = .ok (.aload_n 0, 1) := by decide +kernel
theorem dX2_findPcUnlessDstIsZero_34 : decode cX2_findPcUnlessDstIsZero 34 = .ok (.getfield 79, 3) := by decide +kernel
theorem dX2_findPcUnlessDstIsZero_37 : decode cX2_findPcUnlessDstIsZero 37 = .ok (.invokestatic 123, 3) := by decide +kernel
theorem dX2_findPcUnlessDstIsZero_40 : decode cX2_findPcUnlessDstIsZero 40 = .ok (.ireturn, 1) := by decide +kernel
theorem dX2_findPcUnlessDstIsZero_41 : decode cX2_findPcUnlessDstIsZero 41 = .ok (.aload_n 0, 1) := by decide +kernel
theorem dX2_findPcUnlessDstIsZero_42 : decode cX2_findPcUnlessDstIsZero 42 = .ok (.aload_n 0, 1) := by decide +kernel
theorem dX2_findPcUnlessDstIsZero_43 : decode cX2_findPcUnlessDstIsZero 43 = .ok (.getfield 133, 3) := by decide +kernel
theorem dX2_findPcUnlessDstIsZero_46 : decode cX2_findPcUnlessDstIsZero 46 = .ok (.invokevirtual 88, 3) := by decide +kernel
theorem dX2_findPcUnlessDstIsZero_49 : decode cX2_findPcUnlessDstIsZero 49 = .ok (.lstore_n 3, 1) := by decide +kernel
theorem dX2_findPcUnlessDstIsZero_50 : decode cX2_findPcUnlessDstIsZero 50 = .ok (.aload_n 0, 1) := by decide +kernel
theorem dX2_findPcUnlessDstIsZero_51 : decode cX2_findPcUnlessDstIsZero 51 = .ok (.aload_n 0, 1) := by decide +kernel
theorem dX2_findPcUnlessDstIsZero_52 : decode cX2_findPcUnlessDstIsZero 52 = .ok (.getfield 19, 3) := by decide +kernel
theorem dX2_findPcUnlessDstIsZero_55 : decode cX2_findPcUnlessDstIsZero 55 = .ok (.lload_n 3, 1) := by decide +kernel
theorem dX2_findPcUnlessDstIsZero_56 : decode cX2_findPcUnlessDstIsZero 56 = .ok (.invokestatic 142, 3) := by decide +kernel
theorem dX2_findPcUnlessDstIsZero_59 : decode cX2_findPcUnlessDstIsZero 59 = .ok (.putfield 79, 3) := by decide +kernel
theorem dX2_findPcUnlessDstIsZero_62 : decode cX2_findPcUnlessDstIsZero 62 = .ok (.lload_n 3, 1) := by decide +kernel
theorem dX2_findPcUnlessDstIsZero_63 : decode cX2_findPcUnlessDstIsZero 63 = .ok (.ldc2_w 95, 3) := by decide +kernel
theorem dX2_findPcUnlessDstIsZero_66 : decode cX2_findPcUnlessDstIsZero 66 = .ok (.lcmp, 1) := by decide +kernel
theorem dX2_findPcUnlessDstIsZero_67 : decode cX2_findPcUnlessDstIsZero 67 = .ok (.ifCond .ne 7, 3) := by decide +kernel
theorem dX2_findPcUnlessDstIsZero_70 : decode cX2_findPcUnlessDstIsZero 70 = .ok (.iconst 1, 1) := by decide +kernel
theorem dX2_findPcUnlessDstIsZero_71 : decode cX2_findPcUnlessDstIsZero 71 = .ok (.goto 10, 3) := by decide +kernel
theorem dX2_findPcUnlessDstIsZero_74 : decode cX2_findPcUnlessDstIsZero 74 = .ok (.aload_n 0, 1) := by decide +kernel
theorem dX2_findPcUnlessDstIsZero_75 : decode cX2_findPcUnlessDstIsZero 75 = .ok (.getfield 79, 3) := by decide +kernel
theorem dX2_findPcUnlessDstIsZero_78 : decode cX2_findPcUnlessDstIsZero 78 = .ok (.invokestatic 123, 3) := by decide +kernel
theorem dX2_findPcUnlessDstIsZero_81 : decode cX2_findPcUnlessDstIsZero 81 = .ok (.ireturn, 1) := by decide +kernel
set_option maxRecDepth 20000 in
theorem ggX2_findAp_X2_has : GoodIn wsX2_findAp wsX2_has := goodIn_r _ [9, 10, 53, 54, 55, 56, 57, 58, 59, 60, 61, 62, 63, 64, 65] (by decide +kernel) (by decide +kernel)
set_option maxRecDepth 20000 in
theorem gX2_findAp_X2_has : GoodIn wsX2_findAp (wsV RX2 38 RX2 yX2_has wsX2_has) := goodIn_app (goodIn_of _ (by decide +kernel)) ggX2_findAp_X2_has
set_option maxRecDepth 20000 in
theorem ggX2_findAp_X4_plus : GoodIn wsX2_findAp wsX4_plus := goodIn_r _ [14, 15, 16, 17, 13, 18, 19, 20, 21, 22, 23, 24, 25, 26, 27, 28, 29, 30, 31, 32, 33, 34, 35, 36, 37, 38, 39, 40, 41, 42, 43, 44, 45, 46, 47] (by decide +kernel) (by decide +kernel)
set_option maxRecDepth 20000 in
theorem gX2_findAp_X4_plus : GoodIn wsX2_findAp (va_wsS RX2 142 yX4_plus wsX4_plus) := goodIn_app (goodIn_of _ (by decide +kernel)) ggX2_findAp_X4_plus
set_option maxRecDepth 20000 in
theorem ggX2_findAp_X4_shifted : GoodIn wsX2_findAp wsX4_shifted := goodIn_r _ [36, 37, 38, 13, 39, 19, 40, 41, 42, 43, 44, 45, 46, 47, 31, 15] (by decide +kernel) (by decide +kernel)
set_option maxRecDepth 20000 in
theorem gX2_findAp_X4_shifted : GoodIn wsX2_findAp (va_wsS RX2 116 yX4_shifted wsX4_shifted) := goodIn_app (goodIn_of _ (by decide +kernel)) ggX2_findAp_X4_shifted
set_option maxRecDepth 20000 in
theorem ggX2_findAp_X2_reckoned : GoodIn wsX2_findAp wsX2_reckoned := goodIn_r _ [51, 52] (by decide +kernel) (by decide +kernel)
set_option maxRecDepth 20000 in
theorem gX2_findAp_X2_reckoned : GoodIn wsX2_findAp (va_wsS RX2 123 yX2_reckoned wsX2_reckoned) := goodIn_app (goodIn_of _ (by decide +kernel)) ggX2_findAp_X2_reckoned
theorem dX2_findAp_0 : decode cX2_findAp 0 = .ok (.aload_n 0, 1) := by decide +kernel
theorem dX2_findAp_1 : decode cX2_findAp 1 = .ok (.sipush 1024, 3) := by decide +kernel
theorem dX2_findAp_4 : decode cX2_findAp 4 = .ok (.invokevirtual 38, 3) := by decide +kernel
theorem dX2_findAp_7 : decode cX2_findAp 7 = .ok (.ifCond .eq 21, 3) := by decide +kernel
theorem dX2_findAp_10 : decode cX2_findAp 10 = .ok (.aload_n 0, 1) := by decide +kernel
theorem dX2_findAp_11 : decode cX2_findAp 11 = .ok (.aload_n 0, 1) := by decide +kernel
theorem dX2_findAp_12 : decode cX2_findAp 12 = .ok (.getfield 23, 3) := by decide +kernel
theorem dX2_findAp_15 : decode cX2_findAp 15 = .ok (.aload_n 0, 1) := by decide +kernel
theorem dX2_findAp_16 : decode cX2_findAp 16 = .ok (.getfield 57, 3) := by decide +kernel
theorem dX2_findAp_19 : decode cX2_findAp 19 = .ok (.invokestatic 142, 3) := by decide +kernel
theorem dX2_findAp_22 : decode cX2_findAp 22 = .ok (.putfield 82, 3) := by decide +kernel
theorem dX2_findAp_25 : decode cX2_findAp 25 = .ok (.goto 59, 3) := by decide +kernel
theorem dX2_findAp_28 : decode cX2_findAp 28 = .ok (.aload_n 0, 1) := by decide +kernel
theorem dX2_findAp_29 : decode cX2_findAp 29 = .ok (.sipush 2048, 3) := by decide +kernel
theorem dX2_findAp_32 : decode cX2_findAp 32 = .ok (.invokevirtual 38, 3) := by decide +kernel
theorem dX2_findAp_35 : decode cX2_findAp 35 = .ok (.ifCond .eq 18, 3) := by decide +kernel
theorem dX2_findAp_38 : decode cX2_findAp 38 = .ok (.aload_n 0, 1) := by decide +kernel
theorem dX2_findAp_39 : decode cX2_findAp 39 = .ok (.aload_n 0, 1) := by decide +kernel
theorem dX2_findAp_40 : decode cX2_findAp 40 = .ok (.getfield 23, 3) := by decide +kernel
theorem dX2_findAp_43 : decode cX2_findAp 43 = .ok (.lconst 1, 1) := by decide +kernel
theorem dX2_findAp_44 : decode cX2_findAp 44 = .ok (.invokestatic 116, 3) := by decide +kernel
theorem dX2_findAp_47 : decode cX2_findAp 47 = .ok (.putfield 82, 3) := by decide +kernel
theorem dX2_findAp_50 : decode cX2_findAp 50 = .ok (.goto 34, 3) := by decide +kernel
theorem dX2_findAp_53 : decode cX2_findAp 53 = .ok (.aload_n 0, 1) := by decide +kernel
theorem dX2_findAp_54 : decode cX2_findAp 54 = .ok (.aload_n 0, 1) := by decide +kernel
theorem dX2_findAp_55 : decode cX2_findAp 55 = .ok (.sipush 4096, 3) := by decide +kernel
theorem dX2_findAp_58 : decode cX2_findAp 58 = .ok (.invokevirtual 38, 3) := by decide +kernel
theorem dX2_findAp_61 : decode cX2_findAp 61 = .ok (.ifCond .eq 16, 3) := by decide +kernel
theorem dX2_findAp_64 : decode cX2_findAp 64 = .ok (.aload_n 0, 1) := by decide +kernel
theorem dX2_findAp_65 : decode cX2_findAp 65 = .ok (.getfield 23, 3) := by decide +kernel
theorem dX2_findAp_68 : decode cX2_findAp 68 = .ok (.ldc2_w 148, 3) := by decide +kernel
theorem dX2_findAp_71 : decode cX2_findAp 71 = .ok (.invokestatic 116, 3) := by decide +kernel
theorem dX2_findAp_74 : decode cX2_findAp 74 = .ok (.goto 7, 3) := by decide +kernel
theorem dX2_findAp_77 : decode cX2_findAp 77 = .ok (.aload_n 0, 1) := by decide +kernel
theorem dX2_findAp_78 : decode cX2_findAp 78 = .ok (.getfield 23, 3) := by decide +kernel
theorem dX2_findAp_81 : decode cX2_findAp 81 = .ok (.putfield 82, 3) := by decide +kernel
theorem dX2_findAp_84 : decode cX2_findAp 84 = .ok (.aload_n 0, 1) := by decide +kernel
theorem dX2_findAp_85 : decode cX2_findAp 85 = .ok (.getfield 82, 3) := by decide +kernel
theorem dX2_findAp_88 : decode cX2_findAp 88 = .ok (.invokestatic 123, 3) := by decide +kernel
theorem dX2_findAp_91 : decode cX2_findAp 91 = .ok (.ireturn, 1) := by decide +kernel
set_option maxRecDepth 20000 in
theorem ggX2_findFp_X2_has : GoodIn wsX2_findFp wsX2_has := goodIn_r _ [10, 11, 45, 46, 47, 48, 49, 50, 51, 52, 53, 54, 55, 56, 57] (by decide +kernel) (by decide +kernel)
set_option maxRecDepth 20000 in
theorem gX2_findFp_X2_has : GoodIn wsX2_findFp (wsV RX2 38 RX2 yX2_has wsX2_has) := goodIn_app (goodIn_of _ (by decide +kernel)) ggX2_findFp_X2_has
set_option maxRecDepth 20000 in
theorem ggX2_findFp_X2_look : GoodIn wsX2_findFp wsX2_look := goodIn_r _ [15, 16, 17, 18, 19, 20, 21, 22, 23, 24, 25, 26, 27, 28, 29, 30, 31, 32, 33, 34, 35, 36, 37, 38, 39, 40, 41, 45, 46, 47, 48, 49, 50, 51, 52, 53, 54, 55, 56, 57, 58] (by decide +kernel) (by decide +kernel)
set_option maxRecDepth 20000 in
theorem gX2_findFp_X2_look : GoodIn wsX2_findFp (wsV RX2 88 RX2 yX2_look wsX2_look) := goodIn_app (goodIn_of _ (by decide +kernel)) ggX2_findFp_X2_look
set_option maxRecDepth 20000 in
theorem ggX2_findFp_X4_isAddress : GoodIn wsX2_findFp wsX4_isAddress := goodIn_r _ [44, 21] (by decide +kernel) (by decide +kernel)
set_option maxRecDepth 20000 in
theorem gX2_findFp_X4_isAddress : GoodIn wsX2_findFp (va_wsS RX2 130 yX4_isAddress wsX4_isAddress) := goodIn_app (goodIn_of _ (by decide +kernel)) ggX2_findFp_X4_isAddress
theorem dX2_findFp_0 : decode cX2_findFp 0 = .ok (.aload_n 0, 1) := by decide +kernel
theorem dX2_findFp_1 : decode cX2_findFp 1 = .ok (.aload_n 0, 1) := by decide +kernel
theorem dX2_findFp_2 : decode cX2_findFp 2 = .ok (.getfield 26, 3) := by decide +kernel
theorem dX2_findFp_5 : decode cX2_findFp 5 = .ok (.putfield 85, 3) := by decide +kernel
theorem dX2_findFp_8 : decode cX2_findFp 8 = .ok (.aload_n 0, 1) := by decide +kernel
theorem dX2_findFp_9 : decode cX2_findFp 9 = .ok (.sipush 4096, 3) := by decide +kernel
theorem dX2_findFp_12 : decode cX2_findFp 12 = .ok (.invokevirtual 38, 3) := by decide +kernel
theorem dX2_findFp_15 : decode cX2_findFp 15 = .ok (.ifCond .eq 14, 3) := by decide +kernel
theorem dX2_findFp_18 : decode cX2_findFp 18 = .ok (.aload_n 0, 1) := by decide +kernel
theorem dX2_findFp_19 : decode cX2_findFp 19 = .ok (.aload_n 0, 1) := by decide +kernel
theorem dX2_findFp_20 : decode cX2_findFp 20 = .ok (.getfield 82, 3) := by decide +kernel
theorem dX2_findFp_23 : decode cX2_findFp 23 = .ok (.putfield 85, 3) := by decide +kernel
theorem dX2_findFp_26 : decode cX2_findFp 26 = .ok (.goto 38, 3) := by decide +kernel
theorem dX2_findFp_29 : decode cX2_findFp 29 = .ok (.aload_n 0, 1) := by decide +kernel
theorem dX2_findFp_30 : decode cX2_findFp 30 = .ok (.sipush 8192, 3) := by decide +kernel
theorem dX2_findFp_33 : decode cX2_findFp 33 = .ok (.invokevirtual 38, 3) := by decide +kernel

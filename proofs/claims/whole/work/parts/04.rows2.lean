theorem dX2_findFp_36 : decode cX2_findFp 36 = .ok (.ifCond .eq 28, 3) := by decide +kernel
theorem dX2_findFp_39 : decode cX2_findFp 39 = .ok (.aload_n 0, 1) := by decide +kernel
theorem dX2_findFp_40 : decode cX2_findFp 40 = .ok (.aload_n 0, 1) := by decide +kernel
theorem dX2_findFp_41 : decode cX2_findFp 41 = .ok (.aload_n 0, 1) := by decide +kernel
theorem dX2_findFp_42 : decode cX2_findFp 42 = .ok (.getfield 54, 3) := by decide +kernel
theorem dX2_findFp_45 : decode cX2_findFp 45 = .ok (.invokevirtual 88, 3) := by decide +kernel
theorem dX2_findFp_48 : decode cX2_findFp 48 = .ok (.putfield 85, 3) := by decide +kernel
theorem dX2_findFp_51 : decode cX2_findFp 51 = .ok (.aload_n 0, 1) := by decide +kernel
theorem dX2_findFp_52 : decode cX2_findFp 52 = .ok (.getfield 85, 3) := by decide +kernel
theorem dX2_findFp_55 : decode cX2_findFp 55 = .ok (.ldc2_w 95, 3) := by decide +kernel
theorem dX2_findFp_58 : decode cX2_findFp 58 = .ok (.lcmp, 1) := by decide +kernel
theorem dX2_findFp_59 : decode cX2_findFp 59 = .ok (.ifCond .ne 5, 3) := by decide +kernel
theorem dX2_findFp_62 : decode cX2_findFp 62 = .ok (.iconst 1, 1) := by decide +kernel
theorem dX2_findFp_63 : decode cX2_findFp 63 = .ok (.ireturn, 1) := by decide +kernel
theorem dX2_findFp_64 : decode cX2_findFp 64 = .ok (.aload_n 0, 1) := by decide +kernel
theorem dX2_findFp_65 : decode cX2_findFp 65 = .ok (.getfield 85, 3) := by decide +kernel
theorem dX2_findFp_68 : decode cX2_findFp 68 = .ok (.invokestatic 130, 3) := by decide +kernel
theorem dX2_findFp_71 : decode cX2_findFp 71 = .ok (.ifCond .eq 7, 3) := by decide +kernel
theorem dX2_findFp_74 : decode cX2_findFp 74 = .ok (.iconst 0, 1) := by decide +kernel
theorem dX2_findFp_75 : decode cX2_findFp 75 = .ok (.goto 4, 3) := by decide +kernel
theorem dX2_findFp_78 : decode cX2_findFp 78 = .ok (.iconst 4, 1) := by decide +kernel
theorem dX2_findFp_79 : decode cX2_findFp 79 = .ok (.ireturn, 1) := by decide +kernel
theorem dX2_has_0 : decode cX2_has 0 = .ok (.aload_n 0, 1) := by decide +kernel
theorem dX2_has_1 : decode cX2_has 1 = .ok (.getfield 108, 3) := by decide +kernel
theorem dX2_has_4 : decode cX2_has 4 = .ok (.iload_n 1, 1) := by decide +kernel
theorem dX2_has_5 : decode cX2_has 5 = .ok (.iand, 1) := by decide +kernel
theorem dX2_has_6 : decode cX2_has 6 = .ok (.ifCond .eq 7, 3) := by decide +kernel
theorem dX2_has_9 : decode cX2_has 9 = .ok (.iconst 1, 1) := by decide +kernel
theorem dX2_has_10 : decode cX2_has 10 = .ok (.goto 4, 3) := by decide +kernel
theorem dX2_has_13 : decode cX2_has 13 = .ok (.iconst 0, 1) := by decide +kernel
theorem dX2_has_14 : decode cX2_has 14 = .ok (.ireturn, 1) := by decide +kernel
set_option maxRecDepth 20000 in
theorem ggX2_behindInstruction_X5_sizeOf : GoodIn wsX2_behindInstruction wsX5_sizeOf := goodIn_r _ [6, 7, 8, 5, 9] (by decide +kernel) (by decide +kernel)
set_option maxRecDepth 20000 in
theorem gX2_behindInstruction_X5_sizeOf : GoodIn wsX2_behindInstruction (va_wsS RX2 150 yX5_sizeOf wsX5_sizeOf) := goodIn_app (goodIn_of _ (by decide +kernel)) ggX2_behindInstruction_X5_sizeOf
set_option maxRecDepth 20000 in
theorem ggX2_behindInstruction_X4_shifted : GoodIn wsX2_behindInstruction wsX4_shifted := goodIn_r _ [13, 14, 15, 12, 16, 17, 18, 19, 20, 21, 22, 23, 24, 25, 26, 27] (by decide +kernel) (by decide +kernel)
set_option maxRecDepth 20000 in
theorem gX2_behindInstruction_X4_shifted : GoodIn wsX2_behindInstruction (va_wsS RX2 116 yX4_shifted wsX4_shifted) := goodIn_app (goodIn_of _ (by decide +kernel)) ggX2_behindInstruction_X4_shifted
theorem dX2_behindInstruction_0 : decode cX2_behindInstruction 0 = .ok (.aload_n 0, 1) := by decide +kernel
theorem dX2_behindInstruction_1 : decode cX2_behindInstruction 1 = .ok (.getfield 19, 3) := by decide +kernel
theorem dX2_behindInstruction_4 : decode cX2_behindInstruction 4 = .ok (.aload_n 0, 1) := by decide +kernel
theorem dX2_behindInstruction_5 : decode cX2_behindInstruction 5 = .ok (.getfield 92, 3) := by decide +kernel
theorem dX2_behindInstruction_8 : decode cX2_behindInstruction 8 = .ok (.invokestatic 150, 3) := by decide +kernel
theorem dX2_behindInstruction_11 : decode cX2_behindInstruction 11 = .ok (.i2l, 1) := by decide +kernel
theorem dX2_behindInstruction_12 : decode cX2_behindInstruction 12 = .ok (.invokestatic 116, 3) := by decide +kernel
theorem dX2_behindInstruction_15 : decode cX2_behindInstruction 15 = .ok (.lreturn, 1) := by decide +kernel
set_option maxRecDepth 20000 in
theorem ggX2_look_X4_segmentOf : GoodIn wsX2_look wsX4_segmentOf := goodIn_r _ [5, 6] (by decide +kernel) (by decide +kernel)
set_option maxRecDepth 20000 in
theorem gX2_look_X4_segmentOf : GoodIn wsX2_look (va_wsS RX2 153 yX4_segmentOf wsX4_segmentOf) := goodIn_app (goodIn_of _ (by decide +kernel)) ggX2_look_X4_segmentOf
set_option maxRecDepth 20000 in
theorem ggX2_look_X4_cellOf : GoodIn wsX2_look wsX4_cellOf := goodIn_r _ [9, 6, 10] (by decide +kernel) (by decide +kernel)
set_option maxRecDepth 20000 in
theorem gX2_look_X4_cellOf : GoodIn wsX2_look (va_wsS RX2 156 yX4_cellOf wsX4_cellOf) := goodIn_app (goodIn_of _ (by decide +kernel)) ggX2_look_X4_cellOf
set_option maxRecDepth 20000 in
theorem ggX2_look_X1_look : GoodIn wsX2_look wsX1_look := goodIn_r _ [15, 16, 17, 18, 19, 14, 20, 21, 22, 23, 24, 25, 26, 40] (by decide +kernel) (by decide +kernel)
set_option maxRecDepth 20000 in
theorem gX2_look_X1_look : GoodIn wsX2_look (wsV RX2 159 RX1 yX1_look wsX1_look) := goodIn_app (goodIn_of _ (by decide +kernel)) ggX2_look_X1_look
theorem dX2_look_0 : decode cX2_look 0 = .ok (.aload_n 0, 1) := by decide +kernel
theorem dX2_look_1 : decode cX2_look 1 = .ok (.getfield 7, 3) := by decide +kernel
theorem dX2_look_4 : decode cX2_look 4 = .ok (.lload_n 1, 1) := by decide +kernel
theorem dX2_look_5 : decode cX2_look 5 = .ok (.invokestatic 153, 3) := by decide +kernel
theorem dX2_look_8 : decode cX2_look 8 = .ok (.lload_n 1, 1) := by decide +kernel
theorem dX2_look_9 : decode cX2_look 9 = .ok (.invokestatic 156, 3) := by decide +kernel
theorem dX2_look_12 : decode cX2_look 12 = .ok (.invokevirtual 159, 3) := by decide +kernel
theorem dX2_look_15 : decode cX2_look 15 = .ok (.lreturn, 1) := by decide +kernel
set_option maxRecDepth 20000 in
theorem ggX2_put_X4_segmentOf : GoodIn wsX2_put wsX4_segmentOf := goodIn_r _ [5, 6] (by decide +kernel) (by decide +kernel)
set_option maxRecDepth 20000 in
theorem gX2_put_X4_segmentOf : GoodIn wsX2_put (va_wsS RX2 153 yX4_segmentOf wsX4_segmentOf) := goodIn_app (goodIn_of _ (by decide +kernel)) ggX2_put_X4_segmentOf
set_option maxRecDepth 20000 in
theorem ggX2_put_X4_cellOf : GoodIn wsX2_put wsX4_cellOf := goodIn_r _ [9, 6, 10] (by decide +kernel) (by decide +kernel)
set_option maxRecDepth 20000 in
theorem gX2_put_X4_cellOf : GoodIn wsX2_put (va_wsS RX2 156 yX4_cellOf wsX4_cellOf) := goodIn_app (goodIn_of _ (by decide +kernel)) ggX2_put_X4_cellOf
set_option maxRecDepth 20000 in
theorem ggX2_put_X1_write : GoodIn wsX2_put wsX1_write := goodIn_r _ [15, 16, 17, 18, 19, 14, 20, 21, 22, 23, 24, 25, 26, 27, 28, 29, 30, 31, 32, 33, 34, 4, 35, 6, 36, 37, 38, 39, 40, 41, 42, 43, 44, 45, 46, 47, 61] (by decide +kernel) (by decide +kernel)
set_option maxRecDepth 20000 in
theorem gX2_put_X1_write : GoodIn wsX2_put (wsV RX2 164 RX1 yX1_write wsX1_write) := goodIn_app (goodIn_of _ (by decide +kernel)) ggX2_put_X1_write
theorem dX2_put_0 : decode cX2_put 0 = .ok (.aload_n 0, 1) := by decide +kernel
theorem dX2_put_1 : decode cX2_put 1 = .ok (.getfield 7, 3) := by decide +kernel
theorem dX2_put_4 : decode cX2_put 4 = .ok (.lload_n 1, 1) := by decide +kernel
theorem dX2_put_5 : decode cX2_put 5 = .ok (.invokestatic 153, 3) := by decide +kernel
theorem dX2_put_8 : decode cX2_put 8 = .ok (.lload_n 1, 1) := by decide +kernel
theorem dX2_put_9 : decode cX2_put 9 = .ok (.invokestatic 156, 3) := by decide +kernel
theorem dX2_put_12 : decode cX2_put 12 = .ok (.lload_n 3, 1) := by decide +kernel
theorem dX2_put_13 : decode cX2_put 13 = .ok (.invokevirtual 164, 3) := by decide +kernel
theorem dX2_put_16 : decode cX2_put 16 = .ok (.ifCond .eq 7, 3) := by decide +kernel
theorem dX2_put_19 : decode cX2_put 19 = .ok (.iconst 0, 1) := by decide +kernel
theorem dX2_put_20 : decode cX2_put 20 = .ok (.goto 4, 3) := by decide +kernel
theorem dX2_put_23 : decode cX2_put 23 = .ok (.iconst 2, 1) := by decide +kernel
theorem dX2_put_24 : decode cX2_put 24 = .ok (.ireturn, 1) := by decide +kernel
theorem dX2_reckoned_0 : decode cX2_reckoned 0 = .ok (.lload_n 0, 1) := by decide +kernel
theorem dX2_reckoned_1 : decode cX2_reckoned 1 = .ok (.ldc2_w 95, 3) := by decide +kernel
theorem dX2_reckoned_4 : decode cX2_reckoned 4 = .ok (.lcmp, 1) := by decide +kernel
theorem dX2_reckoned_5 : decode cX2_reckoned 5 = .ok (.ifCond .ne 7, 3) := by decide +kernel
theorem dX2_reckoned_8 : decode cX2_reckoned 8 = .ok (.iconst 4, 1) := by decide +kernel
theorem dX2_reckoned_9 : decode cX2_reckoned 9 = .ok (.goto 4, 3) := by decide +kernel
theorem dX2_reckoned_12 : decode cX2_reckoned 12 = .ok (.iconst 0, 1) := by decide +kernel
theorem dX2_reckoned_13 : decode cX2_reckoned 13 = .ok (.ireturn, 1) := by decide +kernel
theorem dX3_init_0 : decode cX3_init 0 = .ok (.aload_n 0, 1) := by decide +kernel
theorem dX3_init_1 : decode cX3_init 1 = .ok (.invokespecial 1, 3) := by decide +kernel
theorem dX3_init_4 : decode cX3_init 4 = .ok (.aload_n 0, 1) := by decide +kernel
theorem dX3_init_5 : decode cX3_init 5 = .ok (.sipush 192, 3) := by decide +kernel
theorem dX3_init_8 : decode cX3_init 8 = .ok (.newarray .long, 2) := by decide +kernel
theorem dX3_init_10 : decode cX3_init 10 = .ok (.putfield 9, 3) := by decide +kernel
theorem dX3_init_13 : decode cX3_init 13 = .ok (.aload_n 0, 1) := by decide +kernel
theorem dX3_init_14 : decode cX3_init 14 = .ok (.iconst 0, 1) := by decide +kernel
theorem dX3_init_15 : decode cX3_init 15 = .ok (.putfield 13, 3) := by decide +kernel
theorem dX3_init_18 : decode cX3_init 18 = .ok (.return_, 1) := by decide +kernel
theorem dX3_empty_0 : decode cX3_empty 0 = .ok (.aload_n 0, 1) := by decide +kernel
theorem dX3_empty_1 : decode cX3_empty 1 = .ok (.iconst 0, 1) := by decide +kernel
theorem dX3_empty_2 : decode cX3_empty 2 = .ok (.putfield 13, 3) := by decide +kernel
theorem dX3_empty_5 : decode cX3_empty 5 = .ok (.return_, 1) := by decide +kernel
theorem dX3_isFull_0 : decode cX3_isFull 0 = .ok (.aload_n 0, 1) := by decide +kernel
theorem dX3_isFull_1 : decode cX3_isFull 1 = .ok (.getfield 13, 3) := by decide +kernel
theorem dX3_isFull_4 : decode cX3_isFull 4 = .ok (.bipush 64, 2) := by decide +kernel
theorem dX3_isFull_6 : decode cX3_isFull 6 = .ok (.if_icmp .lt 7, 3) := by decide +kernel
theorem dX3_isFull_9 : decode cX3_isFull 9 = .ok (.iconst 1, 1) := by decide +kernel
theorem dX3_isFull_10 : decode cX3_isFull 10 = .ok (.goto 4, 3) := by decide +kernel
theorem dX3_isFull_13 : decode cX3_isFull 13 = .ok (.iconst 0, 1) := by decide +kernel
theorem dX3_isFull_14 : decode cX3_isFull 14 = .ok (.ireturn, 1) := by decide +kernel
set_option maxRecDepth 20000 in
theorem ggX3_add_X3_isFull : GoodIn wsX3_add wsX3_isFull := goodIn_r _ [7, 2, 8, 9] (by decide +kernel) (by decide +kernel)
set_option maxRecDepth 20000 in
theorem gX3_add_X3_isFull : GoodIn wsX3_add (wsV RX3 17 RX3 yX3_isFull wsX3_isFull) := goodIn_app (goodIn_of _ (by decide +kernel)) ggX3_add_X3_isFull
theorem dX3_add_0 : decode cX3_add 0 = .ok (.aload_n 0, 1) := by decide +kernel
theorem dX3_add_1 : decode cX3_add 1 = .ok (.invokevirtual 17, 3) := by decide +kernel
theorem dX3_add_4 : decode cX3_add 4 = .ok (.ifCond .eq 4, 3) := by decide +kernel
theorem dX3_add_7 : decode cX3_add 7 = .ok (.return_, 1) := by decide +kernel
theorem dX3_add_8 : decode cX3_add 8 = .ok (.aload_n 0, 1) := by decide +kernel
theorem dX3_add_9 : decode cX3_add 9 = .ok (.getfield 9, 3) := by decide +kernel
theorem dX3_add_12 : decode cX3_add 12 = .ok (.aload_n 0, 1) := by decide +kernel
theorem dX3_add_13 : decode cX3_add 13 = .ok (.getfield 13, 3) := by decide +kernel
theorem dX3_add_16 : decode cX3_add 16 = .ok (.iconst 3, 1) := by decide +kernel
theorem dX3_add_17 : decode cX3_add 17 = .ok (.imul, 1) := by decide +kernel
theorem dX3_add_18 : decode cX3_add 18 = .ok (.lload_n 1, 1) := by decide +kernel
theorem dX3_add_19 : decode cX3_add 19 = .ok (.lastore, 1) := by decide +kernel
theorem dX3_add_20 : decode cX3_add 20 = .ok (.aload_n 0, 1) := by decide +kernel
theorem dX3_add_21 : decode cX3_add 21 = .ok (.getfield 9, 3) := by decide +kernel
theorem dX3_add_24 : decode cX3_add 24 = .ok (.aload_n 0, 1) := by decide +kernel
theorem dX3_add_25 : decode cX3_add 25 = .ok (.getfield 13, 3) := by decide +kernel
theorem dX3_add_28 : decode cX3_add 28 = .ok (.iconst 3, 1) := by decide +kernel
theorem dX3_add_29 : decode cX3_add 29 = .ok (.imul, 1) := by decide +kernel
theorem dX3_add_30 : decode cX3_add 30 = .ok (.iconst 1, 1) := by decide +kernel
theorem dX3_add_31 : decode cX3_add 31 = .ok (.iadd, 1) := by decide +kernel
theorem dX3_add_32 : decode cX3_add 32 = .ok (.lload_n 3, 1) := by decide +kernel
theorem dX3_add_33 : decode cX3_add 33 = .ok (.lastore, 1) := by decide +kernel
theorem dX3_add_34 : decode cX3_add 34 = .ok (.aload_n 0, 1) := by decide +kernel
theorem dX3_add_35 : decode cX3_add 35 = .ok (.getfield 9, 3) := by decide +kernel
theorem dX3_add_38 : decode cX3_add 38 = .ok (.aload_n 0, 1) := by decide +kernel
theorem dX3_add_39 : decode cX3_add 39 = .ok (.getfield 13, 3) := by decide +kernel
theorem dX3_add_42 : decode cX3_add 42 = .ok (.iconst 3, 1) := by decide +kernel
theorem dX3_add_43 : decode cX3_add 43 = .ok (.imul, 1) := by decide +kernel
theorem dX3_add_44 : decode cX3_add 44 = .ok (.iconst 2, 1) := by decide +kernel
theorem dX3_add_45 : decode cX3_add 45 = .ok (.iadd, 1) := by decide +kernel
theorem dX3_add_46 : decode cX3_add 46 = .ok (.lload 5, 2) := by decide +kernel
theorem dX3_add_48 : decode cX3_add 48 = .ok (.lastore, 1) := by decide +kernel
theorem dX3_add_49 : decode cX3_add 49 = .ok (.aload_n 0, 1) := by decide +kernel
theorem dX3_add_50 : decode cX3_add 50 = .ok (.dup, 1) := by decide +kernel
theorem dX3_add_51 : decode cX3_add 51 = .ok (.getfield 13, 3) := by decide +kernel
theorem dX3_add_54 : decode cX3_add 54 = .ok (.iconst 1, 1) := by decide +kernel
theorem dX3_add_55 : decode cX3_add 55 = .ok (.iadd, 1) := by decide +kernel
theorem dX3_add_56 : decode cX3_add 56 = .ok (.putfield 13, 3) := by decide +kernel
theorem dX3_add_59 : decode cX3_add 59 = .ok (.return_, 1) := by decide +kernel
theorem dX3_at_0 : decode cX3_at 0 = .ok (.iload_n 1, 1) := by decide +kernel
theorem dX3_at_1 : decode cX3_at 1 = .ok (.ifCond .lt 20, 3) := by decide +kernel
theorem dX3_at_4 : decode cX3_at 4 = .ok (.iload_n 1, 1) := by decide +kernel
theorem dX3_at_5 : decode cX3_at 5 = .ok (.aload_n 0, 1) := by decide +kernel
theorem dX3_at_6 : decode cX3_at 6 = .ok (.getfield 13, 3) := by decide +kernel
theorem dX3_at_9 : decode cX3_at 9 = .ok (.if_icmp .ge 12, 3) := by decide +kernel
theorem dX3_at_12 : decode cX3_at 12 = .ok (.iload_n 2, 1) := by decide +kernel
theorem dX3_at_13 : decode cX3_at 13 = .ok (.ifCond .lt 8, 3) := by decide +kernel
theorem dX3_at_16 : decode cX3_at 16 = .ok (.iload_n 2, 1) := by decide +kernel
theorem dX3_at_17 : decode cX3_at 17 = .ok (.iconst 3, 1) := by decide +kernel
theorem dX3_at_18 : decode cX3_at 18 = .ok (.if_icmp .lt 7, 3) := by decide +kernel
theorem dX3_at_21 : decode cX3_at 21 = .ok (.ldc2_w 23, 3) := by decide +kernel
theorem dX3_at_24 : decode cX3_at 24 = .ok (.lreturn, 1) := by decide +kernel
theorem dX3_at_25 : decode cX3_at 25 = .ok (.aload_n 0, 1) := by decide +kernel
theorem dX3_at_26 : decode cX3_at 26 = .ok (.getfield 9, 3) := by decide +kernel
theorem dX3_at_29 : decode cX3_at 29 = .ok (.iload_n 1, 1) := by decide +kernel
theorem dX3_at_30 : decode cX3_at 30 = .ok (.iconst 3, 1) := by decide +kernel
theorem dX3_at_31 : decode cX3_at 31 = .ok (.imul, 1) := by decide +kernel
theorem dX3_at_32 : decode cX3_at 32 = .ok (.iload_n 2, 1) := by decide +kernel
theorem dX3_at_33 : decode cX3_at 33 = .ok (.iadd, 1) := by decide +kernel
theorem dX3_at_34 : decode cX3_at 34 = .ok (.laload, 1) := by decide +kernel
theorem dX3_at_35 : decode cX3_at 35 = .ok (.lreturn, 1) := by decide +kernel
theorem dX4_ofAddress_0 : decode cX4_ofAddress 0 = .ok (.lload_n 1, 1) := by decide +kernel
theorem dX4_ofAddress_1 : decode cX4_ofAddress 1 = .ok (.ldc2_w 9, 3) := by decide +kernel
theorem dX4_ofAddress_4 : decode cX4_ofAddress 4 = .ok (.lcmp, 1) := by decide +kernel
theorem dX4_ofAddress_5 : decode cX4_ofAddress 5 = .ok (.ifCond .lt 11, 3) := by decide +kernel
theorem dX4_ofAddress_8 : decode cX4_ofAddress 8 = .ok (.lload_n 1, 1) := by decide +kernel
theorem dX4_ofAddress_9 : decode cX4_ofAddress 9 = .ok (.ldc2_w 11, 3) := by decide +kernel
theorem dX4_ofAddress_12 : decode cX4_ofAddress 12 = .ok (.lcmp, 1) := by decide +kernel
theorem dX4_ofAddress_13 : decode cX4_ofAddress 13 = .ok (.ifCond .le 7, 3) := by decide +kernel
theorem dX4_ofAddress_16 : decode cX4_ofAddress 16 = .ok (.ldc2_w 13, 3) := by decide +kernel
theorem dX4_ofAddress_19 : decode cX4_ofAddress 19 = .ok (.lreturn, 1) := by decide +kernel
theorem dX4_ofAddress_20 : decode cX4_ofAddress 20 = .ok (.ldc2_w 15, 3) := by decide +kernel
theorem dX4_ofAddress_23 : decode cX4_ofAddress 23 = .ok (.iload_n 0, 1) := by decide +kernel
theorem dX4_ofAddress_24 : decode cX4_ofAddress 24 = .ok (.i2l, 1) := by decide +kernel
theorem dX4_ofAddress_25 : decode cX4_ofAddress 25 = .ok (.bipush 11, 2) := by decide +kernel
theorem dX4_ofAddress_27 : decode cX4_ofAddress 27 = .ok (.lshl, 1) := by decide +kernel
theorem dX4_ofAddress_28 : decode cX4_ofAddress 28 = .ok (.ladd, 1) := by decide +kernel
theorem dX4_ofAddress_29 : decode cX4_ofAddress 29 = .ok (.lload_n 1, 1) := by decide +kernel
theorem dX4_ofAddress_30 : decode cX4_ofAddress 30 = .ok (.ldc2_w 11, 3) := by decide +kernel
theorem dX4_ofAddress_33 : decode cX4_ofAddress 33 = .ok (.ladd, 1) := by decide +kernel
theorem dX4_ofAddress_34 : decode cX4_ofAddress 34 = .ok (.ladd, 1) := by decide +kernel
theorem dX4_ofAddress_35 : decode cX4_ofAddress 35 = .ok (.lreturn, 1) := by decide +kernel
theorem dX4_isNumber_0 : decode cX4_isNumber 0 = .ok (.lload_n 0, 1) := by decide +kernel
theorem dX4_isNumber_1 : decode cX4_isNumber 1 = .ok (.lconst 0, 1) := by decide +kernel
theorem dX4_isNumber_2 : decode cX4_isNumber 2 = .ok (.lcmp, 1) := by decide +kernel
theorem dX4_isNumber_3 : decode cX4_isNumber 3 = .ok (.ifCond .lt 15, 3) := by decide +kernel
theorem dX4_isNumber_6 : decode cX4_isNumber 6 = .ok (.lload_n 0, 1) := by decide +kernel
theorem dX4_isNumber_7 : decode cX4_isNumber 7 = .ok (.ldc2_w 15, 3) := by decide +kernel
theorem dX4_isNumber_10 : decode cX4_isNumber 10 = .ok (.lcmp, 1) := by decide +kernel
theorem dX4_isNumber_11 : decode cX4_isNumber 11 = .ok (.ifCond .ge 7, 3) := by decide +kernel
theorem dX4_isNumber_14 : decode cX4_isNumber 14 = .ok (.iconst 1, 1) := by decide +kernel
theorem dX4_isNumber_15 : decode cX4_isNumber 15 = .ok (.goto 4, 3) := by decide +kernel
theorem dX4_isNumber_18 : decode cX4_isNumber 18 = .ok (.iconst 0, 1) := by decide +kernel
theorem dX4_isNumber_19 : decode cX4_isNumber 19 = .ok (.ireturn, 1) := by decide +kernel
theorem dX4_isAddress_0 : decode cX4_isAddress 0 = .ok (.lload_n 0, 1) := by decide +kernel
theorem dX4_isAddress_1 : decode cX4_isAddress 1 = .ok (.ldc2_w 15, 3) := by decide +kernel
theorem dX4_isAddress_4 : decode cX4_isAddress 4 = .ok (.lcmp, 1) := by decide +kernel
theorem dX4_isAddress_5 : decode cX4_isAddress 5 = .ok (.ifCond .lt 7, 3) := by decide +kernel
theorem dX4_isAddress_8 : decode cX4_isAddress 8 = .ok (.iconst 1, 1) := by decide +kernel
theorem dX4_isAddress_9 : decode cX4_isAddress 9 = .ok (.goto 4, 3) := by decide +kernel
theorem dX4_isAddress_12 : decode cX4_isAddress 12 = .ok (.iconst 0, 1) := by decide +kernel
theorem dX4_isAddress_13 : decode cX4_isAddress 13 = .ok (.ireturn, 1) := by decide +kernel
theorem dX4_segmentOf_0 : decode cX4_segmentOf 0 = .ok (.lload_n 0, 1) := by decide +kernel
theorem dX4_segmentOf_1 : decode cX4_segmentOf 1 = .ok (.ldc2_w 15, 3) := by decide +kernel
theorem dX4_segmentOf_4 : decode cX4_segmentOf 4 = .ok (.lsub, 1) := by decide +kernel
theorem dX4_segmentOf_5 : decode cX4_segmentOf 5 = .ok (.bipush 11, 2) := by decide +kernel
theorem dX4_segmentOf_7 : decode cX4_segmentOf 7 = .ok (.lushr, 1) := by decide +kernel
theorem dX4_segmentOf_8 : decode cX4_segmentOf 8 = .ok (.l2i, 1) := by decide +kernel
theorem dX4_segmentOf_9 : decode cX4_segmentOf 9 = .ok (.ireturn, 1) := by decide +kernel
theorem dX4_cellOf_0 : decode cX4_cellOf 0 = .ok (.lload_n 0, 1) := by decide +kernel
theorem dX4_cellOf_1 : decode cX4_cellOf 1 = .ok (.ldc2_w 15, 3) := by decide +kernel
theorem dX4_cellOf_4 : decode cX4_cellOf 4 = .ok (.lsub, 1) := by decide +kernel
theorem dX4_cellOf_5 : decode cX4_cellOf 5 = .ok (.ldc2_w 17, 3) := by decide +kernel
theorem dX4_cellOf_8 : decode cX4_cellOf 8 = .ok (.land, 1) := by decide +kernel
theorem dX4_cellOf_9 : decode cX4_cellOf 9 = .ok (.l2i, 1) := by decide +kernel
theorem dX4_cellOf_10 : decode cX4_cellOf 10 = .ok (.sipush 1000, 3) := by decide +kernel
theorem dX4_cellOf_13 : decode cX4_cellOf 13 = .ok (.isub, 1) := by decide +kernel
theorem dX4_cellOf_14 : decode cX4_cellOf 14 = .ok (.ireturn, 1) := by decide +kernel
set_option maxRecDepth 20000 in
theorem ggX4_shifted_X4_segmentOf : GoodIn wsX4_shifted wsX4_segmentOf := goodIn_r _ [4, 5] (by decide +kernel) (by decide +kernel)
set_option maxRecDepth 20000 in
theorem gX4_shifted_X4_segmentOf : GoodIn wsX4_shifted (va_wsS RX4 19 yX4_segmentOf wsX4_segmentOf) := goodIn_app (goodIn_of _ (by decide +kernel)) ggX4_shifted_X4_segmentOf
set_option maxRecDepth 20000 in
theorem ggX4_shifted_X4_cellOf : GoodIn wsX4_shifted wsX4_cellOf := goodIn_r _ [8, 5, 9] (by decide +kernel) (by decide +kernel)
set_option maxRecDepth 20000 in
theorem gX4_shifted_X4_cellOf : GoodIn wsX4_shifted (va_wsS RX4 23 yX4_cellOf wsX4_cellOf) := goodIn_app (goodIn_of _ (by decide +kernel)) ggX4_shifted_X4_cellOf
set_option maxRecDepth 20000 in
theorem ggX4_shifted_X4_ofAddress : GoodIn wsX4_shifted wsX4_ofAddress := goodIn_r _ [12, 13, 14, 15, 5] (by decide +kernel) (by decide +kernel)
set_option maxRecDepth 20000 in
theorem gX4_shifted_X4_ofAddress : GoodIn wsX4_shifted (va_wsS RX4 26 yX4_ofAddress wsX4_ofAddress) := goodIn_app (goodIn_of _ (by decide +kernel)) ggX4_shifted_X4_ofAddress
theorem dX4_shifted_0 : decode cX4_shifted 0 = .ok (.lload_n 0, 1) := by decide +kernel
theorem dX4_shifted_1 : decode cX4_shifted 1 = .ok (.invokestatic 19, 3) := by decide +kernel
theorem dX4_shifted_4 : decode cX4_shifted 4 = .ok (.lload_n 0, 1) := by decide +kernel
theorem dX4_shifted_5 : decode cX4_shifted 5 = .ok (.invokestatic 23, 3) := by decide +kernel
theorem dX4_shifted_8 : decode cX4_shifted 8 = .ok (.i2l, 1) := by decide +kernel
theorem dX4_shifted_9 : decode cX4_shifted 9 = .ok (.lload_n 2, 1) := by decide +kernel
theorem dX4_shifted_10 : decode cX4_shifted 10 = .ok (.ladd, 1) := by decide +kernel
theorem dX4_shifted_11 : decode cX4_shifted 11 = .ok (.invokestatic 26, 3) := by decide +kernel
theorem dX4_shifted_14 : decode cX4_shifted 14 = .ok (.lreturn, 1) := by decide +kernel
set_option maxRecDepth 20000 in
theorem ggX4_plus_X4_isNumber : GoodIn wsX4_plus wsX4_isNumber := goodIn_r _ [5, 6] (by decide +kernel) (by decide +kernel)
set_option maxRecDepth 20000 in
theorem gX4_plus_X4_isNumber : GoodIn wsX4_plus (va_wsS RX4 30 yX4_isNumber wsX4_isNumber) := goodIn_app (goodIn_of _ (by decide +kernel)) ggX4_plus_X4_isNumber
set_option maxRecDepth 20000 in
theorem ggX4_plus_X0_sum : GoodIn wsX4_plus wsX0_sum := goodIn_r _ [10, 11] (by decide +kernel) (by decide +kernel)
set_option maxRecDepth 20000 in
theorem gX4_plus_X0_sum : GoodIn wsX4_plus (va_wsS RX4 34 yX0_sum wsX0_sum) := goodIn_app (goodIn_of _ (by decide +kernel)) ggX4_plus_X0_sum
set_option maxRecDepth 20000 in
theorem ggX4_plus_X4_isAddress : GoodIn wsX4_plus wsX4_isAddress := goodIn_r _ [14, 6] (by decide +kernel) (by decide +kernel)
set_option maxRecDepth 20000 in
theorem gX4_plus_X4_isAddress : GoodIn wsX4_plus (va_wsS RX4 40 yX4_isAddress wsX4_isAddress) := goodIn_app (goodIn_of _ (by decide +kernel)) ggX4_plus_X4_isAddress
set_option maxRecDepth 20000 in
theorem ggX4_plus_X4_further : GoodIn wsX4_plus wsX4_further := goodIn_r _ [17, 18, 19, 20, 1, 21, 22, 4, 23, 24, 25, 26, 6, 27, 28, 29, 30, 31, 32, 33, 34] (by decide +kernel) (by decide +kernel)
set_option maxRecDepth 20000 in
theorem gX4_plus_X4_further : GoodIn wsX4_plus (va_wsS RX4 43 yX4_further wsX4_further) := goodIn_app (goodIn_of _ (by decide +kernel)) ggX4_plus_X4_further
theorem dX4_plus_0 : decode cX4_plus 0 = .ok (.lload_n 0, 1) := by decide +kernel
theorem dX4_plus_1 : decode cX4_plus 1 = .ok (.invokestatic 30, 3) := by decide +kernel
theorem dX4_plus_4 : decode cX4_plus 4 = .ok (.ifCond .eq 16, 3) := by decide +kernel
theorem dX4_plus_7 : decode cX4_plus 7 = .ok (.lload_n 2, 1) := by decide +kernel
theorem dX4_plus_8 : decode cX4_plus 8 = .ok (.invokestatic 30, 3) := by decide +kernel
theorem dX4_plus_11 : decode cX4_plus 11 = .ok (.ifCond .eq 9, 3) := by decide +kernel
theorem dX4_plus_14 : decode cX4_plus 14 = .ok (.lload_n 0, 1) := by decide +kernel
theorem dX4_plus_15 : decode cX4_plus 15 = .ok (.lload_n 2, 1) := by decide +kernel
theorem dX4_plus_16 : decode cX4_plus 16 = .ok (.invokestatic 34, 3) := by decide +kernel
theorem dX4_plus_19 : decode cX4_plus 19 = .ok (.lreturn, 1) := by decide +kernel
theorem dX4_plus_20 : decode cX4_plus 20 = .ok (.lload_n 0, 1) := by decide +kernel
theorem dX4_plus_21 : decode cX4_plus 21 = .ok (.invokestatic 40, 3) := by decide +kernel
theorem dX4_plus_24 : decode cX4_plus 24 = .ok (.ifCond .eq 16, 3) := by decide +kernel
theorem dX4_plus_27 : decode cX4_plus 27 = .ok (.lload_n 2, 1) := by decide +kernel
theorem dX4_plus_28 : decode cX4_plus 28 = .ok (.invokestatic 30, 3) := by decide +kernel
theorem dX4_plus_31 : decode cX4_plus 31 = .ok (.ifCond .eq 9, 3) := by decide +kernel
theorem dX4_plus_34 : decode cX4_plus 34 = .ok (.lload_n 0, 1) := by decide +kernel
theorem dX4_plus_35 : decode cX4_plus 35 = .ok (.lload_n 2, 1) := by decide +kernel
theorem dX4_plus_36 : decode cX4_plus 36 = .ok (.invokestatic 43, 3) := by decide +kernel
theorem dX4_plus_39 : decode cX4_plus 39 = .ok (.lreturn, 1) := by decide +kernel
theorem dX4_plus_40 : decode cX4_plus 40 = .ok (.lload_n 0, 1) := by decide +kernel
theorem dX4_plus_41 : decode cX4_plus 41 = .ok (.invokestatic 30, 3) := by decide +kernel
theorem dX4_plus_44 : decode cX4_plus 44 = .ok (.ifCond .eq 16, 3) := by decide +kernel
theorem dX4_plus_47 : decode cX4_plus 47 = .ok (.lload_n 2, 1) := by decide +kernel
theorem dX4_plus_48 : decode cX4_plus 48 = .ok (.invokestatic 40, 3) := by decide +kernel
theorem dX4_plus_51 : decode cX4_plus 51 = .ok (.ifCond .eq 9, 3) := by decide +kernel
theorem dX4_plus_54 : decode cX4_plus 54 = .ok (.lload_n 2, 1) := by decide +kernel
theorem dX4_plus_55 : decode cX4_plus 55 = .ok (.lload_n 0, 1) := by decide +kernel
theorem dX4_plus_56 : decode cX4_plus 56 = .ok (.invokestatic 43, 3) := by decide +kernel
theorem dX4_plus_59 : decode cX4_plus 59 = .ok (.lreturn, 1) := by decide +kernel
theorem dX4_plus_60 : decode cX4_plus 60 = .ok (.ldc2_w 13, 3) := by decide +kernel
theorem dX4_plus_63 : decode cX4_plus 63 = .ok (.lreturn, 1) := by decide +kernel
set_option maxRecDepth 20000 in
theorem ggX4_minus_X4_isNumber : GoodIn wsX4_minus wsX4_isNumber := goodIn_r _ [5, 6] (by decide +kernel) (by decide +kernel)
set_option maxRecDepth 20000 in
theorem gX4_minus_X4_isNumber : GoodIn wsX4_minus (va_wsS RX4 30 yX4_isNumber wsX4_isNumber) := goodIn_app (goodIn_of _ (by decide +kernel)) ggX4_minus_X4_isNumber
set_option maxRecDepth 20000 in
theorem ggX4_minus_X0_difference : GoodIn wsX4_minus wsX0_difference := goodIn_r _ [10, 11] (by decide +kernel) (by decide +kernel)
set_option maxRecDepth 20000 in
theorem gX4_minus_X0_difference : GoodIn wsX4_minus (va_wsS RX4 46 yX0_difference wsX0_difference) := goodIn_app (goodIn_of _ (by decide +kernel)) ggX4_minus_X0_difference
set_option maxRecDepth 20000 in
theorem ggX4_minus_X4_isAddress : GoodIn wsX4_minus wsX4_isAddress := goodIn_r _ [14, 6] (by decide +kernel) (by decide +kernel)
set_option maxRecDepth 20000 in
theorem gX4_minus_X4_isAddress : GoodIn wsX4_minus (va_wsS RX4 40 yX4_isAddress wsX4_isAddress) := goodIn_app (goodIn_of _ (by decide +kernel)) ggX4_minus_X4_isAddress
set_option maxRecDepth 20000 in
theorem ggX4_minus_X4_further : GoodIn wsX4_minus wsX4_further := goodIn_r _ [17, 18, 19, 20, 1, 21, 22, 4, 23, 24, 25, 26, 6, 27, 28, 29, 30, 31, 32, 33, 34] (by decide +kernel) (by decide +kernel)
set_option maxRecDepth 20000 in
theorem gX4_minus_X4_further : GoodIn wsX4_minus (va_wsS RX4 43 yX4_further wsX4_further) := goodIn_app (goodIn_of _ (by decide +kernel)) ggX4_minus_X4_further
set_option maxRecDepth 20000 in
theorem ggX4_minus_X4_segmentOf : GoodIn wsX4_minus wsX4_segmentOf := goodIn_r _ [26, 6] (by decide +kernel) (by decide +kernel)
set_option maxRecDepth 20000 in
theorem gX4_minus_X4_segmentOf : GoodIn wsX4_minus (va_wsS RX4 19 yX4_segmentOf wsX4_segmentOf) := goodIn_app (goodIn_of _ (by decide +kernel)) ggX4_minus_X4_segmentOf
set_option maxRecDepth 20000 in
theorem ggX4_minus_X4_cellOf : GoodIn wsX4_minus wsX4_cellOf := goodIn_r _ [29, 6, 30] (by decide +kernel) (by decide +kernel)
set_option maxRecDepth 20000 in
theorem gX4_minus_X4_cellOf : GoodIn wsX4_minus (va_wsS RX4 23 yX4_cellOf wsX4_cellOf) := goodIn_app (goodIn_of _ (by decide +kernel)) ggX4_minus_X4_cellOf
set_option maxRecDepth 20000 in
theorem ggX4_minus_X0_reduce : GoodIn wsX4_minus wsX0_reduce := goodIn_r _ [37, 11, 38, 39, 40, 41] (by decide +kernel) (by decide +kernel)
set_option maxRecDepth 20000 in
theorem gX4_minus_X0_reduce : GoodIn wsX4_minus (va_wsS RX4 49 yX0_reduce wsX0_reduce) := goodIn_app (goodIn_of _ (by decide +kernel)) ggX4_minus_X0_reduce
theorem dX4_minus_0 : decode cX4_minus 0 = .ok (.lload_n 0, 1) := by decide +kernel
theorem dX4_minus_1 : decode cX4_minus 1 = .ok (.invokestatic 30, 3) := by decide +kernel
theorem dX4_minus_4 : decode cX4_minus 4 = .ok (.ifCond .eq 16, 3) := by decide +kernel
theorem dX4_minus_7 : decode cX4_minus 7 = .ok (.lload_n 2, 1) := by decide +kernel
theorem dX4_minus_8 : decode cX4_minus 8 = .ok (.invokestatic 30, 3) := by decide +kernel
theorem dX4_minus_11 : decode cX4_minus 11 = .ok (.ifCond .eq 9, 3) := by decide +kernel
theorem dX4_minus_14 : decode cX4_minus 14 = .ok (.lload_n 0, 1) := by decide +kernel
theorem dX4_minus_15 : decode cX4_minus 15 = .ok (.lload_n 2, 1) := by decide +kernel
theorem dX4_minus_16 : decode cX4_minus 16 = .ok (.invokestatic 46, 3) := by decide +kernel
theorem dX4_minus_19 : decode cX4_minus 19 = .ok (.lreturn, 1) := by decide +kernel
theorem dX4_minus_20 : decode cX4_minus 20 = .ok (.lload_n 0, 1) := by decide +kernel
theorem dX4_minus_21 : decode cX4_minus 21 = .ok (.invokestatic 40, 3) := by decide +kernel
theorem dX4_minus_24 : decode cX4_minus 24 = .ok (.ifCond .eq 20, 3) := by decide +kernel
theorem dX4_minus_27 : decode cX4_minus 27 = .ok (.lload_n 2, 1) := by decide +kernel
theorem dX4_minus_28 : decode cX4_minus 28 = .ok (.invokestatic 30, 3) := by decide +kernel
theorem dX4_minus_31 : decode cX4_minus 31 = .ok (.ifCond .eq 13, 3) := by decide +kernel
theorem dX4_minus_34 : decode cX4_minus 34 = .ok (.lload_n 0, 1) := by decide +kernel
theorem dX4_minus_35 : decode cX4_minus 35 = .ok (.lconst 0, 1) := by decide +kernel
theorem dX4_minus_36 : decode cX4_minus 36 = .ok (.lload_n 2, 1) := by decide +kernel
theorem dX4_minus_37 : decode cX4_minus 37 = .ok (.invokestatic 46, 3) := by decide +kernel
theorem dX4_minus_40 : decode cX4_minus 40 = .ok (.invokestatic 43, 3) := by decide +kernel
theorem dX4_minus_43 : decode cX4_minus 43 = .ok (.lreturn, 1) := by decide +kernel
theorem dX4_minus_44 : decode cX4_minus 44 = .ok (.lload_n 0, 1) := by decide +kernel
theorem dX4_minus_45 : decode cX4_minus 45 = .ok (.invokestatic 40, 3) := by decide +kernel
theorem dX4_minus_48 : decode cX4_minus 48 = .ok (.ifCond .eq 35, 3) := by decide +kernel
theorem dX4_minus_51 : decode cX4_minus 51 = .ok (.lload_n 2, 1) := by decide +kernel
theorem dX4_minus_52 : decode cX4_minus 52 = .ok (.invokestatic 40, 3) := by decide +kernel
theorem dX4_minus_55 : decode cX4_minus 55 = .ok (.ifCond .eq 28, 3) := by decide +kernel
theorem dX4_minus_58 : decode cX4_minus 58 = .ok (.lload_n 0, 1) := by decide +kernel
theorem dX4_minus_59 : decode cX4_minus 59 = .ok (.invokestatic 19, 3) := by decide +kernel
theorem dX4_minus_62 : decode cX4_minus 62 = .ok (.lload_n 2, 1) := by decide +kernel
theorem dX4_minus_63 : decode cX4_minus 63 = .ok (.invokestatic 19, 3) := by decide +kernel
theorem dX4_minus_66 : decode cX4_minus 66 = .ok (.if_icmp .ne 17, 3) := by decide +kernel
theorem dX4_minus_69 : decode cX4_minus 69 = .ok (.lload_n 0, 1) := by decide +kernel
theorem dX4_minus_70 : decode cX4_minus 70 = .ok (.invokestatic 23, 3) := by decide +kernel
theorem dX4_minus_73 : decode cX4_minus 73 = .ok (.lload_n 2, 1) := by decide +kernel
theorem dX4_minus_74 : decode cX4_minus 74 = .ok (.invokestatic 23, 3) := by decide +kernel
theorem dX4_minus_77 : decode cX4_minus 77 = .ok (.isub, 1) := by decide +kernel
theorem dX4_minus_78 : decode cX4_minus 78 = .ok (.i2l, 1) := by decide +kernel
theorem dX4_minus_79 : decode cX4_minus 79 = .ok (.invokestatic 49, 3) := by decide +kernel
theorem dX4_minus_82 : decode cX4_minus 82 = .ok (.lreturn, 1) := by decide +kernel
theorem dX4_minus_83 : decode cX4_minus 83 = .ok (.ldc2_w 13, 3) := by decide +kernel
theorem dX4_minus_86 : decode cX4_minus 86 = .ok (.lreturn, 1) := by decide +kernel
set_option maxRecDepth 20000 in
theorem ggX4_times_X4_isNumber : GoodIn wsX4_times wsX4_isNumber := goodIn_r _ [5, 6] (by decide +kernel) (by decide +kernel)
set_option maxRecDepth 20000 in
theorem gX4_times_X4_isNumber : GoodIn wsX4_times (va_wsS RX4 30 yX4_isNumber wsX4_isNumber) := goodIn_app (goodIn_of _ (by decide +kernel)) ggX4_times_X4_isNumber
set_option maxRecDepth 20000 in
theorem ggX4_times_X0_product : GoodIn wsX4_times wsX0_product := goodIn_r _ [10, 11, 12, 13, 14, 15, 16, 9, 17] (by decide +kernel) (by decide +kernel)
set_option maxRecDepth 20000 in
theorem gX4_times_X0_product : GoodIn wsX4_times (va_wsS RX4 53 yX0_product wsX0_product) := goodIn_app (goodIn_of _ (by decide +kernel)) ggX4_times_X0_product
theorem dX4_times_0 : decode cX4_times 0 = .ok (.lload_n 0, 1) := by decide +kernel
theorem dX4_times_1 : decode cX4_times 1 = .ok (.invokestatic 30, 3) := by decide +kernel
theorem dX4_times_4 : decode cX4_times 4 = .ok (.ifCond .eq 18, 3) := by decide +kernel
theorem dX4_times_7 : decode cX4_times 7 = .ok (.lload_n 2, 1) := by decide +kernel
theorem dX4_times_8 : decode cX4_times 8 = .ok (.invokestatic 30, 3) := by decide +kernel
theorem dX4_times_11 : decode cX4_times 11 = .ok (.ifCond .eq 11, 3) := by decide +kernel
theorem dX4_times_14 : decode cX4_times 14 = .ok (.lload_n 0, 1) := by decide +kernel
theorem dX4_times_15 : decode cX4_times 15 = .ok (.lload_n 2, 1) := by decide +kernel
theorem dX4_times_16 : decode cX4_times 16 = .ok (.invokestatic 53, 3) := by decide +kernel
theorem dX4_times_19 : decode cX4_times 19 = .ok (.goto 6, 3) := by decide +kernel
theorem dX4_times_22 : decode cX4_times 22 = .ok (.ldc2_w 13, 3) := by decide +kernel
theorem dX4_times_25 : decode cX4_times 25 = .ok (.lreturn, 1) := by decide +kernel
set_option maxRecDepth 20000 in
theorem ggX4_over_X4_isNumber : GoodIn wsX4_over wsX4_isNumber := goodIn_r _ [5, 6] (by decide +kernel) (by decide +kernel)
set_option maxRecDepth 20000 in
theorem gX4_over_X4_isNumber : GoodIn wsX4_over (va_wsS RX4 30 yX4_isNumber wsX4_isNumber) := goodIn_app (goodIn_of _ (by decide +kernel)) ggX4_over_X4_isNumber
set_option maxRecDepth 20000 in
theorem ggX4_over_X0_quotient : GoodIn wsX4_over wsX0_quotient := goodIn_r _ [10, 11, 12, 13, 9, 14, 15, 16, 17, 18, 19, 20, 21] (by decide +kernel) (by decide +kernel)
set_option maxRecDepth 20000 in
theorem gX4_over_X0_quotient : GoodIn wsX4_over (va_wsS RX4 56 yX0_quotient wsX0_quotient) := goodIn_app (goodIn_of _ (by decide +kernel)) ggX4_over_X0_quotient
theorem dX4_over_0 : decode cX4_over 0 = .ok (.lload_n 0, 1) := by decide +kernel
theorem dX4_over_1 : decode cX4_over 1 = .ok (.invokestatic 30, 3) := by decide +kernel
theorem dX4_over_4 : decode cX4_over 4 = .ok (.ifCond .eq 24, 3) := by decide +kernel
theorem dX4_over_7 : decode cX4_over 7 = .ok (.lload_n 2, 1) := by decide +kernel
theorem dX4_over_8 : decode cX4_over 8 = .ok (.invokestatic 30, 3) := by decide +kernel
theorem dX4_over_11 : decode cX4_over 11 = .ok (.ifCond .eq 17, 3) := by decide +kernel
theorem dX4_over_14 : decode cX4_over 14 = .ok (.lload_n 2, 1) := by decide +kernel
theorem dX4_over_15 : decode cX4_over 15 = .ok (.lconst 0, 1) := by decide +kernel
theorem dX4_over_16 : decode cX4_over 16 = .ok (.lcmp, 1) := by decide +kernel
theorem dX4_over_17 : decode cX4_over 17 = .ok (.ifCond .eq 11, 3) := by decide +kernel
theorem dX4_over_20 : decode cX4_over 20 = .ok (.lload_n 0, 1) := by decide +kernel
theorem dX4_over_21 : decode cX4_over 21 = .ok (.lload_n 2, 1) := by decide +kernel
theorem dX4_over_22 : decode cX4_over 22 = .ok (.invokestatic 56, 3) := by decide +kernel
theorem dX4_over_25 : decode cX4_over 25 = .ok (.goto 6, 3) := by decide +kernel
theorem dX4_over_28 : decode cX4_over 28 = .ok (.ldc2_w 13, 3) := by decide +kernel
theorem dX4_over_31 : decode cX4_over 31 = .ok (.lreturn, 1) := by decide +kernel
set_option maxRecDepth 20000 in
theorem ggX4_further_X4_shifted : GoodIn wsX4_further wsX4_shifted := goodIn_r _ [8, 9, 10, 7, 11, 12, 13, 14, 15, 16, 17, 18, 19, 20, 1, 4] (by decide +kernel) (by decide +kernel)
set_option maxRecDepth 20000 in
theorem gX4_further_X4_shifted : GoodIn wsX4_further (va_wsS RX4 59 yX4_shifted wsX4_shifted) := goodIn_app (goodIn_of _ (by decide +kernel)) ggX4_further_X4_shifted
theorem dX4_further_0 : decode cX4_further 0 = .ok (.lload_n 2, 1) := by decide +kernel
theorem dX4_further_1 : decode cX4_further 1 = .ok (.ldc2_w 11, 3) := by decide +kernel
theorem dX4_further_4 : decode cX4_further 4 = .ok (.lcmp, 1) := by decide +kernel
theorem dX4_further_5 : decode cX4_further 5 = .ok (.ifCond .gt 9, 3) := by decide +kernel
theorem dX4_further_8 : decode cX4_further 8 = .ok (.lload_n 0, 1) := by decide +kernel
theorem dX4_further_9 : decode cX4_further 9 = .ok (.lload_n 2, 1) := by decide +kernel
theorem dX4_further_10 : decode cX4_further 10 = .ok (.invokestatic 59, 3) := by decide +kernel
theorem dX4_further_13 : decode cX4_further 13 = .ok (.lreturn, 1) := by decide +kernel
theorem dX4_further_14 : decode cX4_further 14 = .ok (.lload_n 2, 1) := by decide +kernel
theorem dX4_further_15 : decode cX4_further 15 = .ok (.ldc2_w 62, 3) := by decide +kernel
theorem dX4_further_18 : decode cX4_further 18 = .ok (.lcmp, 1) := by decide +kernel
theorem dX4_further_19 : decode cX4_further 19 = .ok (.ifCond .lt 15, 3) := by decide +kernel
theorem dX4_further_22 : decode cX4_further 22 = .ok (.lload_n 0, 1) := by decide +kernel
theorem dX4_further_23 : decode cX4_further 23 = .ok (.lload_n 2, 1) := by decide +kernel
theorem dX4_further_24 : decode cX4_further 24 = .ok (.ldc2_w 64, 3) := by decide +kernel
theorem dX4_further_27 : decode cX4_further 27 = .ok (.lsub, 1) := by decide +kernel
theorem dX4_further_28 : decode cX4_further 28 = .ok (.invokestatic 59, 3) := by decide +kernel
theorem dX4_further_31 : decode cX4_further 31 = .ok (.goto 6, 3) := by decide +kernel
theorem dX4_further_34 : decode cX4_further 34 = .ok (.ldc2_w 13, 3) := by decide +kernel
theorem dX4_further_37 : decode cX4_further 37 = .ok (.lreturn, 1) := by decide +kernel
theorem dX5_isOffset_0 : decode cX5_isOffset 0 = .ok (.iload_n 0, 1) := by decide +kernel
theorem dX5_isOffset_1 : decode cX5_isOffset 1 = .ok (.sipush (-512), 3) := by decide +kernel
theorem dX5_isOffset_4 : decode cX5_isOffset 4 = .ok (.if_icmp .lt 14, 3) := by decide +kernel
theorem dX5_isOffset_7 : decode cX5_isOffset 7 = .ok (.iload_n 0, 1) := by decide +kernel
theorem dX5_isOffset_8 : decode cX5_isOffset 8 = .ok (.sipush 512, 3) := by decide +kernel
theorem dX5_isOffset_11 : decode cX5_isOffset 11 = .ok (.if_icmp .ge 7, 3) := by decide +kernel
theorem dX5_isOffset_14 : decode cX5_isOffset 14 = .ok (.iconst 1, 1) := by decide +kernel
theorem dX5_isOffset_15 : decode cX5_isOffset 15 = .ok (.goto 4, 3) := by decide +kernel
theorem dX5_isOffset_18 : decode cX5_isOffset 18 = .ok (.iconst 0, 1) := by decide +kernel
theorem dX5_isOffset_19 : decode cX5_isOffset 19 = .ok (.ireturn, 1) := by decide +kernel
theorem dX5_of_0 : decode cX5_of 0 = .ok (.iload_n 0, 1) := by decide +kernel
theorem dX5_of_1 : decode cX5_of 1 = .ok (.sipush 512, 3) := by decide +kernel
theorem dX5_of_4 : decode cX5_of 4 = .ok (.iadd, 1) := by decide +kernel
theorem dX5_of_5 : decode cX5_of 5 = .ok (.i2l, 1) := by decide +kernel
theorem dX5_of_6 : decode cX5_of 6 = .ok (.iload_n 1, 1) := by decide +kernel
theorem dX5_of_7 : decode cX5_of 7 = .ok (.sipush 512, 3) := by decide +kernel
theorem dX5_of_10 : decode cX5_of 10 = .ok (.iadd, 1) := by decide +kernel
theorem dX5_of_11 : decode cX5_of 11 = .ok (.i2l, 1) := by decide +kernel
theorem dX5_of_12 : decode cX5_of 12 = .ok (.bipush 10, 2) := by decide +kernel
theorem dX5_of_14 : decode cX5_of 14 = .ok (.lshl, 1) := by decide +kernel
theorem dX5_of_15 : decode cX5_of 15 = .ok (.lor, 1) := by decide +kernel
theorem dX5_of_16 : decode cX5_of 16 = .ok (.iload_n 2, 1) := by decide +kernel
theorem dX5_of_17 : decode cX5_of 17 = .ok (.sipush 512, 3) := by decide +kernel
theorem dX5_of_20 : decode cX5_of 20 = .ok (.iadd, 1) := by decide +kernel
theorem dX5_of_21 : decode cX5_of 21 = .ok (.i2l, 1) := by decide +kernel
theorem dX5_of_22 : decode cX5_of 22 = .ok (.bipush 20, 2) := by decide +kernel
theorem dX5_of_24 : decode cX5_of 24 = .ok (.lshl, 1) := by decide +kernel
theorem dX5_of_25 : decode cX5_of 25 = .ok (.lor, 1) := by decide +kernel
theorem dX5_of_26 : decode cX5_of 26 = .ok (.iload_n 3, 1) := by decide +kernel
theorem dX5_of_27 : decode cX5_of 27 = .ok (.i2l, 1) := by decide +kernel
theorem dX5_of_28 : decode cX5_of 28 = .ok (.bipush 30, 2) := by decide +kernel
theorem dX5_of_30 : decode cX5_of 30 = .ok (.lshl, 1) := by decide +kernel
theorem dX5_of_31 : decode cX5_of 31 = .ok (.lor, 1) := by decide +kernel
theorem dX5_of_32 : decode cX5_of 32 = .ok (.lreturn, 1) := by decide +kernel
theorem dX5_offsetOf_0 : decode cX5_offsetOf 0 = .ok (.lload_n 0, 1) := by decide +kernel
theorem dX5_offsetOf_1 : decode cX5_offsetOf 1 = .ok (.iload_n 2, 1) := by decide +kernel
theorem dX5_offsetOf_2 : decode cX5_offsetOf 2 = .ok (.bipush 10, 2) := by decide +kernel
theorem dX5_offsetOf_4 : decode cX5_offsetOf 4 = .ok (.imul, 1) := by decide +kernel
theorem dX5_offsetOf_5 : decode cX5_offsetOf 5 = .ok (.lushr, 1) := by decide +kernel
theorem dX5_offsetOf_6 : decode cX5_offsetOf 6 = .ok (.ldc2_w 9, 3) := by decide +kernel
theorem dX5_offsetOf_9 : decode cX5_offsetOf 9 = .ok (.land, 1) := by decide +kernel
theorem dX5_offsetOf_10 : decode cX5_offsetOf 10 = .ok (.l2i, 1) := by decide +kernel
theorem dX5_offsetOf_11 : decode cX5_offsetOf 11 = .ok (.sipush 512, 3) := by decide +kernel
theorem dX5_offsetOf_14 : decode cX5_offsetOf 14 = .ok (.isub, 1) := by decide +kernel
theorem dX5_offsetOf_15 : decode cX5_offsetOf 15 = .ok (.ireturn, 1) := by decide +kernel
theorem dX5_flagsOf_0 : decode cX5_flagsOf 0 = .ok (.lload_n 0, 1) := by decide +kernel
theorem dX5_flagsOf_1 : decode cX5_flagsOf 1 = .ok (.bipush 30, 2) := by decide +kernel
theorem dX5_flagsOf_3 : decode cX5_flagsOf 3 = .ok (.lushr, 1) := by decide +kernel
theorem dX5_flagsOf_4 : decode cX5_flagsOf 4 = .ok (.l2i, 1) := by decide +kernel
theorem dX5_flagsOf_5 : decode cX5_flagsOf 5 = .ok (.sipush 32767, 3) := by decide +kernel
theorem dX5_flagsOf_8 : decode cX5_flagsOf 8 = .ok (.iand, 1) := by decide +kernel
theorem dX5_flagsOf_9 : decode cX5_flagsOf 9 = .ok (.ireturn, 1) := by decide +kernel
set_option maxRecDepth 20000 in
theorem ggX5_sizeOf_X5_flagsOf : GoodIn wsX5_sizeOf wsX5_flagsOf := goodIn_r _ [4] (by decide +kernel) (by decide +kernel)
set_option maxRecDepth 20000 in
theorem gX5_sizeOf_X5_flagsOf : GoodIn wsX5_sizeOf (va_wsS RX5 11 yX5_flagsOf wsX5_flagsOf) := goodIn_app (goodIn_of _ (by decide +kernel)) ggX5_sizeOf_X5_flagsOf
theorem dX5_sizeOf_0 : decode cX5_sizeOf 0 = .ok (.lload_n 0, 1) := by decide +kernel
theorem dX5_sizeOf_1 : decode cX5_sizeOf 1 = .ok (.invokestatic 11, 3) := by decide +kernel
theorem dX5_sizeOf_4 : decode cX5_sizeOf 4 = .ok (.iconst 4, 1) := by decide +kernel
theorem dX5_sizeOf_5 : decode cX5_sizeOf 5 = .ok (.iand, 1) := by decide +kernel
theorem dX5_sizeOf_6 : decode cX5_sizeOf 6 = .ok (.ifCond .eq 7, 3) := by decide +kernel
theorem dX5_sizeOf_9 : decode cX5_sizeOf 9 = .ok (.iconst 2, 1) := by decide +kernel
theorem dX5_sizeOf_10 : decode cX5_sizeOf 10 = .ok (.goto 4, 3) := by decide +kernel
theorem dX5_sizeOf_13 : decode cX5_sizeOf 13 = .ok (.iconst 1, 1) := by decide +kernel
theorem dX5_sizeOf_14 : decode cX5_sizeOf 14 = .ok (.ireturn, 1) := by decide +kernel
set_option maxRecDepth 20000 in
theorem ggX5_isInstruction_X5_flagsOf : GoodIn wsX5_isInstruction wsX5_flagsOf := goodIn_r _ [5] (by decide +kernel) (by decide +kernel)
set_option maxRecDepth 20000 in
theorem gX5_isInstruction_X5_flagsOf : GoodIn wsX5_isInstruction (va_wsS RX5 11 yX5_flagsOf wsX5_flagsOf) := goodIn_app (goodIn_of _ (by decide +kernel)) ggX5_isInstruction_X5_flagsOf
set_option maxRecDepth 20000 in
theorem ggX5_isInstruction_X5_offsetOf : GoodIn wsX5_isInstruction wsX5_offsetOf := goodIn_r _ [8, 9] (by decide +kernel) (by decide +kernel)
set_option maxRecDepth 20000 in
theorem gX5_isInstruction_X5_offsetOf : GoodIn wsX5_isInstruction (va_wsS RX5 17 yX5_offsetOf wsX5_offsetOf) := goodIn_app (goodIn_of _ (by decide +kernel)) ggX5_isInstruction_X5_offsetOf
set_option maxRecDepth 20000 in
theorem ggX5_isInstruction_X5_hasRivals : GoodIn wsX5_isInstruction wsX5_hasRivals := goodIn_r _ [12, 13, 14, 4, 15, 16, 17, 18, 19, 20, 21, 22] (by decide +kernel) (by decide +kernel)
set_option maxRecDepth 20000 in
theorem gX5_isInstruction_X5_hasRivals : GoodIn wsX5_isInstruction (va_wsS RX5 21 yX5_hasRivals wsX5_hasRivals) := goodIn_app (goodIn_of _ (by decide +kernel)) ggX5_isInstruction_X5_hasRivals
set_option maxRecDepth 20000 in
theorem ggX5_isInstruction_X5_hasClash : GoodIn wsX5_isInstruction wsX5_hasClash := goodIn_r _ [25] (by decide +kernel) (by decide +kernel)
set_option maxRecDepth 20000 in
theorem gX5_isInstruction_X5_hasClash : GoodIn wsX5_isInstruction (va_wsS RX5 25 yX5_hasClash wsX5_hasClash) := goodIn_app (goodIn_of _ (by decide +kernel)) ggX5_isInstruction_X5_hasClash
theorem dX5_isInstruction_0 : decode cX5_isInstruction 0 = .ok (.lload_n 0, 1) := by decide +kernel
theorem dX5_isInstruction_1 : decode cX5_isInstruction 1 = .ok (.lconst 0, 1) := by decide +kernel
theorem dX5_isInstruction_2 : decode cX5_isInstruction 2 = .ok (.lcmp, 1) := by decide +kernel
theorem dX5_isInstruction_3 : decode cX5_isInstruction 3 = .ok (.ifCond .lt 11, 3) := by decide +kernel
theorem dX5_isInstruction_6 : decode cX5_isInstruction 6 = .ok (.lload_n 0, 1) := by decide +kernel
theorem dX5_isInstruction_7 : decode cX5_isInstruction 7 = .ok (.ldc2_w 15, 3) := by decide +kernel
theorem dX5_isInstruction_10 : decode cX5_isInstruction 10 = .ok (.lcmp, 1) := by decide +kernel
theorem dX5_isInstruction_11 : decode cX5_isInstruction 11 = .ok (.ifCond .lt 5, 3) := by decide +kernel
theorem dX5_isInstruction_14 : decode cX5_isInstruction 14 = .ok (.iconst 0, 1) := by decide +kernel
theorem dX5_isInstruction_15 : decode cX5_isInstruction 15 = .ok (.ireturn, 1) := by decide +kernel
theorem dX5_isInstruction_16 : decode cX5_isInstruction 16 = .ok (.lload_n 0, 1) := by decide +kernel
theorem dX5_isInstruction_17 : decode cX5_isInstruction 17 = .ok (.invokestatic 11, 3) := by decide +kernel
theorem dX5_isInstruction_20 : decode cX5_isInstruction 20 = .ok (.istore_n 2, 1) := by decide +kernel
theorem dX5_isInstruction_21 : decode cX5_isInstruction 21 = .ok (.iload_n 2, 1) := by decide +kernel
theorem dX5_isInstruction_22 : decode cX5_isInstruction 22 = .ok (.iconst 4, 1) := by decide +kernel
theorem dX5_isInstruction_23 : decode cX5_isInstruction 23 = .ok (.iand, 1) := by decide +kernel
theorem dX5_isInstruction_24 : decode cX5_isInstruction 24 = .ok (.ifCond .eq 16, 3) := by decide +kernel
theorem dX5_isInstruction_27 : decode cX5_isInstruction 27 = .ok (.lload_n 0, 1) := by decide +kernel
theorem dX5_isInstruction_28 : decode cX5_isInstruction 28 = .ok (.iconst 2, 1) := by decide +kernel
theorem dX5_isInstruction_29 : decode cX5_isInstruction 29 = .ok (.invokestatic 17, 3) := by decide +kernel
theorem dX5_isInstruction_32 : decode cX5_isInstruction 32 = .ok (.iconst 1, 1) := by decide +kernel
theorem dX5_isInstruction_33 : decode cX5_isInstruction 33 = .ok (.if_icmp .eq 7, 3) := by decide +kernel
theorem dX5_isInstruction_36 : decode cX5_isInstruction 36 = .ok (.iconst 1, 1) := by decide +kernel
theorem dX5_isInstruction_37 : decode cX5_isInstruction 37 = .ok (.goto 4, 3) := by decide +kernel
theorem dX5_isInstruction_40 : decode cX5_isInstruction 40 = .ok (.iconst 0, 1) := by decide +kernel
theorem dX5_isInstruction_41 : decode cX5_isInstruction 41 = .ok (.istore_n 3, 1) := by decide +kernel
theorem dX5_isInstruction_42 : decode cX5_isInstruction 42 = .ok (.iload_n 3, 1) := by decide +kernel
theorem dX5_isInstruction_43 : decode cX5_isInstruction 43 = .ok (.ifCond .ne 21, 3) := by decide +kernel
theorem dX5_isInstruction_46 : decode cX5_isInstruction 46 = .ok (.iload_n 2, 1) := by decide +kernel
theorem dX5_isInstruction_47 : decode cX5_isInstruction 47 = .ok (.invokestatic 21, 3) := by decide +kernel
theorem dX5_isInstruction_50 : decode cX5_isInstruction 50 = .ok (.ifCond .ne 14, 3) := by decide +kernel
theorem dX5_isInstruction_53 : decode cX5_isInstruction 53 = .ok (.iload_n 2, 1) := by decide +kernel
theorem dX5_isInstruction_54 : decode cX5_isInstruction 54 = .ok (.invokestatic 25, 3) := by decide +kernel
theorem dX5_isInstruction_57 : decode cX5_isInstruction 57 = .ok (.ifCond .ne 7, 3) := by decide +kernel
theorem dX5_isInstruction_60 : decode cX5_isInstruction 60 = .ok (.iconst 1, 1) := by decide +kernel
theorem dX5_isInstruction_61 : decode cX5_isInstruction 61 = .ok (.goto 4, 3) := by decide +kernel
theorem dX5_isInstruction_64 : decode cX5_isInstruction 64 = .ok (.iconst 0, 1) := by decide +kernel
theorem dX5_isInstruction_65 : decode cX5_isInstruction 65 = .ok (.ireturn, 1) := by decide +kernel
set_option maxRecDepth 20000 in
theorem ggX5_hasRivals_X5_moreThanOne : GoodIn wsX5_hasRivals wsX5_moreThanOne := goodIn_r _ [4, 5, 6, 7, 8, 9, 10, 11] (by decide +kernel) (by decide +kernel)
set_option maxRecDepth 20000 in
theorem gX5_hasRivals_X5_moreThanOne : GoodIn wsX5_hasRivals (va_wsS RX5 28 yX5_moreThanOne wsX5_moreThanOne) := goodIn_app (goodIn_of _ (by decide +kernel)) ggX5_hasRivals_X5_moreThanOne
theorem dX5_hasRivals_0 : decode cX5_hasRivals 0 = .ok (.iload_n 0, 1) := by decide +kernel
theorem dX5_hasRivals_1 : decode cX5_hasRivals 1 = .ok (.bipush 28, 2) := by decide +kernel
theorem dX5_hasRivals_3 : decode cX5_hasRivals 3 = .ok (.iand, 1) := by decide +kernel
theorem dX5_hasRivals_4 : decode cX5_hasRivals 4 = .ok (.invokestatic 28, 3) := by decide +kernel
theorem dX5_hasRivals_7 : decode cX5_hasRivals 7 = .ok (.ifCond .ne 46, 3) := by decide +kernel
theorem dX5_hasRivals_10 : decode cX5_hasRivals 10 = .ok (.iload_n 0, 1) := by decide +kernel
theorem dX5_hasRivals_11 : decode cX5_hasRivals 11 = .ok (.bipush 96, 2) := by decide +kernel
theorem dX5_hasRivals_13 : decode cX5_hasRivals 13 = .ok (.iand, 1) := by decide +kernel
theorem dX5_hasRivals_14 : decode cX5_hasRivals 14 = .ok (.invokestatic 28, 3) := by decide +kernel
theorem dX5_hasRivals_17 : decode cX5_hasRivals 17 = .ok (.ifCond .ne 36, 3) := by decide +kernel
theorem dX5_hasRivals_20 : decode cX5_hasRivals 20 = .ok (.iload_n 0, 1) := by decide +kernel
theorem dX5_hasRivals_21 : decode cX5_hasRivals 21 = .ok (.sipush 896, 3) := by decide +kernel
theorem dX5_hasRivals_24 : decode cX5_hasRivals 24 = .ok (.iand, 1) := by decide +kernel
theorem dX5_hasRivals_25 : decode cX5_hasRivals 25 = .ok (.invokestatic 28, 3) := by decide +kernel
theorem dX5_hasRivals_28 : decode cX5_hasRivals 28 = .ok (.ifCond .ne 25, 3) := by decide +kernel
theorem dX5_hasRivals_31 : decode cX5_hasRivals 31 = .ok (.iload_n 0, 1) := by decide +kernel
theorem dX5_hasRivals_32 : decode cX5_hasRivals 32 = .ok (.sipush 3072, 3) := by decide +kernel
theorem dX5_hasRivals_35 : decode cX5_hasRivals 35 = .ok (.iand, 1) := by decide +kernel
theorem dX5_hasRivals_36 : decode cX5_hasRivals 36 = .ok (.invokestatic 28, 3) := by decide +kernel
theorem dX5_hasRivals_39 : decode cX5_hasRivals 39 = .ok (.ifCond .ne 14, 3) := by decide +kernel
theorem dX5_hasRivals_42 : decode cX5_hasRivals 42 = .ok (.iload_n 0, 1) := by decide +kernel
theorem dX5_hasRivals_43 : decode cX5_hasRivals 43 = .ok (.sipush 28672, 3) := by decide +kernel
theorem dX5_hasRivals_46 : decode cX5_hasRivals 46 = .ok (.iand, 1) := by decide +kernel
theorem dX5_hasRivals_47 : decode cX5_hasRivals 47 = .ok (.invokestatic 28, 3) := by decide +kernel
theorem dX5_hasRivals_50 : decode cX5_hasRivals 50 = .ok (.ifCond .eq 7, 3) := by decide +kernel
theorem dX5_hasRivals_53 : decode cX5_hasRivals 53 = .ok (.iconst 1, 1) := by decide +kernel
theorem dX5_hasRivals_54 : decode cX5_hasRivals 54 = .ok (.goto 4, 3) := by decide +kernel
theorem dX5_hasRivals_57 : decode cX5_hasRivals 57 = .ok (.iconst 0, 1) := by decide +kernel
theorem dX5_hasRivals_58 : decode cX5_hasRivals 58 = .ok (.ireturn, 1) := by decide +kernel
theorem dX5_hasClash_0 : decode cX5_hasClash 0 = .ok (.iload_n 0, 1) := by decide +kernel
theorem dX5_hasClash_1 : decode cX5_hasClash 1 = .ok (.sipush 29792, 3) := by decide +kernel
theorem dX5_hasClash_4 : decode cX5_hasClash 4 = .ok (.iand, 1) := by decide +kernel
theorem dX5_hasClash_5 : decode cX5_hasClash 5 = .ok (.ifCond .eq 7, 3) := by decide +kernel
theorem dX5_hasClash_8 : decode cX5_hasClash 8 = .ok (.iconst 1, 1) := by decide +kernel
theorem dX5_hasClash_9 : decode cX5_hasClash 9 = .ok (.goto 4, 3) := by decide +kernel
theorem dX5_hasClash_12 : decode cX5_hasClash 12 = .ok (.iconst 0, 1) := by decide +kernel
theorem dX5_hasClash_13 : decode cX5_hasClash 13 = .ok (.istore_n 1, 1) := by decide +kernel
theorem dX5_hasClash_14 : decode cX5_hasClash 14 = .ok (.iload_n 0, 1) := by decide +kernel
theorem dX5_hasClash_15 : decode cX5_hasClash 15 = .ok (.sipush 3072, 3) := by decide +kernel
theorem dX5_hasClash_18 : decode cX5_hasClash 18 = .ok (.iand, 1) := by decide +kernel
theorem dX5_hasClash_19 : decode cX5_hasClash 19 = .ok (.ifCond .eq 7, 3) := by decide +kernel
theorem dX5_hasClash_22 : decode cX5_hasClash 22 = .ok (.iconst 1, 1) := by decide +kernel
theorem dX5_hasClash_23 : decode cX5_hasClash 23 = .ok (.goto 4, 3) := by decide +kernel
theorem dX5_hasClash_26 : decode cX5_hasClash 26 = .ok (.iconst 0, 1) := by decide +kernel
theorem dX5_hasClash_27 : decode cX5_hasClash 27 = .ok (.istore_n 2, 1) := by decide +kernel
theorem dX5_hasClash_28 : decode cX5_hasClash 28 = .ok (.iload_n 0, 1) := by decide +kernel
theorem dX5_hasClash_29 : decode cX5_hasClash 29 = .ok (.sipush 512, 3) := by decide +kernel
theorem dX5_hasClash_32 : decode cX5_hasClash 32 = .ok (.iand, 1) := by decide +kernel
theorem dX5_hasClash_33 : decode cX5_hasClash 33 = .ok (.ifCond .eq 7, 3) := by decide +kernel
theorem dX5_hasClash_36 : decode cX5_hasClash 36 = .ok (.iload_n 1, 1) := by decide +kernel
theorem dX5_hasClash_37 : decode cX5_hasClash 37 = .ok (.ifCond .ne 15, 3) := by decide +kernel
theorem dX5_hasClash_40 : decode cX5_hasClash 40 = .ok (.iload_n 0, 1) := by decide +kernel
theorem dX5_hasClash_41 : decode cX5_hasClash 41 = .ok (.sipush 4096, 3) := by decide +kernel
theorem dX5_hasClash_44 : decode cX5_hasClash 44 = .ok (.iand, 1) := by decide +kernel
theorem dX5_hasClash_45 : decode cX5_hasClash 45 = .ok (.ifCond .eq 11, 3) := by decide +kernel
theorem dX5_hasClash_48 : decode cX5_hasClash 48 = .ok (.iload_n 2, 1) := by decide +kernel
theorem dX5_hasClash_49 : decode cX5_hasClash 49 = .ok (.ifCond .eq 7, 3) := by decide +kernel
theorem dX5_hasClash_52 : decode cX5_hasClash 52 = .ok (.iconst 1, 1) := by decide +kernel
theorem dX5_hasClash_53 : decode cX5_hasClash 53 = .ok (.goto 4, 3) := by decide +kernel
theorem dX5_hasClash_56 : decode cX5_hasClash 56 = .ok (.iconst 0, 1) := by decide +kernel
theorem dX5_hasClash_57 : decode cX5_hasClash 57 = .ok (.ireturn, 1) := by decide +kernel
set_option maxRecDepth 20000 in
theorem ggX5_moreThanOne_J6_bitCount_0f7a4 : GoodIn wsX5_moreThanOne wsJ6_bitCount_0f7a4 := goodIn_r _ [4, 5, 6, 7] (by decide +kernel) (by decide +kernel)
set_option maxRecDepth 20000 in
theorem gX5_moreThanOne_J6_bitCount_0f7a4 : GoodIn wsX5_moreThanOne (va_wsS RX5 31 yJ6_bitCount_0f7a4 wsJ6_bitCount_0f7a4) := goodIn_app (goodIn_of _ (by decide +kernel)) ggX5_moreThanOne_J6_bitCount_0f7a4
theorem dX5_moreThanOne_0 : decode cX5_moreThanOne 0 = .ok (.iload_n 0, 1) := by decide +kernel
theorem dX5_moreThanOne_1 : decode cX5_moreThanOne 1 = .ok (.invokestatic 31, 3) := by decide +kernel
theorem dX5_moreThanOne_4 : decode cX5_moreThanOne 4 = .ok (.iconst 1, 1) := by decide +kernel
theorem dX5_moreThanOne_5 : decode cX5_moreThanOne 5 = .ok (.if_icmp .le 7, 3) := by decide +kernel
theorem dX5_moreThanOne_8 : decode cX5_moreThanOne 8 = .ok (.iconst 1, 1) := by decide +kernel
theorem dX5_moreThanOne_9 : decode cX5_moreThanOne 9 = .ok (.goto 4, 3) := by decide +kernel
theorem dX5_moreThanOne_12 : decode cX5_moreThanOne 12 = .ok (.iconst 0, 1) := by decide +kernel
theorem dX5_moreThanOne_13 : decode cX5_moreThanOne 13 = .ok (.ireturn, 1) := by decide +kernel
set_option maxRecDepth 20000 in
theorem ggX6_init_X1_init : GoodIn wsX6_init wsX1_init := goodIn_r _ [19, 20, 2, 3, 21, 22, 23, 24, 25, 26, 27, 50] (by decide +kernel) (by decide +kernel)
set_option maxRecDepth 20000 in
theorem gX6_init_X1_init : GoodIn wsX6_init (wsX1_init) := ggX6_init_X1_init
set_option maxRecDepth 20000 in
theorem ggX6_init_X2_init : GoodIn wsX6_init wsX2_init := goodIn_r _ [30, 31, 2, 3, 32, 33, 34, 35, 36, 37, 38, 39, 40, 41, 42, 43, 55, 56, 57, 58, 59, 60, 61, 62, 63, 64, 65, 66, 67] (by decide +kernel) (by decide +kernel)
set_option maxRecDepth 20000 in
theorem gX6_init_X2_init : GoodIn wsX6_init (wsX2_init) := ggX6_init_X2_init
set_option maxRecDepth 20000 in
theorem ggX6_init_X3_init : GoodIn wsX6_init wsX3_init := goodIn_r _ [46, 47, 2, 3, 21, 48, 49, 68, 69] (by decide +kernel) (by decide +kernel)
set_option maxRecDepth 20000 in
theorem gX6_init_X3_init : GoodIn wsX6_init (wsX3_init) := ggX6_init_X3_init
theorem dX6_init_0 : decode cX6_init 0 = .ok (.aload_n 0, 1) := by decide +kernel
theorem dX6_init_1 : decode cX6_init 1 = .ok (.invokespecial 1, 3) := by decide +kernel
theorem dX6_init_4 : decode cX6_init 4 = .ok (.aload_n 0, 1) := by decide +kernel
theorem dX6_init_5 : decode cX6_init 5 = .ok (.new 7, 3) := by decide +kernel
theorem dX6_init_8 : decode cX6_init 8 = .ok (.dup, 1) := by decide +kernel
theorem dX6_init_9 : decode cX6_init 9 = .ok (.invokespecial 9, 3) := by decide +kernel
theorem dX6_init_12 : decode cX6_init 12 = .ok (.putfield 10, 3) := by decide +kernel
theorem dX6_init_15 : decode cX6_init 15 = .ok (.aload_n 0, 1) := by decide +kernel
theorem dX6_init_16 : decode cX6_init 16 = .ok (.new 16, 3) := by decide +kernel
theorem dX6_init_19 : decode cX6_init 19 = .ok (.dup, 1) := by decide +kernel
theorem dX6_init_20 : decode cX6_init 20 = .ok (.aload_n 0, 1) := by decide +kernel
theorem dX6_init_21 : decode cX6_init 21 = .ok (.getfield 10, 3) := by decide +kernel
theorem dX6_init_24 : decode cX6_init 24 = .ok (.invokespecial 18, 3) := by decide +kernel
theorem dX6_init_27 : decode cX6_init 27 = .ok (.putfield 21, 3) := by decide +kernel
theorem dX6_init_30 : decode cX6_init 30 = .ok (.aload_n 0, 1) := by decide +kernel
theorem dX6_init_31 : decode cX6_init 31 = .ok (.new 25, 3) := by decide +kernel
theorem dX6_init_34 : decode cX6_init 34 = .ok (.dup, 1) := by decide +kernel
theorem dX6_init_35 : decode cX6_init 35 = .ok (.invokespecial 27, 3) := by decide +kernel
theorem dX6_init_38 : decode cX6_init 38 = .ok (.putfield 28, 3) := by decide +kernel
theorem dX6_init_41 : decode cX6_init 41 = .ok (.aload_n 0, 1) := by decide +kernel
theorem dX6_init_42 : decode cX6_init 42 = .ok (.iconst 0, 1) := by decide +kernel
theorem dX6_init_43 : decode cX6_init 43 = .ok (.putfield 32, 3) := by decide +kernel
theorem dX6_init_46 : decode cX6_init 46 = .ok (.return_, 1) := by decide +kernel
set_option maxRecDepth 20000 in
theorem ggX6_encode_X5_isOffset : GoodIn wsX6_encode wsX5_isOffset := goodIn_r _ [6] (by decide +kernel) (by decide +kernel)
set_option maxRecDepth 20000 in
theorem gX6_encode_X5_isOffset : GoodIn wsX6_encode (va_wsS RX6 36 yX5_isOffset wsX5_isOffset) := goodIn_app (goodIn_of _ (by decide +kernel)) ggX6_encode_X5_isOffset
set_option maxRecDepth 20000 in
theorem ggX6_encode_X5_of : GoodIn wsX6_encode wsX5_of := goodIn_r _ [9] (by decide +kernel) (by decide +kernel)
set_option maxRecDepth 20000 in
theorem gX6_encode_X5_of : GoodIn wsX6_encode (va_wsS RX6 51 yX5_of wsX5_of) := goodIn_app (goodIn_of _ (by decide +kernel)) ggX6_encode_X5_of
theorem dX6_encode_0 : decode cX6_encode 0 = .ok (.iload_n 1, 1) := by decide +kernel
theorem dX6_encode_1 : decode cX6_encode 1 = .ok (.invokestatic 36, 3) := by decide +kernel
theorem dX6_encode_4 : decode cX6_encode 4 = .ok (.ifCond .eq 17, 3) := by decide +kernel
theorem dX6_encode_7 : decode cX6_encode 7 = .ok (.iload_n 2, 1) := by decide +kernel
theorem dX6_encode_8 : decode cX6_encode 8 = .ok (.invokestatic 36, 3) := by decide +kernel
theorem dX6_encode_11 : decode cX6_encode 11 = .ok (.ifCond .eq 10, 3) := by decide +kernel
theorem dX6_encode_14 : decode cX6_encode 14 = .ok (.iload_n 3, 1) := by decide +kernel
theorem dX6_encode_15 : decode cX6_encode 15 = .ok (.invokestatic 36, 3) := by decide +kernel
theorem dX6_encode_18 : decode cX6_encode 18 = .ok (.ifCond .ne 13, 3) := by decide +kernel
theorem dX6_encode_21 : decode cX6_encode 21 = .ok (.new 42, 3) := by decide +kernel
theorem dX6_encode_24 : decode cX6_encode 24 = .ok (.dup, 1) := by decide +kernel
theorem dX6_encode_25 : decode cX6_encode 25 = .ok (.ldc 44, 2) := by decide +kernel
theorem dX6_encode_27 : decode cX6_encode 27 = .ok (.invokespecial 46, 3) := by decide +kernel
theorem dX6_encode_30 : decode cX6_encode 30 = .ok (.athrow, 1) := by decide +kernel
theorem dX6_encode_31 : decode cX6_encode 31 = .ok (.iload 4, 2) := by decide +kernel
theorem dX6_encode_33 : decode cX6_encode 33 = .ok (.ifCond .lt 11, 3) := by decide +kernel
theorem dX6_encode_36 : decode cX6_encode 36 = .ok (.iload 4, 2) := by decide +kernel
theorem dX6_encode_38 : decode cX6_encode 38 = .ok (.sipush 32767, 3) := by decide +kernel
theorem dX6_encode_41 : decode cX6_encode 41 = .ok (.if_icmp .le 13, 3) := by decide +kernel
theorem dX6_encode_44 : decode cX6_encode 44 = .ok (.new 42, 3) := by decide +kernel
theorem dX6_encode_47 : decode cX6_encode 47 = .ok (.dup, 1) := by decide +kernel
theorem dX6_encode_48 : decode cX6_encode 48 = .ok (.ldc 49, 2) := by decide +kernel
theorem dX6_encode_50 : decode cX6_encode 50 = .ok (.invokespecial 46, 3) := by decide +kernel
theorem dX6_encode_53 : decode cX6_encode 53 = .ok (.athrow, 1) := by decide +kernel
theorem dX6_encode_54 : decode cX6_encode 54 = .ok (.iload_n 1, 1) := by decide +kernel
theorem dX6_encode_55 : decode cX6_encode 55 = .ok (.iload_n 2, 1) := by decide +kernel
theorem dX6_encode_56 : decode cX6_encode 56 = .ok (.iload_n 3, 1) := by decide +kernel
theorem dX6_encode_57 : decode cX6_encode 57 = .ok (.iload 4, 2) := by decide +kernel
theorem dX6_encode_59 : decode cX6_encode 59 = .ok (.invokestatic 51, 3) := by decide +kernel
theorem dX6_encode_62 : decode cX6_encode 62 = .ok (.lreturn, 1) := by decide +kernel
set_option maxRecDepth 20000 in
theorem ggX6_decode_X5_isInstruction : GoodIn wsX6_decode wsX5_isInstruction := goodIn_r _ [8, 9, 10, 11, 7, 12, 13, 14, 15, 16, 17, 18, 19, 20, 21, 22, 23, 24, 25, 26, 27, 28, 29, 30, 31, 32] (by decide +kernel) (by decide +kernel)
set_option maxRecDepth 20000 in
theorem gX6_decode_X5_isInstruction : GoodIn wsX6_decode (va_wsS RX6 57 yX5_isInstruction wsX5_isInstruction) := goodIn_app (goodIn_of _ (by decide +kernel)) ggX6_decode_X5_isInstruction
set_option maxRecDepth 20000 in
theorem ggX6_decode_X5_flagsOf : GoodIn wsX6_decode wsX5_flagsOf := goodIn_r _ [12] (by decide +kernel) (by decide +kernel)
set_option maxRecDepth 20000 in
theorem gX6_decode_X5_flagsOf : GoodIn wsX6_decode (va_wsS RX6 66 yX5_flagsOf wsX5_flagsOf) := goodIn_app (goodIn_of _ (by decide +kernel)) ggX6_decode_X5_flagsOf
set_option maxRecDepth 20000 in
theorem ggX6_decode_X5_sizeOf : GoodIn wsX6_decode wsX5_sizeOf := goodIn_r _ [36, 10, 11, 7, 12] (by decide +kernel) (by decide +kernel)
set_option maxRecDepth 20000 in
theorem gX6_decode_X5_sizeOf : GoodIn wsX6_decode (va_wsS RX6 70 yX5_sizeOf wsX5_sizeOf) := goodIn_app (goodIn_of _ (by decide +kernel)) ggX6_decode_X5_sizeOf
set_option maxRecDepth 20000 in
theorem ggX6_decode_X5_offsetOf : GoodIn wsX6_decode wsX5_offsetOf := goodIn_r _ [15, 16] (by decide +kernel) (by decide +kernel)
set_option maxRecDepth 20000 in
theorem gX6_decode_X5_offsetOf : GoodIn wsX6_decode (va_wsS RX6 73 yX5_offsetOf wsX5_offsetOf) := goodIn_app (goodIn_of _ (by decide +kernel)) ggX6_decode_X5_offsetOf
theorem dX6_decode_0 : decode cX6_decode 0 = .ok (.iload_n 3, 1) := by decide +kernel
theorem dX6_decode_1 : decode cX6_decode 1 = .ok (.ifCond .lt 8, 3) := by decide +kernel
theorem dX6_decode_4 : decode cX6_decode 4 = .ok (.iload_n 3, 1) := by decide +kernel
theorem dX6_decode_5 : decode cX6_decode 5 = .ok (.iconst 4, 1) := by decide +kernel
theorem dX6_decode_6 : decode cX6_decode 6 = .ok (.if_icmp .le 13, 3) := by decide +kernel
theorem dX6_decode_9 : decode cX6_decode 9 = .ok (.new 42, 3) := by decide +kernel
theorem dX6_decode_12 : decode cX6_decode 12 = .ok (.dup, 1) := by decide +kernel
theorem dX6_decode_13 : decode cX6_decode 13 = .ok (.ldc 55, 2) := by decide +kernel
theorem dX6_decode_15 : decode cX6_decode 15 = .ok (.invokespecial 46, 3) := by decide +kernel
theorem dX6_decode_18 : decode cX6_decode 18 = .ok (.athrow, 1) := by decide +kernel
theorem dX6_decode_19 : decode cX6_decode 19 = .ok (.lload_n 1, 1) := by decide +kernel
theorem dX6_decode_20 : decode cX6_decode 20 = .ok (.invokestatic 57, 3) := by decide +kernel
theorem dX6_decode_23 : decode cX6_decode 23 = .ok (.ifCond .ne 13, 3) := by decide +kernel
theorem dX6_decode_26 : decode cX6_decode 26 = .ok (.new 61, 3) := by decide +kernel
theorem dX6_decode_29 : decode cX6_decode 29 = .ok (.dup, 1) := by decide +kernel
theorem dX6_decode_30 : decode cX6_decode 30 = .ok (.ldc 63, 2) := by decide +kernel
theorem dX6_decode_32 : decode cX6_decode 32 = .ok (.invokespecial 65, 3) := by decide +kernel
theorem dX6_decode_35 : decode cX6_decode 35 = .ok (.athrow, 1) := by decide +kernel
theorem dX6_decode_36 : decode cX6_decode 36 = .ok (.iload_n 3, 1) := by decide +kernel
theorem dX6_decode_37 : decode cX6_decode 37 = .ok (.iconst 3, 1) := by decide +kernel
theorem dX6_decode_38 : decode cX6_decode 38 = .ok (.if_icmp .ne 8, 3) := by decide +kernel
theorem dX6_decode_41 : decode cX6_decode 41 = .ok (.lload_n 1, 1) := by decide +kernel
theorem dX6_decode_42 : decode cX6_decode 42 = .ok (.invokestatic 66, 3) := by decide +kernel
theorem dX6_decode_45 : decode cX6_decode 45 = .ok (.ireturn, 1) := by decide +kernel
theorem dX6_decode_46 : decode cX6_decode 46 = .ok (.iload_n 3, 1) := by decide +kernel
theorem dX6_decode_47 : decode cX6_decode 47 = .ok (.iconst 4, 1) := by decide +kernel
theorem dX6_decode_48 : decode cX6_decode 48 = .ok (.if_icmp .ne 10, 3) := by decide +kernel
theorem dX6_decode_51 : decode cX6_decode 51 = .ok (.lload_n 1, 1) := by decide +kernel
theorem dX6_decode_52 : decode cX6_decode 52 = .ok (.invokestatic 70, 3) := by decide +kernel
theorem dX6_decode_55 : decode cX6_decode 55 = .ok (.goto 8, 3) := by decide +kernel
theorem dX6_decode_58 : decode cX6_decode 58 = .ok (.lload_n 1, 1) := by decide +kernel
theorem dX6_decode_59 : decode cX6_decode 59 = .ok (.iload_n 3, 1) := by decide +kernel
theorem dX6_decode_60 : decode cX6_decode 60 = .ok (.invokestatic 73, 3) := by decide +kernel
theorem dX6_decode_63 : decode cX6_decode 63 = .ok (.ireturn, 1) := by decide +kernel
set_option maxRecDepth 20000 in
theorem ggX6_number_X0_reduce : GoodIn wsX6_number wsX0_reduce := goodIn_r _ [4, 5, 6, 7, 8, 9] (by decide +kernel) (by decide +kernel)
set_option maxRecDepth 20000 in
theorem gX6_number_X0_reduce : GoodIn wsX6_number (va_wsS RX6 77 yX0_reduce wsX0_reduce) := goodIn_app (goodIn_of _ (by decide +kernel)) ggX6_number_X0_reduce
set_option maxRecDepth 20000 in
theorem ggX6_number_X6_writeByHost : GoodIn wsX6_number wsX6_writeByHost := goodIn_ca (goodIn_ca (goodIn_r _ [14, 15, 16, 17, 18, 19, 13, 20, 21, 22, 23, 24, 25, 26, 27, 28, 29, 30, 31, 32, 33, 34, 35, 36, 37, 38, 39, 40, 41, 42, 43, 44, 45, 46, 47, 48, 49, 50, 51, 52, 53, 54, 55, 56, 57, 58, 59, 60, 61, 62, 63, 64, 65, 66, 67, 68] (by decide +kernel) (by decide +kernel)) (goodIn_sub (fun _ h => List.mem_cons_of_mem _ (List.mem_append_left _ (List.mem_append_right _ h))) (by decide +kernel))) (goodIn_sub (fun _ h => List.mem_cons_of_mem _ (List.mem_append_right _ h)) (by decide +kernel))
set_option maxRecDepth 20000 in
theorem gX6_number_X6_writeByHost : GoodIn wsX6_number (wsV RX6 83 RX6 yX6_writeByHost wsX6_writeByHost) := goodIn_app (goodIn_of _ (by decide +kernel)) ggX6_number_X6_writeByHost
theorem dX6_number_0 : decode cX6_number 0 = .ok (.aload_n 0, 1) := by decide +kernel
theorem dX6_number_1 : decode cX6_number 1 = .ok (.iload_n 1, 1) := by decide +kernel
theorem dX6_number_2 : decode cX6_number 2 = .ok (.iload_n 2, 1) := by decide +kernel
theorem dX6_number_3 : decode cX6_number 3 = .ok (.lload_n 3, 1) := by decide +kernel
theorem dX6_number_4 : decode cX6_number 4 = .ok (.invokestatic 77, 3) := by decide +kernel
theorem dX6_number_7 : decode cX6_number 7 = .ok (.invokevirtual 83, 3) := by decide +kernel
theorem dX6_number_10 : decode cX6_number 10 = .ok (.return_, 1) := by decide +kernel
set_option maxRecDepth 20000 in
theorem ggX6_address_X4_ofAddress : GoodIn wsX6_address wsX4_ofAddress := goodIn_r _ [7, 8, 9, 10, 11] (by decide +kernel) (by decide +kernel)
set_option maxRecDepth 20000 in
theorem gX6_address_X4_ofAddress : GoodIn wsX6_address (va_wsS RX6 87 yX4_ofAddress wsX4_ofAddress) := goodIn_app (goodIn_of _ (by decide +kernel)) ggX6_address_X4_ofAddress
set_option maxRecDepth 20000 in
theorem ggX6_address_X1_isSegment : GoodIn wsX6_address wsX1_isSegment := goodIn_r _ [15] (by decide +kernel) (by decide +kernel)
set_option maxRecDepth 20000 in
theorem gX6_address_X1_isSegment : GoodIn wsX6_address (va_wsS RX6 93 yX1_isSegment wsX1_isSegment) := goodIn_app (goodIn_of _ (by decide +kernel)) ggX6_address_X1_isSegment
set_option maxRecDepth 20000 in
theorem ggX6_address_X6_writeByHost : GoodIn wsX6_address wsX6_writeByHost := goodIn_ca (goodIn_ca (goodIn_r _ [20, 21, 22, 23, 24, 25, 19, 26, 1, 2, 12, 13, 14, 15, 27, 28, 29, 30, 31, 32, 33, 34, 35, 36, 37, 38, 39, 40, 41, 42, 43, 44, 45, 46, 47, 48, 6, 49, 11, 50, 51, 52, 53, 54, 55, 56, 57, 58, 59, 60, 61, 62, 63, 64, 65, 66] (by decide +kernel) (by decide +kernel)) (goodIn_sub (fun _ h => List.mem_cons_of_mem _ (List.mem_append_right _ h)) (by decide +kernel))) (goodIn_sub (fun _ h => List.mem_cons_of_mem _ (List.mem_append_left _ (List.mem_append_right _ h))) (by decide +kernel))
set_option maxRecDepth 20000 in
theorem gX6_address_X6_writeByHost : GoodIn wsX6_address (wsV RX6 83 RX6 yX6_writeByHost wsX6_writeByHost) := goodIn_app (goodIn_of _ (by decide +kernel)) ggX6_address_X6_writeByHost
theorem dX6_address_0 : decode cX6_address 0 = .ok (.iload_n 3, 1) := by decide +kernel
theorem dX6_address_1 : decode cX6_address 1 = .ok (.iload 4, 2) := by decide +kernel
theorem dX6_address_3 : decode cX6_address 3 = .ok (.i2l, 1) := by decide +kernel
theorem dX6_address_4 : decode cX6_address 4 = .ok (.invokestatic 87, 3) := by decide +kernel
theorem dX6_address_7 : decode cX6_address 7 = .ok (.lstore 5, 2) := by decide +kernel
theorem dX6_address_9 : decode cX6_address 9 = .ok (.iload_n 3, 1) := by decide +kernel
theorem dX6_address_10 : decode cX6_address 10 = .ok (.invokestatic 93, 3) := by decide +kernel
theorem dX6_address_13 : decode cX6_address 13 = .ok (.ifCond .eq 12, 3) := by decide +kernel
theorem dX6_address_16 : decode cX6_address 16 = .ok (.lload 5, 2) := by decide +kernel
theorem dX6_address_18 : decode cX6_address 18 = .ok (.ldc2_w 96, 3) := by decide +kernel
theorem dX6_address_21 : decode cX6_address 21 = .ok (.lcmp, 1) := by decide +kernel
theorem dX6_address_22 : decode cX6_address 22 = .ok (.ifCond .ne 13, 3) := by decide +kernel
theorem dX6_address_25 : decode cX6_address 25 = .ok (.new 42, 3) := by decide +kernel
theorem dX6_address_28 : decode cX6_address 28 = .ok (.dup, 1) := by decide +kernel
theorem dX6_address_29 : decode cX6_address 29 = .ok (.ldc 98, 2) := by decide +kernel
theorem dX6_address_31 : decode cX6_address 31 = .ok (.invokespecial 46, 3) := by decide +kernel
theorem dX6_address_34 : decode cX6_address 34 = .ok (.athrow, 1) := by decide +kernel
theorem dX6_address_35 : decode cX6_address 35 = .ok (.aload_n 0, 1) := by decide +kernel
theorem dX6_address_36 : decode cX6_address 36 = .ok (.iload_n 1, 1) := by decide +kernel
theorem dX6_address_37 : decode cX6_address 37 = .ok (.iload_n 2, 1) := by decide +kernel
theorem dX6_address_38 : decode cX6_address 38 = .ok (.lload 5, 2) := by decide +kernel
theorem dX6_address_40 : decode cX6_address 40 = .ok (.invokevirtual 83, 3) := by decide +kernel
theorem dX6_address_43 : decode cX6_address 43 = .ok (.return_, 1) := by decide +kernel
set_option maxRecDepth 20000 in
theorem ggX6_start_X1_isCell : GoodIn wsX6_start wsX1_isCell := goodIn_r _ [9] (by decide +kernel) (by decide +kernel)
set_option maxRecDepth 20000 in
theorem gX6_start_X1_isCell : GoodIn wsX6_start (va_wsS RX6 100 yX1_isCell wsX1_isCell) := goodIn_app (goodIn_of _ (by decide +kernel)) ggX6_start_X1_isCell
set_option maxRecDepth 20000 in
theorem ggX6_start_X2_place : GoodIn wsX6_start wsX2_place := goodIn_r _ [14, 15, 16, 17, 18, 19, 20, 21, 22, 23, 24, 25, 36, 37, 38, 39, 40, 41, 42, 43, 44, 45, 46, 47, 48] (by decide +kernel) (by decide +kernel)
set_option maxRecDepth 20000 in
theorem gX6_start_X2_place : GoodIn wsX6_start (wsV RX6 105 RX2 yX2_place wsX2_place) := goodIn_app (goodIn_of _ (by decide +kernel)) ggX6_start_X2_place
set_option maxRecDepth 20000 in
theorem ggX6_start_X3_empty : GoodIn wsX6_start wsX3_empty := goodIn_r _ [30, 31, 49, 50] (by decide +kernel) (by decide +kernel)
set_option maxRecDepth 20000 in
theorem gX6_start_X3_empty : GoodIn wsX6_start (wsV RX6 109 RX3 yX3_empty wsX3_empty) := goodIn_app (goodIn_of _ (by decide +kernel)) ggX6_start_X3_empty
theorem dX6_start_0 : decode cX6_start 0 = .ok (.iload_n 1, 1) := by decide +kernel
theorem dX6_start_1 : decode cX6_start 1 = .ok (.invokestatic 100, 3) := by decide +kernel
theorem dX6_start_4 : decode cX6_start 4 = .ok (.ifCond .eq 17, 3) := by decide +kernel
theorem dX6_start_7 : decode cX6_start 7 = .ok (.iload_n 2, 1) := by decide +kernel
theorem dX6_start_8 : decode cX6_start 8 = .ok (.invokestatic 100, 3) := by decide +kernel
theorem dX6_start_11 : decode cX6_start 11 = .ok (.ifCond .eq 10, 3) := by decide +kernel
theorem dX6_start_14 : decode cX6_start 14 = .ok (.iload_n 3, 1) := by decide +kernel
theorem dX6_start_15 : decode cX6_start 15 = .ok (.invokestatic 100, 3) := by decide +kernel
theorem dX6_start_18 : decode cX6_start 18 = .ok (.ifCond .ne 13, 3) := by decide +kernel
theorem dX6_start_21 : decode cX6_start 21 = .ok (.new 42, 3) := by decide +kernel
theorem dX6_start_24 : decode cX6_start 24 = .ok (.dup, 1) := by decide +kernel
theorem dX6_start_25 : decode cX6_start 25 = .ok (.ldc 103, 2) := by decide +kernel
theorem dX6_start_27 : decode cX6_start 27 = .ok (.invokespecial 46, 3) := by decide +kernel
theorem dX6_start_30 : decode cX6_start 30 = .ok (.athrow, 1) := by decide +kernel
theorem dX6_start_31 : decode cX6_start 31 = .ok (.aload_n 0, 1) := by decide +kernel
theorem dX6_start_32 : decode cX6_start 32 = .ok (.getfield 21, 3) := by decide +kernel
theorem dX6_start_35 : decode cX6_start 35 = .ok (.iload_n 1, 1) := by decide +kernel
theorem dX6_start_36 : decode cX6_start 36 = .ok (.iload_n 2, 1) := by decide +kernel
theorem dX6_start_37 : decode cX6_start 37 = .ok (.iload_n 3, 1) := by decide +kernel
theorem dX6_start_38 : decode cX6_start 38 = .ok (.invokevirtual 105, 3) := by decide +kernel
theorem dX6_start_41 : decode cX6_start 41 = .ok (.aload_n 0, 1) := by decide +kernel
theorem dX6_start_42 : decode cX6_start 42 = .ok (.getfield 28, 3) := by decide +kernel
theorem dX6_start_45 : decode cX6_start 45 = .ok (.invokevirtual 109, 3) := by decide +kernel
theorem dX6_start_48 : decode cX6_start 48 = .ok (.aload_n 0, 1) := by decide +kernel
theorem dX6_start_49 : decode cX6_start 49 = .ok (.iconst 0, 1) := by decide +kernel
theorem dX6_start_50 : decode cX6_start 50 = .ok (.putfield 32, 3) := by decide +kernel
theorem dX6_start_53 : decode cX6_start 53 = .ok (.return_, 1) := by decide +kernel
set_option maxRecDepth 20000 in
theorem ggX6_run_X3_isFull : GoodIn wsX6_run wsX3_isFull := goodIn_r _ [10, 11, 260, 261] (by decide +kernel) (by decide +kernel)
set_option maxRecDepth 20000 in
theorem gX6_run_X3_isFull : GoodIn wsX6_run (wsV RX6 114 RX3 yX3_isFull wsX3_isFull) := goodIn_app (goodIn_of _ (by decide +kernel)) ggX6_run_X3_isFull
set_option maxRecDepth 20000 in
theorem ggX6_run_X2_step : GoodIn wsX6_run wsX2_step := goodIn_r _ [16, 17, 18, 19, 20, 21, 15, 22, 23, 24, 25, 26, 27, 28, 29, 30, 31, 32, 33, 34, 35, 36, 37, 38, 39, 40, 41, 42, 43, 44, 45, 46, 47, 48, 49, 50, 51, 52, 53, 54, 55, 56, 57, 58, 59, 60, 61, 62, 63, 64, 65, 66, 67, 68, 69, 70, 71, 72, 73, 74, 75, 76, 77, 78, 79, 80, 81, 82, 83, 84, 85, 86, 87, 88, 89, 90, 91, 92, 93, 94, 95, 96, 97, 98, 99, 100, 101, 102, 103, 104, 105, 106, 107, 108, 109, 110, 111, 112, 113, 114, 115, 116, 117, 118, 119, 120, 121, 122, 123, 124, 125, 126, 127, 128, 129, 130, 131, 132, 133, 134, 135, 136, 137, 138, 139, 140, 141, 142, 143, 144, 145, 146, 147, 148, 149, 150, 151, 152, 153, 154, 155, 156, 157, 158, 159, 160, 161, 162, 163, 164, 165, 166, 167, 168, 169, 170, 171, 172, 173, 174, 175, 176, 177, 178, 179, 180, 181, 182, 183, 184, 185, 186, 187, 188, 189, 190, 191, 192, 193, 194, 195, 196, 197, 198, 199, 200, 201, 202, 203, 204, 205, 206, 207, 208, 209, 210, 211, 212, 213, 214, 215, 216, 217, 218, 219, 220, 221, 222, 223, 224, 225, 226, 227, 228, 229, 230, 231, 232, 233, 234, 235, 236, 247, 248, 249, 250, 251, 252, 253, 254, 255, 256, 257, 258, 259, 262] (by decide +kernel) (by decide +kernel)
set_option maxRecDepth 20000 in
theorem gX6_run_X2_step : GoodIn wsX6_run (wsV RX6 128 RX2 yX2_step wsX2_step) := goodIn_app (goodIn_of _ (by decide +kernel)) ggX6_run_X2_step
set_option maxRecDepth 20000 in
theorem ggX6_run_X3_add : GoodIn wsX6_run wsX3_add := goodIn_r _ [240, 241, 11, 242, 7, 8, 9, 10, 260, 261] (by decide +kernel) (by decide +kernel)
set_option maxRecDepth 20000 in
theorem gX6_run_X3_add : GoodIn wsX6_run (wsV RX6 132 RX3 yX3_add wsX3_add) := goodIn_app (goodIn_of _ (by decide +kernel)) ggX6_run_X3_add
theorem dX6_run_0 : decode cX6_run 0 = .ok (.iload_n 1, 1) := by decide +kernel
theorem dX6_run_1 : decode cX6_run 1 = .ok (.iconst 1, 1) := by decide +kernel
theorem dX6_run_2 : decode cX6_run 2 = .ok (.if_icmp .lt 9, 3) := by decide +kernel
theorem dX6_run_5 : decode cX6_run 5 = .ok (.iload_n 1, 1) := by decide +kernel
theorem dX6_run_6 : decode cX6_run 6 = .ok (.bipush 100, 2) := by decide +kernel
theorem dX6_run_8 : decode cX6_run 8 = .ok (.if_icmp .le 13, 3) := by decide +kernel
theorem dX6_run_11 : decode cX6_run 11 = .ok (.new 42, 3) := by decide +kernel
theorem dX6_run_14 : decode cX6_run 14 = .ok (.dup, 1) := by decide +kernel
theorem dX6_run_15 : decode cX6_run 15 = .ok (.ldc 112, 2) := by decide +kernel
theorem dX6_run_17 : decode cX6_run 17 = .ok (.invokespecial 46, 3) := by decide +kernel
theorem dX6_run_20 : decode cX6_run 20 = .ok (.athrow, 1) := by decide +kernel
theorem dX6_run_21 : decode cX6_run 21 = .ok (.iconst 0, 1) := by decide +kernel
theorem dX6_run_22 : decode cX6_run 22 = .ok (.istore_n 2, 1) := by decide +kernel
theorem dX6_run_23 : decode cX6_run 23 = .ok (.iload_n 2, 1) := by decide +kernel
theorem dX6_run_24 : decode cX6_run 24 = .ok (.iload_n 1, 1) := by decide +kernel
theorem dX6_run_25 : decode cX6_run 25 = .ok (.if_icmp .ge 79, 3) := by decide +kernel
theorem dX6_run_28 : decode cX6_run 28 = .ok (.aload_n 0, 1) := by decide +kernel
theorem dX6_run_29 : decode cX6_run 29 = .ok (.getfield 28, 3) := by decide +kernel
theorem dX6_run_32 : decode cX6_run 32 = .ok (.invokevirtual 114, 3) := by decide +kernel
theorem dX6_run_35 : decode cX6_run 35 = .ok (.ifCond .eq 5, 3) := by decide +kernel
theorem dX6_run_38 : decode cX6_run 38 = .ok (.iload_n 2, 1) := by decide +kernel
theorem dX6_run_39 : decode cX6_run 39 = .ok (.ireturn, 1) := by decide +kernel
theorem dX6_run_40 : decode cX6_run 40 = .ok (.aload_n 0, 1) := by decide +kernel
theorem dX6_run_41 : decode cX6_run 41 = .ok (.getfield 21, 3) := by decide +kernel
theorem dX6_run_44 : decode cX6_run 44 = .ok (.getfield 118, 3) := by decide +kernel
theorem dX6_run_47 : decode cX6_run 47 = .ok (.lstore_n 3, 1) := by decide +kernel
theorem dX6_run_48 : decode cX6_run 48 = .ok (.aload_n 0, 1) := by decide +kernel
theorem dX6_run_49 : decode cX6_run 49 = .ok (.getfield 21, 3) := by decide +kernel
theorem dX6_run_52 : decode cX6_run 52 = .ok (.getfield 122, 3) := by decide +kernel
theorem dX6_run_55 : decode cX6_run 55 = .ok (.lstore 5, 2) := by decide +kernel
theorem dX6_run_57 : decode cX6_run 57 = .ok (.aload_n 0, 1) := by decide +kernel
theorem dX6_run_58 : decode cX6_run 58 = .ok (.getfield 21, 3) := by decide +kernel
theorem dX6_run_61 : decode cX6_run 61 = .ok (.getfield 125, 3) := by decide +kernel
theorem dX6_run_64 : decode cX6_run 64 = .ok (.lstore 7, 2) := by decide +kernel
theorem dX6_run_66 : decode cX6_run 66 = .ok (.aload_n 0, 1) := by decide +kernel
theorem dX6_run_67 : decode cX6_run 67 = .ok (.aload_n 0, 1) := by decide +kernel
theorem dX6_run_68 : decode cX6_run 68 = .ok (.getfield 21, 3) := by decide +kernel
theorem dX6_run_71 : decode cX6_run 71 = .ok (.invokevirtual 128, 3) := by decide +kernel
theorem dX6_run_74 : decode cX6_run 74 = .ok (.putfield 32, 3) := by decide +kernel
theorem dX6_run_77 : decode cX6_run 77 = .ok (.aload_n 0, 1) := by decide +kernel
theorem dX6_run_78 : decode cX6_run 78 = .ok (.getfield 32, 3) := by decide +kernel
theorem dX6_run_81 : decode cX6_run 81 = .ok (.ifCond .eq 5, 3) := by decide +kernel
theorem dX6_run_84 : decode cX6_run 84 = .ok (.iload_n 2, 1) := by decide +kernel
theorem dX6_run_85 : decode cX6_run 85 = .ok (.ireturn, 1) := by decide +kernel
theorem dX6_run_86 : decode cX6_run 86 = .ok (.aload_n 0, 1) := by decide +kernel
theorem dX6_run_87 : decode cX6_run 87 = .ok (.getfield 28, 3) := by decide +kernel
theorem dX6_run_90 : decode cX6_run 90 = .ok (.lload_n 3, 1) := by decide +kernel
theorem dX6_run_91 : decode cX6_run 91 = .ok (.lload 5, 2) := by decide +kernel
theorem dX6_run_93 : decode cX6_run 93 = .ok (.lload 7, 2) := by decide +kernel
theorem dX6_run_95 : decode cX6_run 95 = .ok (.invokevirtual 132, 3) := by decide +kernel
theorem dX6_run_98 : decode cX6_run 98 = .ok (.iinc 2 1, 3) := by decide +kernel
theorem dX6_run_101 : decode cX6_run 101 = .ok (.goto (-78), 3) := by decide +kernel
theorem dX6_run_104 : decode cX6_run 104 = .ok (.iload_n 1, 1) := by decide +kernel
theorem dX6_run_105 : decode cX6_run 105 = .ok (.ireturn, 1) := by decide +kernel
theorem dX6_failure_0 : decode cX6_failure 0 = .ok (.aload_n 0, 1) := by decide +kernel
theorem dX6_failure_1 : decode cX6_failure 1 = .ok (.getfield 32, 3) := by decide +kernel
theorem dX6_failure_4 : decode cX6_failure 4 = .ok (.ireturn, 1) := by decide +kernel
set_option maxRecDepth 20000 in
theorem ggX6_register_X6_requireRegister : GoodIn wsX6_register wsX6_requireRegister := goodIn_ca (goodIn_r _ [5, 6, 7] (by decide +kernel) (by decide +kernel)) (goodIn_sub (fun _ h => List.mem_cons_of_mem _ (List.mem_append_right _ h)) (by decide +kernel))
set_option maxRecDepth 20000 in
theorem gX6_register_X6_requireRegister : GoodIn wsX6_register (va_wsS RX6 136 yX6_requireRegister wsX6_requireRegister) := goodIn_app (goodIn_of _ (by decide +kernel)) ggX6_register_X6_requireRegister
set_option maxRecDepth 20000 in
theorem ggX6_register_X4_cellOf : GoodIn wsX6_register wsX4_cellOf := goodIn_r _ [11, 12, 13] (by decide +kernel) (by decide +kernel)
set_option maxRecDepth 20000 in
theorem gX6_register_X4_cellOf : GoodIn wsX6_register (va_wsS RX6 140 yX4_cellOf wsX4_cellOf) := goodIn_app (goodIn_of _ (by decide +kernel)) ggX6_register_X4_cellOf
set_option maxRecDepth 20000 in
theorem ggX6_register_X4_segmentOf : GoodIn wsX6_register wsX4_segmentOf := goodIn_r _ [16, 12] (by decide +kernel) (by decide +kernel)
set_option maxRecDepth 20000 in
theorem gX6_register_X4_segmentOf : GoodIn wsX6_register (va_wsS RX6 143 yX4_segmentOf wsX4_segmentOf) := goodIn_app (goodIn_of _ (by decide +kernel)) ggX6_register_X4_segmentOf
theorem dX6_register_0 : decode cX6_register 0 = .ok (.iload_n 1, 1) := by decide +kernel
theorem dX6_register_1 : decode cX6_register 1 = .ok (.invokestatic 136, 3) := by decide +kernel
theorem dX6_register_4 : decode cX6_register 4 = .ok (.iload_n 1, 1) := by decide +kernel
theorem dX6_register_5 : decode cX6_register 5 = .ok (.ifCond .ne 13, 3) := by decide +kernel
theorem dX6_register_8 : decode cX6_register 8 = .ok (.aload_n 0, 1) := by decide +kernel
theorem dX6_register_9 : decode cX6_register 9 = .ok (.getfield 21, 3) := by decide +kernel
theorem dX6_register_12 : decode cX6_register 12 = .ok (.getfield 118, 3) := by decide +kernel
theorem dX6_register_15 : decode cX6_register 15 = .ok (.goto 25, 3) := by decide +kernel
theorem dX6_register_18 : decode cX6_register 18 = .ok (.iload_n 1, 1) := by decide +kernel
theorem dX6_register_19 : decode cX6_register 19 = .ok (.iconst 1, 1) := by decide +kernel
theorem dX6_register_20 : decode cX6_register 20 = .ok (.if_icmp .ne 13, 3) := by decide +kernel
theorem dX6_register_23 : decode cX6_register 23 = .ok (.aload_n 0, 1) := by decide +kernel
theorem dX6_register_24 : decode cX6_register 24 = .ok (.getfield 21, 3) := by decide +kernel
theorem dX6_register_27 : decode cX6_register 27 = .ok (.getfield 122, 3) := by decide +kernel
theorem dX6_register_30 : decode cX6_register 30 = .ok (.goto 10, 3) := by decide +kernel
theorem dX6_register_33 : decode cX6_register 33 = .ok (.aload_n 0, 1) := by decide +kernel
theorem dX6_register_34 : decode cX6_register 34 = .ok (.getfield 21, 3) := by decide +kernel
theorem dX6_register_37 : decode cX6_register 37 = .ok (.getfield 125, 3) := by decide +kernel
theorem dX6_register_40 : decode cX6_register 40 = .ok (.lstore_n 3, 1) := by decide +kernel
theorem dX6_register_41 : decode cX6_register 41 = .ok (.iload_n 2, 1) := by decide +kernel
theorem dX6_register_42 : decode cX6_register 42 = .ok (.ifCond .eq 10, 3) := by decide +kernel
theorem dX6_register_45 : decode cX6_register 45 = .ok (.lload_n 3, 1) := by decide +kernel
theorem dX6_register_46 : decode cX6_register 46 = .ok (.invokestatic 140, 3) := by decide +kernel
theorem dX6_register_49 : decode cX6_register 49 = .ok (.goto 7, 3) := by decide +kernel
theorem dX6_register_52 : decode cX6_register 52 = .ok (.lload_n 3, 1) := by decide +kernel
theorem dX6_register_53 : decode cX6_register 53 = .ok (.invokestatic 143, 3) := by decide +kernel
theorem dX6_register_56 : decode cX6_register 56 = .ok (.ireturn, 1) := by decide +kernel
set_option maxRecDepth 20000 in
theorem ggX6_segment_X6_requireSet : GoodIn wsX6_segment wsX6_requireSet := goodIn_ca (goodIn_ca (goodIn_r _ [5, 6, 7, 8, 9, 10, 11, 4, 12, 13, 14, 15, 16, 17, 18, 19, 20, 21, 22, 23, 24, 25, 26, 27, 28, 29, 30, 31, 32, 41, 42, 43, 44, 45] (by decide +kernel) (by decide +kernel)) (goodIn_sub (fun _ h => List.mem_cons_of_mem _ (List.mem_append_left _ (List.mem_append_right _ h))) (by decide +kernel))) (goodIn_sub (fun _ h => List.mem_cons_of_mem _ (List.mem_append_right _ h)) (by decide +kernel))
set_option maxRecDepth 20000 in
theorem gX6_segment_X6_requireSet : GoodIn wsX6_segment (wsV RX6 146 RX6 yX6_requireSet wsX6_requireSet) := goodIn_app (goodIn_of _ (by decide +kernel)) ggX6_segment_X6_requireSet
set_option maxRecDepth 20000 in
theorem ggX6_segment_X4_isAddress : GoodIn wsX6_segment wsX4_isAddress := goodIn_r _ [36, 37] (by decide +kernel) (by decide +kernel)
set_option maxRecDepth 20000 in
theorem gX6_segment_X4_isAddress : GoodIn wsX6_segment (va_wsS RX6 150 yX4_isAddress wsX4_isAddress) := goodIn_app (goodIn_of _ (by decide +kernel)) ggX6_segment_X4_isAddress
set_option maxRecDepth 20000 in
theorem ggX6_segment_X4_segmentOf : GoodIn wsX6_segment wsX4_segmentOf := goodIn_r _ [40, 37] (by decide +kernel) (by decide +kernel)
set_option maxRecDepth 20000 in
theorem gX6_segment_X4_segmentOf : GoodIn wsX6_segment (va_wsS RX6 143 yX4_segmentOf wsX4_segmentOf) := goodIn_app (goodIn_of _ (by decide +kernel)) ggX6_segment_X4_segmentOf
theorem dX6_segment_0 : decode cX6_segment 0 = .ok (.aload_n 0, 1) := by decide +kernel
theorem dX6_segment_1 : decode cX6_segment 1 = .ok (.iload_n 1, 1) := by decide +kernel
theorem dX6_segment_2 : decode cX6_segment 2 = .ok (.iload_n 2, 1) := by decide +kernel
theorem dX6_segment_3 : decode cX6_segment 3 = .ok (.invokevirtual 146, 3) := by decide +kernel
theorem dX6_segment_6 : decode cX6_segment 6 = .ok (.lstore_n 3, 1) := by decide +kernel
theorem dX6_segment_7 : decode cX6_segment 7 = .ok (.lload_n 3, 1) := by decide +kernel
theorem dX6_segment_8 : decode cX6_segment 8 = .ok (.invokestatic 150, 3) := by decide +kernel
theorem dX6_segment_11 : decode cX6_segment 11 = .ok (.ifCond .eq 10, 3) := by decide +kernel
theorem dX6_segment_14 : decode cX6_segment 14 = .ok (.lload_n 3, 1) := by decide +kernel
theorem dX6_segment_15 : decode cX6_segment 15 = .ok (.invokestatic 143, 3) := by decide +kernel
theorem dX6_segment_18 : decode cX6_segment 18 = .ok (.goto 4, 3) := by decide +kernel
theorem dX6_segment_21 : decode cX6_segment 21 = .ok (.iconst 0, 1) := by decide +kernel
theorem dX6_segment_22 : decode cX6_segment 22 = .ok (.ireturn, 1) := by decide +kernel
set_option maxRecDepth 20000 in
theorem ggX6_value_X6_requireSet : GoodIn wsX6_value wsX6_requireSet := goodIn_ca (goodIn_ca (goodIn_r _ [5, 6, 7, 8, 9, 10, 11, 4, 12, 13, 14, 15, 16, 17, 18, 19, 20, 21, 22, 23, 24, 25, 26, 27, 28, 29, 30, 31, 32, 42, 43, 44, 45, 46] (by decide +kernel) (by decide +kernel)) (goodIn_sub (fun _ h => List.mem_cons_of_mem _ (List.mem_append_left _ (List.mem_append_right _ h))) (by decide +kernel))) (goodIn_sub (fun _ h => List.mem_cons_of_mem _ (List.mem_append_right _ h)) (by decide +kernel))
set_option maxRecDepth 20000 in
theorem gX6_value_X6_requireSet : GoodIn wsX6_value (wsV RX6 146 RX6 yX6_requireSet wsX6_requireSet) := goodIn_app (goodIn_of _ (by decide +kernel)) ggX6_value_X6_requireSet
set_option maxRecDepth 20000 in
theorem ggX6_value_X4_isAddress : GoodIn wsX6_value wsX4_isAddress := goodIn_r _ [36, 37] (by decide +kernel) (by decide +kernel)
set_option maxRecDepth 20000 in
theorem gX6_value_X4_isAddress : GoodIn wsX6_value (va_wsS RX6 150 yX4_isAddress wsX4_isAddress) := goodIn_app (goodIn_of _ (by decide +kernel)) ggX6_value_X4_isAddress
set_option maxRecDepth 20000 in
theorem ggX6_value_X4_cellOf : GoodIn wsX6_value wsX4_cellOf := goodIn_r _ [40, 37, 41] (by decide +kernel) (by decide +kernel)
set_option maxRecDepth 20000 in
theorem gX6_value_X4_cellOf : GoodIn wsX6_value (va_wsS RX6 140 yX4_cellOf wsX4_cellOf) := goodIn_app (goodIn_of _ (by decide +kernel)) ggX6_value_X4_cellOf
theorem dX6_value_0 : decode cX6_value 0 = .ok (.aload_n 0, 1) := by decide +kernel
theorem dX6_value_1 : decode cX6_value 1 = .ok (.iload_n 1, 1) := by decide +kernel
theorem dX6_value_2 : decode cX6_value 2 = .ok (.iload_n 2, 1) := by decide +kernel
theorem dX6_value_3 : decode cX6_value 3 = .ok (.invokevirtual 146, 3) := by decide +kernel
theorem dX6_value_6 : decode cX6_value 6 = .ok (.lstore_n 3, 1) := by decide +kernel
theorem dX6_value_7 : decode cX6_value 7 = .ok (.lload_n 3, 1) := by decide +kernel
theorem dX6_value_8 : decode cX6_value 8 = .ok (.invokestatic 150, 3) := by decide +kernel
theorem dX6_value_11 : decode cX6_value 11 = .ok (.ifCond .eq 11, 3) := by decide +kernel
theorem dX6_value_14 : decode cX6_value 14 = .ok (.lload_n 3, 1) := by decide +kernel
theorem dX6_value_15 : decode cX6_value 15 = .ok (.invokestatic 140, 3) := by decide +kernel
theorem dX6_value_18 : decode cX6_value 18 = .ok (.i2l, 1) := by decide +kernel
theorem dX6_value_19 : decode cX6_value 19 = .ok (.goto 4, 3) := by decide +kernel
theorem dX6_value_22 : decode cX6_value 22 = .ok (.lload_n 3, 1) := by decide +kernel
theorem dX6_value_23 : decode cX6_value 23 = .ok (.lreturn, 1) := by decide +kernel
theorem dX6_rows_0 : decode cX6_rows 0 = .ok (.aload_n 0, 1) := by decide +kernel
theorem dX6_rows_1 : decode cX6_rows 1 = .ok (.getfield 28, 3) := by decide +kernel
theorem dX6_rows_4 : decode cX6_rows 4 = .ok (.getfield 153, 3) := by decide +kernel
theorem dX6_rows_7 : decode cX6_rows 7 = .ok (.ireturn, 1) := by decide +kernel
set_option maxRecDepth 20000 in
theorem ggX6_traced_X6_requireRegister : GoodIn wsX6_traced wsX6_requireRegister := goodIn_ca (goodIn_r _ [8, 9, 10] (by decide +kernel) (by decide +kernel)) (goodIn_sub (fun _ h => List.mem_cons_of_mem _ (List.mem_append_right _ h)) (by decide +kernel))
set_option maxRecDepth 20000 in
theorem gX6_traced_X6_requireRegister : GoodIn wsX6_traced (va_wsS RX6 136 yX6_requireRegister wsX6_requireRegister) := goodIn_app (goodIn_of _ (by decide +kernel)) ggX6_traced_X6_requireRegister
set_option maxRecDepth 20000 in
theorem ggX6_traced_X3_at : GoodIn wsX6_traced wsX3_at := goodIn_r _ [15, 16, 17, 18, 72, 73] (by decide +kernel) (by decide +kernel)
set_option maxRecDepth 20000 in
theorem gX6_traced_X3_at : GoodIn wsX6_traced (wsV RX6 161 RX3 yX3_at wsX3_at) := goodIn_app (goodIn_of _ (by decide +kernel)) ggX6_traced_X3_at
set_option maxRecDepth 20000 in
theorem ggX6_traced_X1_relocate : GoodIn wsX6_traced wsX1_relocate := goodIn_r _ [23, 24, 25, 26, 27, 28, 29, 30, 31, 32, 33, 34, 22, 35, 36, 37, 38, 39, 40, 41, 42, 43, 44, 45, 46, 47, 48, 49, 50, 51, 52, 53, 54, 55, 56, 57, 58, 59, 60, 61, 62, 63, 64, 65, 66, 67, 74] (by decide +kernel) (by decide +kernel)
set_option maxRecDepth 20000 in
theorem gX6_traced_X1_relocate : GoodIn wsX6_traced (wsV RX6 164 RX1 yX1_relocate wsX1_relocate) := goodIn_app (goodIn_of _ (by decide +kernel)) ggX6_traced_X1_relocate
theorem dX6_traced_0 : decode cX6_traced 0 = .ok (.iload_n 2, 1) := by decide +kernel
theorem dX6_traced_1 : decode cX6_traced 1 = .ok (.invokestatic 136, 3) := by decide +kernel
theorem dX6_traced_4 : decode cX6_traced 4 = .ok (.iload_n 1, 1) := by decide +kernel
theorem dX6_traced_5 : decode cX6_traced 5 = .ok (.ifCond .lt 14, 3) := by decide +kernel
theorem dX6_traced_8 : decode cX6_traced 8 = .ok (.iload_n 1, 1) := by decide +kernel
theorem dX6_traced_9 : decode cX6_traced 9 = .ok (.aload_n 0, 1) := by decide +kernel
theorem dX6_traced_10 : decode cX6_traced 10 = .ok (.getfield 28, 3) := by decide +kernel
theorem dX6_traced_13 : decode cX6_traced 13 = .ok (.getfield 153, 3) := by decide +kernel
theorem dX6_traced_16 : decode cX6_traced 16 = .ok (.if_icmp .lt 13, 3) := by decide +kernel
theorem dX6_traced_19 : decode cX6_traced 19 = .ok (.new 156, 3) := by decide +kernel
theorem dX6_traced_22 : decode cX6_traced 22 = .ok (.dup, 1) := by decide +kernel
theorem dX6_traced_23 : decode cX6_traced 23 = .ok (.ldc 158, 2) := by decide +kernel
theorem dX6_traced_25 : decode cX6_traced 25 = .ok (.invokespecial 160, 3) := by decide +kernel
theorem dX6_traced_28 : decode cX6_traced 28 = .ok (.athrow, 1) := by decide +kernel
theorem dX6_traced_29 : decode cX6_traced 29 = .ok (.aload_n 0, 1) := by decide +kernel
theorem dX6_traced_30 : decode cX6_traced 30 = .ok (.getfield 10, 3) := by decide +kernel
theorem dX6_traced_33 : decode cX6_traced 33 = .ok (.aload_n 0, 1) := by decide +kernel
theorem dX6_traced_34 : decode cX6_traced 34 = .ok (.getfield 28, 3) := by decide +kernel
theorem dX6_traced_37 : decode cX6_traced 37 = .ok (.iload_n 1, 1) := by decide +kernel
theorem dX6_traced_38 : decode cX6_traced 38 = .ok (.iload_n 2, 1) := by decide +kernel
theorem dX6_traced_39 : decode cX6_traced 39 = .ok (.invokevirtual 161, 3) := by decide +kernel
theorem dX6_traced_42 : decode cX6_traced 42 = .ok (.invokevirtual 164, 3) := by decide +kernel
theorem dX6_traced_45 : decode cX6_traced 45 = .ok (.lreturn, 1) := by decide +kernel
set_option maxRecDepth 20000 in
theorem ggX6_begins_X1_beginningOf : GoodIn wsX6_begins wsX1_beginningOf := goodIn_r _ [8, 9, 10, 11, 7, 12, 13, 14, 15, 16, 17, 18, 19, 20, 21, 22, 23, 24, 25, 26, 27, 32] (by decide +kernel) (by decide +kernel)
set_option maxRecDepth 20000 in
theorem gX6_begins_X1_beginningOf : GoodIn wsX6_begins (wsV RX6 169 RX1 yX1_beginningOf wsX1_beginningOf) := goodIn_app (goodIn_of _ (by decide +kernel)) ggX6_begins_X1_beginningOf
theorem dX6_begins_0 : decode cX6_begins 0 = .ok (.iload_n 1, 1) := by decide +kernel
theorem dX6_begins_1 : decode cX6_begins 1 = .ok (.iconst 1, 1) := by decide +kernel
theorem dX6_begins_2 : decode cX6_begins 2 = .ok (.if_icmp .lt 9, 3) := by decide +kernel
theorem dX6_begins_5 : decode cX6_begins 5 = .ok (.iload_n 1, 1) := by decide +kernel
theorem dX6_begins_6 : decode cX6_begins 6 = .ok (.bipush 6, 2) := by decide +kernel
theorem dX6_begins_8 : decode cX6_begins 8 = .ok (.if_icmp .le 13, 3) := by decide +kernel
theorem dX6_begins_11 : decode cX6_begins 11 = .ok (.new 42, 3) := by decide +kernel
theorem dX6_begins_14 : decode cX6_begins 14 = .ok (.dup, 1) := by decide +kernel
theorem dX6_begins_15 : decode cX6_begins 15 = .ok (.ldc 167, 2) := by decide +kernel
theorem dX6_begins_17 : decode cX6_begins 17 = .ok (.invokespecial 46, 3) := by decide +kernel
theorem dX6_begins_20 : decode cX6_begins 20 = .ok (.athrow, 1) := by decide +kernel
theorem dX6_begins_21 : decode cX6_begins 21 = .ok (.aload_n 0, 1) := by decide +kernel
theorem dX6_begins_22 : decode cX6_begins 22 = .ok (.getfield 10, 3) := by decide +kernel
theorem dX6_begins_25 : decode cX6_begins 25 = .ok (.iload_n 1, 1) := by decide +kernel
theorem dX6_begins_26 : decode cX6_begins 26 = .ok (.invokevirtual 169, 3) := by decide +kernel
theorem dX6_begins_29 : decode cX6_begins 29 = .ok (.ireturn, 1) := by decide +kernel
set_option maxRecDepth 20000 in
theorem ggX6_relocated_X1_beginningOf : GoodIn wsX6_relocated wsX1_beginningOf := goodIn_r _ [8, 9, 10, 11, 7, 12, 13, 14, 15, 16, 17, 18, 19, 20, 21, 22, 23, 24, 25, 26, 27, 62] (by decide +kernel) (by decide +kernel)
set_option maxRecDepth 20000 in
theorem gX6_relocated_X1_beginningOf : GoodIn wsX6_relocated (wsV RX6 169 RX1 yX1_beginningOf wsX1_beginningOf) := goodIn_app (goodIn_of _ (by decide +kernel)) ggX6_relocated_X1_beginningOf
set_option maxRecDepth 20000 in
theorem ggX6_relocated_X1_relocatedAt : GoodIn wsX6_relocated wsX1_relocatedAt := goodIn_r _ [31, 13, 32, 5, 6, 7, 8, 9, 10, 11, 12, 14, 15, 16, 17, 18, 19, 20, 21, 22, 23, 24, 25, 26, 27, 33, 34, 35, 36, 37, 38, 39, 40, 41, 42, 43, 44, 45, 46, 47, 48, 49, 50, 51, 52, 53, 54, 55, 56, 57, 62] (by decide +kernel) (by decide +kernel)
set_option maxRecDepth 20000 in
theorem gX6_relocated_X1_relocatedAt : GoodIn wsX6_relocated (wsV RX6 175 RX1 yX1_relocatedAt wsX1_relocatedAt) := goodIn_app (goodIn_of _ (by decide +kernel)) ggX6_relocated_X1_relocatedAt
theorem dX6_relocated_0 : decode cX6_relocated 0 = .ok (.iload_n 1, 1) := by decide +kernel
theorem dX6_relocated_1 : decode cX6_relocated 1 = .ok (.iconst 1, 1) := by decide +kernel
theorem dX6_relocated_2 : decode cX6_relocated 2 = .ok (.if_icmp .lt 16, 3) := by decide +kernel
theorem dX6_relocated_5 : decode cX6_relocated 5 = .ok (.iload_n 1, 1) := by decide +kernel
theorem dX6_relocated_6 : decode cX6_relocated 6 = .ok (.aload_n 0, 1) := by decide +kernel
theorem dX6_relocated_7 : decode cX6_relocated 7 = .ok (.getfield 10, 3) := by decide +kernel
theorem dX6_relocated_10 : decode cX6_relocated 10 = .ok (.bipush 6, 2) := by decide +kernel
theorem dX6_relocated_12 : decode cX6_relocated 12 = .ok (.invokevirtual 169, 3) := by decide +kernel
theorem dX6_relocated_15 : decode cX6_relocated 15 = .ok (.if_icmp .lt 13, 3) := by decide +kernel
theorem dX6_relocated_18 : decode cX6_relocated 18 = .ok (.new 156, 3) := by decide +kernel
theorem dX6_relocated_21 : decode cX6_relocated 21 = .ok (.dup, 1) := by decide +kernel
theorem dX6_relocated_22 : decode cX6_relocated 22 = .ok (.ldc 173, 2) := by decide +kernel
theorem dX6_relocated_24 : decode cX6_relocated 24 = .ok (.invokespecial 160, 3) := by decide +kernel
theorem dX6_relocated_27 : decode cX6_relocated 27 = .ok (.athrow, 1) := by decide +kernel
theorem dX6_relocated_28 : decode cX6_relocated 28 = .ok (.aload_n 0, 1) := by decide +kernel
theorem dX6_relocated_29 : decode cX6_relocated 29 = .ok (.getfield 10, 3) := by decide +kernel
theorem dX6_relocated_32 : decode cX6_relocated 32 = .ok (.iload_n 1, 1) := by decide +kernel
theorem dX6_relocated_33 : decode cX6_relocated 33 = .ok (.invokevirtual 175, 3) := by decide +kernel
theorem dX6_relocated_36 : decode cX6_relocated 36 = .ok (.lreturn, 1) := by decide +kernel
set_option maxRecDepth 20000 in
theorem ggX6_reckon_X0_reduce : GoodIn wsX6_reckon wsX0_reduce := goodIn_r _ [8, 9, 10, 11, 12, 13] (by decide +kernel) (by decide +kernel)
set_option maxRecDepth 20000 in
theorem gX6_reckon_X0_reduce : GoodIn wsX6_reckon (va_wsS RX6 77 yX0_reduce wsX0_reduce) := goodIn_app (goodIn_of _ (by decide +kernel)) ggX6_reckon_X0_reduce
set_option maxRecDepth 20000 in
theorem ggX6_reckon_X0_sum : GoodIn wsX6_reckon wsX0_sum := goodIn_r _ [16, 9] (by decide +kernel) (by decide +kernel)
set_option maxRecDepth 20000 in
theorem gX6_reckon_X0_sum : GoodIn wsX6_reckon (va_wsS RX6 186 yX0_sum wsX0_sum) := goodIn_app (goodIn_of _ (by decide +kernel)) ggX6_reckon_X0_sum
set_option maxRecDepth 20000 in
theorem ggX6_reckon_X0_difference : GoodIn wsX6_reckon wsX0_difference := goodIn_r _ [19, 9] (by decide +kernel) (by decide +kernel)
set_option maxRecDepth 20000 in
theorem gX6_reckon_X0_difference : GoodIn wsX6_reckon (va_wsS RX6 190 yX0_difference wsX0_difference) := goodIn_app (goodIn_of _ (by decide +kernel)) ggX6_reckon_X0_difference
set_option maxRecDepth 20000 in
theorem ggX6_reckon_X0_product : GoodIn wsX6_reckon wsX0_product := goodIn_r _ [22, 23, 24, 9, 25, 26, 15, 7, 16] (by decide +kernel) (by decide +kernel)
set_option maxRecDepth 20000 in
theorem gX6_reckon_X0_product : GoodIn wsX6_reckon (va_wsS RX6 193 yX0_product wsX0_product) := goodIn_app (goodIn_of _ (by decide +kernel)) ggX6_reckon_X0_product
set_option maxRecDepth 20000 in
theorem ggX6_reckon_X0_quotient : GoodIn wsX6_reckon wsX0_quotient := goodIn_r _ [29, 30, 31, 21, 7, 22, 23, 24, 9, 25, 26, 15, 16] (by decide +kernel) (by decide +kernel)
set_option maxRecDepth 20000 in
theorem gX6_reckon_X0_quotient : GoodIn wsX6_reckon (va_wsS RX6 196 yX0_quotient wsX0_quotient) := goodIn_app (goodIn_of _ (by decide +kernel)) ggX6_reckon_X0_quotient
theorem dX6_reckon_0 : decode cX6_reckon 0 = .ok (.iload_n 1, 1) := by decide +kernel
theorem dX6_reckon_1 : decode cX6_reckon 1 = .ok (.ifCond .lt 8, 3) := by decide +kernel
theorem dX6_reckon_4 : decode cX6_reckon 4 = .ok (.iload_n 1, 1) := by decide +kernel
theorem dX6_reckon_5 : decode cX6_reckon 5 = .ok (.iconst 3, 1) := by decide +kernel
theorem dX6_reckon_6 : decode cX6_reckon 6 = .ok (.if_icmp .le 13, 3) := by decide +kernel
theorem dX6_reckon_9 : decode cX6_reckon 9 = .ok (.new 42, 3) := by decide +kernel
theorem dX6_reckon_12 : decode cX6_reckon 12 = .ok (.dup, 1) := by decide +kernel
theorem dX6_reckon_13 : decode cX6_reckon 13 = .ok (.ldc 179, 2) := by decide +kernel
theorem dX6_reckon_15 : decode cX6_reckon 15 = .ok (.invokespecial 46, 3) := by decide +kernel
theorem dX6_reckon_18 : decode cX6_reckon 18 = .ok (.athrow, 1) := by decide +kernel
theorem dX6_reckon_19 : decode cX6_reckon 19 = .ok (.lload_n 2, 1) := by decide +kernel
theorem dX6_reckon_20 : decode cX6_reckon 20 = .ok (.invokestatic 77, 3) := by decide +kernel
theorem dX6_reckon_23 : decode cX6_reckon 23 = .ok (.lstore 6, 2) := by decide +kernel
theorem dX6_reckon_25 : decode cX6_reckon 25 = .ok (.lload 4, 2) := by decide +kernel
theorem dX6_reckon_27 : decode cX6_reckon 27 = .ok (.invokestatic 77, 3) := by decide +kernel
theorem dX6_reckon_30 : decode cX6_reckon 30 = .ok (.lstore 8, 2) := by decide +kernel
theorem dX6_reckon_32 : decode cX6_reckon 32 = .ok (.iload_n 1, 1) := by decide +kernel
theorem dX6_reckon_33 : decode cX6_reckon 33 = .ok (.iconst 3, 1) := by decide +kernel
theorem dX6_reckon_34 : decode cX6_reckon 34 = .ok (.if_icmp .ne 20, 3) := by decide +kernel
theorem dX6_reckon_37 : decode cX6_reckon 37 = .ok (.lload 8, 2) := by decide +kernel
theorem dX6_reckon_39 : decode cX6_reckon 39 = .ok (.lconst 0, 1) := by decide +kernel
theorem dX6_reckon_40 : decode cX6_reckon 40 = .ok (.lcmp, 1) := by decide +kernel
theorem dX6_reckon_41 : decode cX6_reckon 41 = .ok (.ifCond .ne 13, 3) := by decide +kernel
theorem dX6_reckon_44 : decode cX6_reckon 44 = .ok (.new 181, 3) := by decide +kernel
theorem dX6_reckon_47 : decode cX6_reckon 47 = .ok (.dup, 1) := by decide +kernel
theorem dX6_reckon_48 : decode cX6_reckon 48 = .ok (.ldc 183, 2) := by decide +kernel
theorem dX6_reckon_50 : decode cX6_reckon 50 = .ok (.invokespecial 185, 3) := by decide +kernel
theorem dX6_reckon_53 : decode cX6_reckon 53 = .ok (.athrow, 1) := by decide +kernel
theorem dX6_reckon_54 : decode cX6_reckon 54 = .ok (.iload_n 1, 1) := by decide +kernel
theorem dX6_reckon_55 : decode cX6_reckon 55 = .ok (.tableswitch 49 0 2 #[25, 33, 41], 25) := by decide +kernel
theorem dX6_reckon_80 : decode cX6_reckon 80 = .ok (.lload 6, 2) := by decide +kernel
theorem dX6_reckon_82 : decode cX6_reckon 82 = .ok (.lload 8, 2) := by decide +kernel
theorem dX6_reckon_84 : decode cX6_reckon 84 = .ok (.invokestatic 186, 3) := by decide +kernel
theorem dX6_reckon_87 : decode cX6_reckon 87 = .ok (.lreturn, 1) := by decide +kernel
theorem dX6_reckon_88 : decode cX6_reckon 88 = .ok (.lload 6, 2) := by decide +kernel
theorem dX6_reckon_90 : decode cX6_reckon 90 = .ok (.lload 8, 2) := by decide +kernel
theorem dX6_reckon_92 : decode cX6_reckon 92 = .ok (.invokestatic 190, 3) := by decide +kernel
theorem dX6_reckon_95 : decode cX6_reckon 95 = .ok (.lreturn, 1) := by decide +kernel
theorem dX6_reckon_96 : decode cX6_reckon 96 = .ok (.lload 6, 2) := by decide +kernel
theorem dX6_reckon_98 : decode cX6_reckon 98 = .ok (.lload 8, 2) := by decide +kernel
theorem dX6_reckon_100 : decode cX6_reckon 100 = .ok (.invokestatic 193, 3) := by decide +kernel
theorem dX6_reckon_103 : decode cX6_reckon 103 = .ok (.lreturn, 1) := by decide +kernel
theorem dX6_reckon_104 : decode cX6_reckon 104 = .ok (.lload 6, 2) := by decide +kernel
theorem dX6_reckon_106 : decode cX6_reckon 106 = .ok (.lload 8, 2) := by decide +kernel
theorem dX6_reckon_108 : decode cX6_reckon 108 = .ok (.invokestatic 196, 3) := by decide +kernel
theorem dX6_reckon_111 : decode cX6_reckon 111 = .ok (.lreturn, 1) := by decide +kernel
set_option maxRecDepth 20000 in
theorem ggX6_writeByHost_X6_requireCell : GoodIn wsX6_writeByHost wsX6_requireCell := goodIn_ca (goodIn_r _ [7, 8, 9, 10, 11, 12, 13, 14, 15, 16] (by decide +kernel) (by decide +kernel)) (goodIn_sub (fun _ h => List.mem_cons_of_mem _ (List.mem_append_right _ h)) (by decide +kernel))
set_option maxRecDepth 20000 in
theorem gX6_writeByHost_X6_requireCell : GoodIn wsX6_writeByHost (va_wsS RX6 199 yX6_requireCell wsX6_requireCell) := goodIn_app (goodIn_of _ (by decide +kernel)) ggX6_writeByHost_X6_requireCell
set_option maxRecDepth 20000 in
theorem ggX6_writeByHost_X1_write : GoodIn wsX6_writeByHost wsX1_write := goodIn_r _ [20, 21, 22, 23, 11, 12, 13, 24, 15, 16, 25, 26, 27, 28, 29, 30, 31, 32, 33, 34, 35, 36, 37, 38, 39, 40, 41, 42, 43, 44, 45, 46, 47, 48, 49, 50, 55] (by decide +kernel) (by decide +kernel)
set_option maxRecDepth 20000 in
theorem gX6_writeByHost_X1_write : GoodIn wsX6_writeByHost (wsV RX6 203 RX1 yX1_write wsX1_write) := goodIn_app (goodIn_of _ (by decide +kernel)) ggX6_writeByHost_X1_write
theorem dX6_writeByHost_0 : decode cX6_writeByHost 0 = .ok (.iload_n 1, 1) := by decide +kernel
theorem dX6_writeByHost_1 : decode cX6_writeByHost 1 = .ok (.iload_n 2, 1) := by decide +kernel
theorem dX6_writeByHost_2 : decode cX6_writeByHost 2 = .ok (.invokestatic 199, 3) := by decide +kernel
theorem dX6_writeByHost_5 : decode cX6_writeByHost 5 = .ok (.aload_n 0, 1) := by decide +kernel
theorem dX6_writeByHost_6 : decode cX6_writeByHost 6 = .ok (.getfield 10, 3) := by decide +kernel
theorem dX6_writeByHost_9 : decode cX6_writeByHost 9 = .ok (.iload_n 1, 1) := by decide +kernel
theorem dX6_writeByHost_10 : decode cX6_writeByHost 10 = .ok (.iload_n 2, 1) := by decide +kernel
theorem dX6_writeByHost_11 : decode cX6_writeByHost 11 = .ok (.lload_n 3, 1) := by decide +kernel
theorem dX6_writeByHost_12 : decode cX6_writeByHost 12 = .ok (.invokevirtual 203, 3) := by decide +kernel
theorem dX6_writeByHost_15 : decode cX6_writeByHost 15 = .ok (.ifCond .ne 13, 3) := by decide +kernel
theorem dX6_writeByHost_18 : decode cX6_writeByHost 18 = .ok (.new 61, 3) := by decide +kernel
theorem dX6_writeByHost_21 : decode cX6_writeByHost 21 = .ok (.dup, 1) := by decide +kernel
theorem dX6_writeByHost_22 : decode cX6_writeByHost 22 = .ok (.ldc 207, 2) := by decide +kernel
theorem dX6_writeByHost_24 : decode cX6_writeByHost 24 = .ok (.invokespecial 65, 3) := by decide +kernel
theorem dX6_writeByHost_27 : decode cX6_writeByHost 27 = .ok (.athrow, 1) := by decide +kernel
theorem dX6_writeByHost_28 : decode cX6_writeByHost 28 = .ok (.return_, 1) := by decide +kernel
set_option maxRecDepth 20000 in
theorem ggX6_requireSet_X6_requireCell : GoodIn wsX6_requireSet wsX6_requireCell := goodIn_ca (goodIn_r _ [8, 9, 10, 11, 12, 13, 14, 15, 16, 17] (by decide +kernel) (by decide +kernel)) (goodIn_sub (fun _ h => List.mem_cons_of_mem _ (List.mem_append_right _ h)) (by decide +kernel))
set_option maxRecDepth 20000 in
theorem gX6_requireSet_X6_requireCell : GoodIn wsX6_requireSet (va_wsS RX6 199 yX6_requireCell wsX6_requireCell) := goodIn_app (goodIn_of _ (by decide +kernel)) ggX6_requireSet_X6_requireCell
set_option maxRecDepth 20000 in
theorem ggX6_requireSet_X1_look : GoodIn wsX6_requireSet wsX1_look := goodIn_r _ [21, 22, 23, 24, 12, 13, 14, 25, 16, 17, 26, 27, 28, 33] (by decide +kernel) (by decide +kernel)
set_option maxRecDepth 20000 in
theorem gX6_requireSet_X1_look : GoodIn wsX6_requireSet (wsV RX6 209 RX1 yX1_look wsX1_look) := goodIn_app (goodIn_of _ (by decide +kernel)) ggX6_requireSet_X1_look
theorem dX6_requireSet_0 : decode cX6_requireSet 0 = .ok (.iload_n 1, 1) := by decide +kernel
theorem dX6_requireSet_1 : decode cX6_requireSet 1 = .ok (.iload_n 2, 1) := by decide +kernel
theorem dX6_requireSet_2 : decode cX6_requireSet 2 = .ok (.invokestatic 199, 3) := by decide +kernel
theorem dX6_requireSet_5 : decode cX6_requireSet 5 = .ok (.aload_n 0, 1) := by decide +kernel
theorem dX6_requireSet_6 : decode cX6_requireSet 6 = .ok (.getfield 10, 3) := by decide +kernel
theorem dX6_requireSet_9 : decode cX6_requireSet 9 = .ok (.iload_n 1, 1) := by decide +kernel
theorem dX6_requireSet_10 : decode cX6_requireSet 10 = .ok (.iload_n 2, 1) := by decide +kernel
theorem dX6_requireSet_11 : decode cX6_requireSet 11 = .ok (.invokevirtual 209, 3) := by decide +kernel
theorem dX6_requireSet_14 : decode cX6_requireSet 14 = .ok (.lstore_n 3, 1) := by decide +kernel
theorem dX6_requireSet_15 : decode cX6_requireSet 15 = .ok (.lload_n 3, 1) := by decide +kernel
theorem dX6_requireSet_16 : decode cX6_requireSet 16 = .ok (.ldc2_w 96, 3) := by decide +kernel
theorem dX6_requireSet_19 : decode cX6_requireSet 19 = .ok (.lcmp, 1) := by decide +kernel
theorem dX6_requireSet_20 : decode cX6_requireSet 20 = .ok (.ifCond .ne 13, 3) := by decide +kernel
theorem dX6_requireSet_23 : decode cX6_requireSet 23 = .ok (.new 156, 3) := by decide +kernel
theorem dX6_requireSet_26 : decode cX6_requireSet 26 = .ok (.dup, 1) := by decide +kernel
theorem dX6_requireSet_27 : decode cX6_requireSet 27 = .ok (.ldc 212, 2) := by decide +kernel
theorem dX6_requireSet_29 : decode cX6_requireSet 29 = .ok (.invokespecial 160, 3) := by decide +kernel
theorem dX6_requireSet_32 : decode cX6_requireSet 32 = .ok (.athrow, 1) := by decide +kernel
theorem dX6_requireSet_33 : decode cX6_requireSet 33 = .ok (.lload_n 3, 1) := by decide +kernel
theorem dX6_requireSet_34 : decode cX6_requireSet 34 = .ok (.lreturn, 1) := by decide +kernel
set_option maxRecDepth 20000 in
theorem ggX6_requireCell_X1_isSegment : GoodIn wsX6_requireCell wsX1_isSegment := goodIn_r _ [6] (by decide +kernel) (by decide +kernel)
set_option maxRecDepth 20000 in
theorem gX6_requireCell_X1_isSegment : GoodIn wsX6_requireCell (va_wsS RX6 93 yX1_isSegment wsX1_isSegment) := goodIn_app (goodIn_of _ (by decide +kernel)) ggX6_requireCell_X1_isSegment
set_option maxRecDepth 20000 in
theorem ggX6_requireCell_X1_isCell : GoodIn wsX6_requireCell wsX1_isCell := goodIn_r _ [9] (by decide +kernel) (by decide +kernel)
set_option maxRecDepth 20000 in
theorem gX6_requireCell_X1_isCell : GoodIn wsX6_requireCell (va_wsS RX6 100 yX1_isCell wsX1_isCell) := goodIn_app (goodIn_of _ (by decide +kernel)) ggX6_requireCell_X1_isCell
theorem dX6_requireCell_0 : decode cX6_requireCell 0 = .ok (.iload_n 0, 1) := by decide +kernel
theorem dX6_requireCell_1 : decode cX6_requireCell 1 = .ok (.invokestatic 93, 3) := by decide +kernel
theorem dX6_requireCell_4 : decode cX6_requireCell 4 = .ok (.ifCond .eq 10, 3) := by decide +kernel
theorem dX6_requireCell_7 : decode cX6_requireCell 7 = .ok (.iload_n 1, 1) := by decide +kernel
theorem dX6_requireCell_8 : decode cX6_requireCell 8 = .ok (.invokestatic 100, 3) := by decide +kernel
theorem dX6_requireCell_11 : decode cX6_requireCell 11 = .ok (.ifCond .ne 13, 3) := by decide +kernel
theorem dX6_requireCell_14 : decode cX6_requireCell 14 = .ok (.new 42, 3) := by decide +kernel
theorem dX6_requireCell_17 : decode cX6_requireCell 17 = .ok (.dup, 1) := by decide +kernel
theorem dX6_requireCell_18 : decode cX6_requireCell 18 = .ok (.ldc 214, 2) := by decide +kernel
theorem dX6_requireCell_20 : decode cX6_requireCell 20 = .ok (.invokespecial 46, 3) := by decide +kernel
theorem dX6_requireCell_23 : decode cX6_requireCell 23 = .ok (.athrow, 1) := by decide +kernel
theorem dX6_requireCell_24 : decode cX6_requireCell 24 = .ok (.return_, 1) := by decide +kernel
theorem dX6_requireRegister_0 : decode cX6_requireRegister 0 = .ok (.iload_n 0, 1) := by decide +kernel
theorem dX6_requireRegister_1 : decode cX6_requireRegister 1 = .ok (.ifCond .lt 8, 3) := by decide +kernel
theorem dX6_requireRegister_4 : decode cX6_requireRegister 4 = .ok (.iload_n 0, 1) := by decide +kernel
theorem dX6_requireRegister_5 : decode cX6_requireRegister 5 = .ok (.iconst 2, 1) := by decide +kernel
theorem dX6_requireRegister_6 : decode cX6_requireRegister 6 = .ok (.if_icmp .le 13, 3) := by decide +kernel
theorem dX6_requireRegister_9 : decode cX6_requireRegister 9 = .ok (.new 42, 3) := by decide +kernel
theorem dX6_requireRegister_12 : decode cX6_requireRegister 12 = .ok (.dup, 1) := by decide +kernel
theorem dX6_requireRegister_13 : decode cX6_requireRegister 13 = .ok (.ldc 216, 2) := by decide +kernel
theorem dX6_requireRegister_15 : decode cX6_requireRegister 15 = .ok (.invokespecial 46, 3) := by decide +kernel
theorem dX6_requireRegister_18 : decode cX6_requireRegister 18 = .ok (.athrow, 1) := by decide +kernel
theorem dX6_requireRegister_19 : decode cX6_requireRegister 19 = .ok (.return_, 1) := by decide +kernel
theorem dX7_init_0 : decode cX7_init 0 = .ok (.aload_n 0, 1) := by decide +kernel
theorem dX7_init_1 : decode cX7_init 1 = .ok (.invokespecial 1, 3) := by decide +kernel
theorem dX7_init_4 : decode cX7_init 4 = .ok (.aload_n 0, 1) := by decide +kernel
theorem dX7_init_5 : decode cX7_init 5 = .ok (.sipush 384, 3) := by decide +kernel
theorem dX7_init_8 : decode cX7_init 8 = .ok (.newarray .boolean, 2) := by decide +kernel
theorem dX7_init_10 : decode cX7_init 10 = .ok (.putfield 7, 3) := by decide +kernel
theorem dX7_init_13 : decode cX7_init 13 = .ok (.aload_n 0, 1) := by decide +kernel
theorem dX7_init_14 : decode cX7_init 14 = .ok (.sipush 384, 3) := by decide +kernel
theorem dX7_init_17 : decode cX7_init 17 = .ok (.newarray .int, 2) := by decide +kernel
theorem dX7_init_19 : decode cX7_init 19 = .ok (.putfield 13, 3) := by decide +kernel
theorem dX7_init_22 : decode cX7_init 22 = .ok (.aload_n 0, 1) := by decide +kernel
theorem dX7_init_23 : decode cX7_init 23 = .ok (.sipush 384, 3) := by decide +kernel
theorem dX7_init_26 : decode cX7_init 26 = .ok (.newarray .long, 2) := by decide +kernel
theorem dX7_init_28 : decode cX7_init 28 = .ok (.putfield 17, 3) := by decide +kernel
theorem dX7_init_31 : decode cX7_init 31 = .ok (.aload_n 0, 1) := by decide +kernel
theorem dX7_init_32 : decode cX7_init 32 = .ok (.bipush 13, 2) := by decide +kernel
theorem dX7_init_34 : decode cX7_init 34 = .ok (.newarray .int, 2) := by decide +kernel
theorem dX7_init_36 : decode cX7_init 36 = .ok (.putfield 21, 3) := by decide +kernel
theorem dX7_init_39 : decode cX7_init 39 = .ok (.aload_n 0, 1) := by decide +kernel
theorem dX7_init_40 : decode cX7_init 40 = .ok (.bipush 13, 2) := by decide +kernel
theorem dX7_init_42 : decode cX7_init 42 = .ok (.newarray .long, 2) := by decide +kernel
theorem dX7_init_44 : decode cX7_init 44 = .ok (.putfield 24, 3) := by decide +kernel
theorem dX7_init_47 : decode cX7_init 47 = .ok (.aload_n 0, 1) := by decide +kernel
theorem dX7_init_48 : decode cX7_init 48 = .ok (.sipush 192, 3) := by decide +kernel
theorem dX7_init_51 : decode cX7_init 51 = .ok (.newarray .int, 2) := by decide +kernel
theorem dX7_init_53 : decode cX7_init 53 = .ok (.putfield 27, 3) := by decide +kernel
theorem dX7_init_56 : decode cX7_init 56 = .ok (.aload_n 0, 1) := by decide +kernel
theorem dX7_init_57 : decode cX7_init 57 = .ok (.sipush 192, 3) := by decide +kernel
theorem dX7_init_60 : decode cX7_init 60 = .ok (.newarray .long, 2) := by decide +kernel
theorem dX7_init_62 : decode cX7_init 62 = .ok (.putfield 30, 3) := by decide +kernel
theorem dX7_init_65 : decode cX7_init 65 = .ok (.aload_n 0, 1) := by decide +kernel
theorem dX7_init_66 : decode cX7_init 66 = .ok (.getfield 21, 3) := by decide +kernel
theorem dX7_init_69 : decode cX7_init 69 = .ok (.iconst 0, 1) := by decide +kernel
theorem dX7_init_70 : decode cX7_init 70 = .ok (.iconst 1, 1) := by decide +kernel
theorem dX7_init_71 : decode cX7_init 71 = .ok (.iastore, 1) := by decide +kernel
theorem dX7_init_72 : decode cX7_init 72 = .ok (.aload_n 0, 1) := by decide +kernel
theorem dX7_init_73 : decode cX7_init 73 = .ok (.getfield 21, 3) := by decide +kernel
theorem dX7_init_76 : decode cX7_init 76 = .ok (.iconst 1, 1) := by decide +kernel
theorem dX7_init_77 : decode cX7_init 77 = .ok (.iconst 2, 1) := by decide +kernel
theorem dX7_init_78 : decode cX7_init 78 = .ok (.iastore, 1) := by decide +kernel
theorem dX7_init_79 : decode cX7_init 79 = .ok (.aload_n 0, 1) := by decide +kernel
theorem dX7_init_80 : decode cX7_init 80 = .ok (.getfield 21, 3) := by decide +kernel
theorem dX7_init_83 : decode cX7_init 83 = .ok (.iconst 2, 1) := by decide +kernel
theorem dX7_init_84 : decode cX7_init 84 = .ok (.iconst 2, 1) := by decide +kernel
theorem dX7_init_85 : decode cX7_init 85 = .ok (.iastore, 1) := by decide +kernel
theorem dX7_init_86 : decode cX7_init 86 = .ok (.return_, 1) := by decide +kernel
theorem dX7_thrown_0 : decode cX7_thrown 0 = .ok (.aload_n 0, 1) := by decide +kernel
theorem dX7_thrown_1 : decode cX7_thrown 1 = .ok (.getfield 33, 3) := by decide +kernel
theorem dX7_thrown_4 : decode cX7_thrown 4 = .ok (.ireturn, 1) := by decide +kernel
theorem dX7_out_0 : decode cX7_out 0 = .ok (.iload_n 0, 1) := by decide +kernel
theorem dX7_out_1 : decode cX7_out 1 = .ok (.iload_n 1, 1) := by decide +kernel
theorem dX7_out_2 : decode cX7_out 2 = .ok (.if_icmp .lt 8, 3) := by decide +kernel
theorem dX7_out_5 : decode cX7_out 5 = .ok (.iload_n 0, 1) := by decide +kernel
theorem dX7_out_6 : decode cX7_out 6 = .ok (.iload_n 2, 1) := by decide +kernel
theorem dX7_out_7 : decode cX7_out 7 = .ok (.if_icmp .le 7, 3) := by decide +kernel
theorem dX7_out_10 : decode cX7_out 10 = .ok (.iconst 1, 1) := by decide +kernel
theorem dX7_out_11 : decode cX7_out 11 = .ok (.goto 4, 3) := by decide +kernel
theorem dX7_out_14 : decode cX7_out 14 = .ok (.iconst 0, 1) := by decide +kernel
theorem dX7_out_15 : decode cX7_out 15 = .ok (.ireturn, 1) := by decide +kernel
theorem dX7_throwing_0 : decode cX7_throwing 0 = .ok (.aload_n 0, 1) := by decide +kernel
theorem dX7_throwing_1 : decode cX7_throwing 1 = .ok (.iload_n 1, 1) := by decide +kernel
theorem dX7_throwing_2 : decode cX7_throwing 2 = .ok (.ifCond .eq 7, 3) := by decide +kernel
theorem dX7_throwing_5 : decode cX7_throwing 5 = .ok (.iconst 1, 1) := by decide +kernel
theorem dX7_throwing_6 : decode cX7_throwing 6 = .ok (.goto 12, 3) := by decide +kernel
theorem dX7_throwing_9 : decode cX7_throwing 9 = .ok (.iload_n 2, 1) := by decide +kernel
theorem dX7_throwing_10 : decode cX7_throwing 10 = .ok (.ifCond .eq 7, 3) := by decide +kernel
theorem dX7_throwing_13 : decode cX7_throwing 13 = .ok (.iconst 2, 1) := by decide +kernel
theorem dX7_throwing_14 : decode cX7_throwing 14 = .ok (.goto 4, 3) := by decide +kernel
theorem dX7_throwing_17 : decode cX7_throwing 17 = .ok (.iconst 0, 1) := by decide +kernel
theorem dX7_throwing_18 : decode cX7_throwing 18 = .ok (.putfield 33, 3) := by decide +kernel
theorem dX7_throwing_21 : decode cX7_throwing 21 = .ok (.aload_n 0, 1) := by decide +kernel
theorem dX7_throwing_22 : decode cX7_throwing 22 = .ok (.getfield 33, 3) := by decide +kernel
theorem dX7_throwing_25 : decode cX7_throwing 25 = .ok (.ifCond .le 7, 3) := by decide +kernel
theorem dX7_throwing_28 : decode cX7_throwing 28 = .ok (.iconst 1, 1) := by decide +kernel
theorem dX7_throwing_29 : decode cX7_throwing 29 = .ok (.goto 4, 3) := by decide +kernel
theorem dX7_throwing_32 : decode cX7_throwing 32 = .ok (.iconst 0, 1) := by decide +kernel
theorem dX7_throwing_33 : decode cX7_throwing 33 = .ok (.ireturn, 1) := by decide +kernel
theorem dX7_modulo_0 : decode cX7_modulo 0 = .ok (.lload_n 0, 1) := by decide +kernel
theorem dX7_modulo_1 : decode cX7_modulo 1 = .ok (.ldc2_w 37, 3) := by decide +kernel
theorem dX7_modulo_4 : decode cX7_modulo 4 = .ok (.lrem, 1) := by decide +kernel
theorem dX7_modulo_5 : decode cX7_modulo 5 = .ok (.lstore_n 2, 1) := by decide +kernel
theorem dX7_modulo_6 : decode cX7_modulo 6 = .ok (.lload_n 2, 1) := by decide +kernel
theorem dX7_modulo_7 : decode cX7_modulo 7 = .ok (.lconst 0, 1) := by decide +kernel
theorem dX7_modulo_8 : decode cX7_modulo 8 = .ok (.lcmp, 1) := by decide +kernel
theorem dX7_modulo_9 : decode cX7_modulo 9 = .ok (.ifCond .ge 11, 3) := by decide +kernel
theorem dX7_modulo_12 : decode cX7_modulo 12 = .ok (.lload_n 2, 1) := by decide +kernel
theorem dX7_modulo_13 : decode cX7_modulo 13 = .ok (.ldc2_w 37, 3) := by decide +kernel
theorem dX7_modulo_16 : decode cX7_modulo 16 = .ok (.ladd, 1) := by decide +kernel
theorem dX7_modulo_17 : decode cX7_modulo 17 = .ok (.goto 4, 3) := by decide +kernel

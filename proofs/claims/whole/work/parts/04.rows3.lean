theorem dX7_modulo_20 : decode cX7_modulo 20 = .ok (.lload_n 2, 1) := by decide +kernel
theorem dX7_modulo_21 : decode cX7_modulo 21 = .ok (.lreturn, 1) := by decide +kernel
theorem dX7_product_0 : decode cX7_product 0 = .ok (.lconst 0, 1) := by decide +kernel
theorem dX7_product_1 : decode cX7_product 1 = .ok (.lstore 4, 2) := by decide +kernel
theorem dX7_product_3 : decode cX7_product 3 = .ok (.bipush 60, 2) := by decide +kernel
theorem dX7_product_5 : decode cX7_product 5 = .ok (.istore 6, 2) := by decide +kernel
theorem dX7_product_7 : decode cX7_product 7 = .ok (.iload 6, 2) := by decide +kernel
theorem dX7_product_9 : decode cX7_product 9 = .ok (.ifCond .lt 77, 3) := by decide +kernel
theorem dX7_product_12 : decode cX7_product 12 = .ok (.lload 4, 2) := by decide +kernel
theorem dX7_product_14 : decode cX7_product 14 = .ok (.lload 4, 2) := by decide +kernel
theorem dX7_product_16 : decode cX7_product 16 = .ok (.ladd, 1) := by decide +kernel
theorem dX7_product_17 : decode cX7_product 17 = .ok (.lstore 4, 2) := by decide +kernel
theorem dX7_product_19 : decode cX7_product 19 = .ok (.lload 4, 2) := by decide +kernel
theorem dX7_product_21 : decode cX7_product 21 = .ok (.ldc2_w 37, 3) := by decide +kernel
theorem dX7_product_24 : decode cX7_product 24 = .ok (.lcmp, 1) := by decide +kernel
theorem dX7_product_25 : decode cX7_product 25 = .ok (.ifCond .lt 12, 3) := by decide +kernel
theorem dX7_product_28 : decode cX7_product 28 = .ok (.lload 4, 2) := by decide +kernel
theorem dX7_product_30 : decode cX7_product 30 = .ok (.ldc2_w 37, 3) := by decide +kernel
theorem dX7_product_33 : decode cX7_product 33 = .ok (.lsub, 1) := by decide +kernel
theorem dX7_product_34 : decode cX7_product 34 = .ok (.goto 5, 3) := by decide +kernel
theorem dX7_product_37 : decode cX7_product 37 = .ok (.lload 4, 2) := by decide +kernel
theorem dX7_product_39 : decode cX7_product 39 = .ok (.lstore 4, 2) := by decide +kernel
theorem dX7_product_41 : decode cX7_product 41 = .ok (.lload_n 2, 1) := by decide +kernel
theorem dX7_product_42 : decode cX7_product 42 = .ok (.iload 6, 2) := by decide +kernel
theorem dX7_product_44 : decode cX7_product 44 = .ok (.lshr, 1) := by decide +kernel
theorem dX7_product_45 : decode cX7_product 45 = .ok (.lconst 1, 1) := by decide +kernel
theorem dX7_product_46 : decode cX7_product 46 = .ok (.land, 1) := by decide +kernel
theorem dX7_product_47 : decode cX7_product 47 = .ok (.lconst 1, 1) := by decide +kernel
theorem dX7_product_48 : decode cX7_product 48 = .ok (.lcmp, 1) := by decide +kernel
theorem dX7_product_49 : decode cX7_product 49 = .ok (.ifCond .ne 9, 3) := by decide +kernel
theorem dX7_product_52 : decode cX7_product 52 = .ok (.lload 4, 2) := by decide +kernel
theorem dX7_product_54 : decode cX7_product 54 = .ok (.lload_n 0, 1) := by decide +kernel
theorem dX7_product_55 : decode cX7_product 55 = .ok (.ladd, 1) := by decide +kernel
theorem dX7_product_56 : decode cX7_product 56 = .ok (.lstore 4, 2) := by decide +kernel
theorem dX7_product_58 : decode cX7_product 58 = .ok (.lload 4, 2) := by decide +kernel
theorem dX7_product_60 : decode cX7_product 60 = .ok (.ldc2_w 37, 3) := by decide +kernel
theorem dX7_product_63 : decode cX7_product 63 = .ok (.lcmp, 1) := by decide +kernel
theorem dX7_product_64 : decode cX7_product 64 = .ok (.ifCond .lt 12, 3) := by decide +kernel
theorem dX7_product_67 : decode cX7_product 67 = .ok (.lload 4, 2) := by decide +kernel
theorem dX7_product_69 : decode cX7_product 69 = .ok (.ldc2_w 37, 3) := by decide +kernel
theorem dX7_product_72 : decode cX7_product 72 = .ok (.lsub, 1) := by decide +kernel
theorem dX7_product_73 : decode cX7_product 73 = .ok (.goto 5, 3) := by decide +kernel
theorem dX7_product_76 : decode cX7_product 76 = .ok (.lload 4, 2) := by decide +kernel
theorem dX7_product_78 : decode cX7_product 78 = .ok (.lstore 4, 2) := by decide +kernel
theorem dX7_product_80 : decode cX7_product 80 = .ok (.iinc 6 (-1), 3) := by decide +kernel
theorem dX7_product_83 : decode cX7_product 83 = .ok (.goto (-76), 3) := by decide +kernel
theorem dX7_product_86 : decode cX7_product 86 = .ok (.lload 4, 2) := by decide +kernel
theorem dX7_product_88 : decode cX7_product 88 = .ok (.lreturn, 1) := by decide +kernel
set_option maxRecDepth 20000 in
theorem ggX7_inverse_X7_modulo : GoodIn wsX7_inverse wsX7_modulo := goodIn_r _ [5, 1] (by decide +kernel) (by decide +kernel)
set_option maxRecDepth 20000 in
theorem gX7_inverse_X7_modulo : GoodIn wsX7_inverse (va_wsS RX7 39 yX7_modulo wsX7_modulo) := goodIn_app (goodIn_of _ (by decide +kernel)) ggX7_inverse_X7_modulo
set_option maxRecDepth 20000 in
theorem ggX7_inverse_X7_product : GoodIn wsX7_inverse wsX7_product := goodIn_r _ [8, 1] (by decide +kernel) (by decide +kernel)
set_option maxRecDepth 20000 in
theorem gX7_inverse_X7_product : GoodIn wsX7_inverse (va_wsS RX7 43 yX7_product wsX7_product) := goodIn_app (goodIn_of _ (by decide +kernel)) ggX7_inverse_X7_product
theorem dX7_inverse_0 : decode cX7_inverse 0 = .ok (.ldc2_w 37, 3) := by decide +kernel
theorem dX7_inverse_3 : decode cX7_inverse 3 = .ok (.lstore_n 2, 1) := by decide +kernel
theorem dX7_inverse_4 : decode cX7_inverse 4 = .ok (.lload_n 0, 1) := by decide +kernel
theorem dX7_inverse_5 : decode cX7_inverse 5 = .ok (.lstore 4, 2) := by decide +kernel
theorem dX7_inverse_7 : decode cX7_inverse 7 = .ok (.lconst 0, 1) := by decide +kernel
theorem dX7_inverse_8 : decode cX7_inverse 8 = .ok (.lstore 6, 2) := by decide +kernel
theorem dX7_inverse_10 : decode cX7_inverse 10 = .ok (.lconst 1, 1) := by decide +kernel
theorem dX7_inverse_11 : decode cX7_inverse 11 = .ok (.lstore 8, 2) := by decide +kernel
theorem dX7_inverse_13 : decode cX7_inverse 13 = .ok (.lload 4, 2) := by decide +kernel
theorem dX7_inverse_15 : decode cX7_inverse 15 = .ok (.lconst 0, 1) := by decide +kernel
theorem dX7_inverse_16 : decode cX7_inverse 16 = .ok (.lcmp, 1) := by decide +kernel
theorem dX7_inverse_17 : decode cX7_inverse 17 = .ok (.ifCond .eq 54, 3) := by decide +kernel
theorem dX7_inverse_20 : decode cX7_inverse 20 = .ok (.lload_n 2, 1) := by decide +kernel
theorem dX7_inverse_21 : decode cX7_inverse 21 = .ok (.lload 4, 2) := by decide +kernel
theorem dX7_inverse_23 : decode cX7_inverse 23 = .ok (.ldiv, 1) := by decide +kernel
theorem dX7_inverse_24 : decode cX7_inverse 24 = .ok (.lstore 10, 2) := by decide +kernel
theorem dX7_inverse_26 : decode cX7_inverse 26 = .ok (.lload_n 2, 1) := by decide +kernel
theorem dX7_inverse_27 : decode cX7_inverse 27 = .ok (.lload 10, 2) := by decide +kernel
theorem dX7_inverse_29 : decode cX7_inverse 29 = .ok (.lload 4, 2) := by decide +kernel
theorem dX7_inverse_31 : decode cX7_inverse 31 = .ok (.lmul, 1) := by decide +kernel
theorem dX7_inverse_32 : decode cX7_inverse 32 = .ok (.lsub, 1) := by decide +kernel
theorem dX7_inverse_33 : decode cX7_inverse 33 = .ok (.lstore 12, 2) := by decide +kernel
theorem dX7_inverse_35 : decode cX7_inverse 35 = .ok (.lload 6, 2) := by decide +kernel
theorem dX7_inverse_37 : decode cX7_inverse 37 = .ok (.lload 10, 2) := by decide +kernel
theorem dX7_inverse_39 : decode cX7_inverse 39 = .ok (.invokestatic 39, 3) := by decide +kernel
theorem dX7_inverse_42 : decode cX7_inverse 42 = .ok (.lload 8, 2) := by decide +kernel
theorem dX7_inverse_44 : decode cX7_inverse 44 = .ok (.invokestatic 43, 3) := by decide +kernel
theorem dX7_inverse_47 : decode cX7_inverse 47 = .ok (.lsub, 1) := by decide +kernel
theorem dX7_inverse_48 : decode cX7_inverse 48 = .ok (.invokestatic 39, 3) := by decide +kernel
theorem dX7_inverse_51 : decode cX7_inverse 51 = .ok (.lstore 14, 2) := by decide +kernel
theorem dX7_inverse_53 : decode cX7_inverse 53 = .ok (.lload 4, 2) := by decide +kernel
theorem dX7_inverse_55 : decode cX7_inverse 55 = .ok (.lstore_n 2, 1) := by decide +kernel
theorem dX7_inverse_56 : decode cX7_inverse 56 = .ok (.lload 12, 2) := by decide +kernel
theorem dX7_inverse_58 : decode cX7_inverse 58 = .ok (.lstore 4, 2) := by decide +kernel
theorem dX7_inverse_60 : decode cX7_inverse 60 = .ok (.lload 8, 2) := by decide +kernel
theorem dX7_inverse_62 : decode cX7_inverse 62 = .ok (.lstore 6, 2) := by decide +kernel
theorem dX7_inverse_64 : decode cX7_inverse 64 = .ok (.lload 14, 2) := by decide +kernel
theorem dX7_inverse_66 : decode cX7_inverse 66 = .ok (.lstore 8, 2) := by decide +kernel
theorem dX7_inverse_68 : decode cX7_inverse 68 = .ok (.goto (-55), 3) := by decide +kernel
theorem dX7_inverse_71 : decode cX7_inverse 71 = .ok (.lload 6, 2) := by decide +kernel
theorem dX7_inverse_73 : decode cX7_inverse 73 = .ok (.lreturn, 1) := by decide +kernel
set_option maxRecDepth 20000 in
theorem ggX7_operate_X7_modulo : GoodIn wsX7_operate wsX7_modulo := goodIn_r _ [4, 5] (by decide +kernel) (by decide +kernel)
set_option maxRecDepth 20000 in
theorem gX7_operate_X7_modulo : GoodIn wsX7_operate (va_wsS RX7 39 yX7_modulo wsX7_modulo) := goodIn_app (goodIn_of _ (by decide +kernel)) ggX7_operate_X7_modulo
set_option maxRecDepth 20000 in
theorem ggX7_operate_X7_inverse : GoodIn wsX7_operate wsX7_inverse := goodIn_r _ [8, 5, 1, 2, 3, 4, 9, 10, 11] (by decide +kernel) (by decide +kernel)
set_option maxRecDepth 20000 in
theorem gX7_operate_X7_inverse : GoodIn wsX7_operate (va_wsS RX7 47 yX7_inverse wsX7_inverse) := goodIn_app (goodIn_of _ (by decide +kernel)) ggX7_operate_X7_inverse
set_option maxRecDepth 20000 in
theorem ggX7_operate_X7_product : GoodIn wsX7_operate wsX7_product := goodIn_r _ [11, 5] (by decide +kernel) (by decide +kernel)
set_option maxRecDepth 20000 in
theorem gX7_operate_X7_product : GoodIn wsX7_operate (va_wsS RX7 43 yX7_product wsX7_product) := goodIn_app (goodIn_of _ (by decide +kernel)) ggX7_operate_X7_product
theorem dX7_operate_0 : decode cX7_operate 0 = .ok (.iload_n 0, 1) := by decide +kernel
theorem dX7_operate_1 : decode cX7_operate 1 = .ok (.ifCond .ne 10, 3) := by decide +kernel
theorem dX7_operate_4 : decode cX7_operate 4 = .ok (.lload_n 1, 1) := by decide +kernel
theorem dX7_operate_5 : decode cX7_operate 5 = .ok (.lload_n 3, 1) := by decide +kernel
theorem dX7_operate_6 : decode cX7_operate 6 = .ok (.ladd, 1) := by decide +kernel
theorem dX7_operate_7 : decode cX7_operate 7 = .ok (.invokestatic 39, 3) := by decide +kernel
theorem dX7_operate_10 : decode cX7_operate 10 = .ok (.lreturn, 1) := by decide +kernel
theorem dX7_operate_11 : decode cX7_operate 11 = .ok (.iload_n 0, 1) := by decide +kernel
theorem dX7_operate_12 : decode cX7_operate 12 = .ok (.iconst 1, 1) := by decide +kernel
theorem dX7_operate_13 : decode cX7_operate 13 = .ok (.if_icmp .ne 10, 3) := by decide +kernel
theorem dX7_operate_16 : decode cX7_operate 16 = .ok (.lload_n 1, 1) := by decide +kernel
theorem dX7_operate_17 : decode cX7_operate 17 = .ok (.lload_n 3, 1) := by decide +kernel
theorem dX7_operate_18 : decode cX7_operate 18 = .ok (.lsub, 1) := by decide +kernel
theorem dX7_operate_19 : decode cX7_operate 19 = .ok (.invokestatic 39, 3) := by decide +kernel
theorem dX7_operate_22 : decode cX7_operate 22 = .ok (.lreturn, 1) := by decide +kernel
theorem dX7_operate_23 : decode cX7_operate 23 = .ok (.lload_n 1, 1) := by decide +kernel
theorem dX7_operate_24 : decode cX7_operate 24 = .ok (.iload_n 0, 1) := by decide +kernel
theorem dX7_operate_25 : decode cX7_operate 25 = .ok (.iconst 2, 1) := by decide +kernel
theorem dX7_operate_26 : decode cX7_operate 26 = .ok (.if_icmp .ne 7, 3) := by decide +kernel
theorem dX7_operate_29 : decode cX7_operate 29 = .ok (.lload_n 3, 1) := by decide +kernel
theorem dX7_operate_30 : decode cX7_operate 30 = .ok (.goto 7, 3) := by decide +kernel
theorem dX7_operate_33 : decode cX7_operate 33 = .ok (.lload_n 3, 1) := by decide +kernel
theorem dX7_operate_34 : decode cX7_operate 34 = .ok (.invokestatic 47, 3) := by decide +kernel
theorem dX7_operate_37 : decode cX7_operate 37 = .ok (.invokestatic 43, 3) := by decide +kernel
theorem dX7_operate_40 : decode cX7_operate 40 = .ok (.lreturn, 1) := by decide +kernel
theorem dX7_keep_0 : decode cX7_keep 0 = .ok (.aload_n 0, 1) := by decide +kernel
theorem dX7_keep_1 : decode cX7_keep 1 = .ok (.getfield 21, 3) := by decide +kernel
theorem dX7_keep_4 : decode cX7_keep 4 = .ok (.iload_n 1, 1) := by decide +kernel
theorem dX7_keep_5 : decode cX7_keep 5 = .ok (.aload_n 0, 1) := by decide +kernel
theorem dX7_keep_6 : decode cX7_keep 6 = .ok (.getfield 50, 3) := by decide +kernel
theorem dX7_keep_9 : decode cX7_keep 9 = .ok (.iastore, 1) := by decide +kernel
theorem dX7_keep_10 : decode cX7_keep 10 = .ok (.aload_n 0, 1) := by decide +kernel
theorem dX7_keep_11 : decode cX7_keep 11 = .ok (.getfield 24, 3) := by decide +kernel
theorem dX7_keep_14 : decode cX7_keep 14 = .ok (.iload_n 1, 1) := by decide +kernel
theorem dX7_keep_15 : decode cX7_keep 15 = .ok (.aload_n 0, 1) := by decide +kernel
theorem dX7_keep_16 : decode cX7_keep 16 = .ok (.getfield 53, 3) := by decide +kernel
theorem dX7_keep_19 : decode cX7_keep 19 = .ok (.lastore, 1) := by decide +kernel
theorem dX7_keep_20 : decode cX7_keep 20 = .ok (.return_, 1) := by decide +kernel
theorem dX7_give_0 : decode cX7_give 0 = .ok (.aload_n 0, 1) := by decide +kernel
theorem dX7_give_1 : decode cX7_give 1 = .ok (.iconst 1, 1) := by decide +kernel
theorem dX7_give_2 : decode cX7_give 2 = .ok (.putfield 57, 3) := by decide +kernel
theorem dX7_give_5 : decode cX7_give 5 = .ok (.aload_n 0, 1) := by decide +kernel
theorem dX7_give_6 : decode cX7_give 6 = .ok (.iload_n 1, 1) := by decide +kernel
theorem dX7_give_7 : decode cX7_give 7 = .ok (.putfield 50, 3) := by decide +kernel
theorem dX7_give_10 : decode cX7_give 10 = .ok (.aload_n 0, 1) := by decide +kernel
theorem dX7_give_11 : decode cX7_give 11 = .ok (.lload_n 2, 1) := by decide +kernel
theorem dX7_give_12 : decode cX7_give 12 = .ok (.putfield 53, 3) := by decide +kernel
theorem dX7_give_15 : decode cX7_give 15 = .ok (.return_, 1) := by decide +kernel
set_option maxRecDepth 20000 in
theorem ggX7_further_X7_give : GoodIn wsX7_further wsX7_give := goodIn_r _ [11, 6, 12, 3, 13, 14, 15, 16, 17, 18, 19, 20, 21, 22, 23, 24, 25, 26, 27] (by decide +kernel) (by decide +kernel)
set_option maxRecDepth 20000 in
theorem gX7_further_X7_give : GoodIn wsX7_further (wsV RX7 61 RX7 yX7_give wsX7_give) := goodIn_app (goodIn_of _ (by decide +kernel)) ggX7_further_X7_give
theorem dX7_further_0 : decode cX7_further 0 = .ok (.aload_n 0, 1) := by decide +kernel
theorem dX7_further_1 : decode cX7_further 1 = .ok (.aload_n 0, 1) := by decide +kernel
theorem dX7_further_2 : decode cX7_further 2 = .ok (.getfield 21, 3) := by decide +kernel
theorem dX7_further_5 : decode cX7_further 5 = .ok (.iload_n 1, 1) := by decide +kernel
theorem dX7_further_6 : decode cX7_further 6 = .ok (.iaload, 1) := by decide +kernel
theorem dX7_further_7 : decode cX7_further 7 = .ok (.aload_n 0, 1) := by decide +kernel
theorem dX7_further_8 : decode cX7_further 8 = .ok (.getfield 24, 3) := by decide +kernel
theorem dX7_further_11 : decode cX7_further 11 = .ok (.iload_n 1, 1) := by decide +kernel
theorem dX7_further_12 : decode cX7_further 12 = .ok (.laload, 1) := by decide +kernel
theorem dX7_further_13 : decode cX7_further 13 = .ok (.lload_n 2, 1) := by decide +kernel
theorem dX7_further_14 : decode cX7_further 14 = .ok (.ladd, 1) := by decide +kernel
theorem dX7_further_15 : decode cX7_further 15 = .ok (.invokevirtual 61, 3) := by decide +kernel
theorem dX7_further_18 : decode cX7_further 18 = .ok (.aload_n 0, 1) := by decide +kernel
theorem dX7_further_19 : decode cX7_further 19 = .ok (.aload_n 0, 1) := by decide +kernel
theorem dX7_further_20 : decode cX7_further 20 = .ok (.getfield 53, 3) := by decide +kernel
theorem dX7_further_23 : decode cX7_further 23 = .ok (.ldc2_w 65, 3) := by decide +kernel
theorem dX7_further_26 : decode cX7_further 26 = .ok (.lcmp, 1) := by decide +kernel
theorem dX7_further_27 : decode cX7_further 27 = .ok (.ifCond .lt 18, 3) := by decide +kernel
theorem dX7_further_30 : decode cX7_further 30 = .ok (.aload_n 0, 1) := by decide +kernel
theorem dX7_further_31 : decode cX7_further 31 = .ok (.getfield 53, 3) := by decide +kernel
theorem dX7_further_34 : decode cX7_further 34 = .ok (.ldc2_w 67, 3) := by decide +kernel
theorem dX7_further_37 : decode cX7_further 37 = .ok (.lcmp, 1) := by decide +kernel
theorem dX7_further_38 : decode cX7_further 38 = .ok (.ifCond .gt 7, 3) := by decide +kernel
theorem dX7_further_41 : decode cX7_further 41 = .ok (.iconst 1, 1) := by decide +kernel
theorem dX7_further_42 : decode cX7_further 42 = .ok (.goto 4, 3) := by decide +kernel
theorem dX7_further_45 : decode cX7_further 45 = .ok (.iconst 0, 1) := by decide +kernel
theorem dX7_further_46 : decode cX7_further 46 = .ok (.putfield 57, 3) := by decide +kernel
theorem dX7_further_49 : decode cX7_further 49 = .ok (.return_, 1) := by decide +kernel
set_option maxRecDepth 20000 in
theorem ggX7_stepped_X7_further : GoodIn wsX7_stepped wsX7_further := goodIn_r _ [9, 10, 11, 12, 13, 1, 4, 14, 15, 16, 8, 17, 18, 19, 20, 21, 22, 23, 24, 25, 26, 27, 28, 29, 30, 31, 32, 33] (by decide +kernel) (by decide +kernel)
set_option maxRecDepth 20000 in
theorem gX7_stepped_X7_further : GoodIn wsX7_stepped (wsV RX7 71 RX7 yX7_further wsX7_further) := goodIn_app (goodIn_of _ (by decide +kernel)) ggX7_stepped_X7_further
theorem dX7_stepped_0 : decode cX7_stepped 0 = .ok (.lload_n 2, 1) := by decide +kernel
theorem dX7_stepped_1 : decode cX7_stepped 1 = .ok (.ldc2_w 67, 3) := by decide +kernel
theorem dX7_stepped_4 : decode cX7_stepped 4 = .ok (.lcmp, 1) := by decide +kernel
theorem dX7_stepped_5 : decode cX7_stepped 5 = .ok (.ifCond .le 11, 3) := by decide +kernel
theorem dX7_stepped_8 : decode cX7_stepped 8 = .ok (.lload_n 2, 1) := by decide +kernel
theorem dX7_stepped_9 : decode cX7_stepped 9 = .ok (.ldc2_w 69, 3) := by decide +kernel
theorem dX7_stepped_12 : decode cX7_stepped 12 = .ok (.lcmp, 1) := by decide +kernel
theorem dX7_stepped_13 : decode cX7_stepped 13 = .ok (.ifCond .lt 7, 3) := by decide +kernel
theorem dX7_stepped_16 : decode cX7_stepped 16 = .ok (.iconst 1, 1) := by decide +kernel
theorem dX7_stepped_17 : decode cX7_stepped 17 = .ok (.goto 4, 3) := by decide +kernel
theorem dX7_stepped_20 : decode cX7_stepped 20 = .ok (.iconst 0, 1) := by decide +kernel
theorem dX7_stepped_21 : decode cX7_stepped 21 = .ok (.istore 5, 2) := by decide +kernel
theorem dX7_stepped_23 : decode cX7_stepped 23 = .ok (.lload_n 2, 1) := by decide +kernel
theorem dX7_stepped_24 : decode cX7_stepped 24 = .ok (.ldc2_w 67, 3) := by decide +kernel
theorem dX7_stepped_27 : decode cX7_stepped 27 = .ok (.lcmp, 1) := by decide +kernel
theorem dX7_stepped_28 : decode cX7_stepped 28 = .ok (.ifCond .gt 7, 3) := by decide +kernel
theorem dX7_stepped_31 : decode cX7_stepped 31 = .ok (.lload_n 2, 1) := by decide +kernel
theorem dX7_stepped_32 : decode cX7_stepped 32 = .ok (.goto 8, 3) := by decide +kernel
theorem dX7_stepped_35 : decode cX7_stepped 35 = .ok (.lload_n 2, 1) := by decide +kernel
theorem dX7_stepped_36 : decode cX7_stepped 36 = .ok (.ldc2_w 37, 3) := by decide +kernel
theorem dX7_stepped_39 : decode cX7_stepped 39 = .ok (.lsub, 1) := by decide +kernel
theorem dX7_stepped_40 : decode cX7_stepped 40 = .ok (.lstore 6, 2) := by decide +kernel
theorem dX7_stepped_42 : decode cX7_stepped 42 = .ok (.aload_n 0, 1) := by decide +kernel
theorem dX7_stepped_43 : decode cX7_stepped 43 = .ok (.iload_n 1, 1) := by decide +kernel
theorem dX7_stepped_44 : decode cX7_stepped 44 = .ok (.iload 5, 2) := by decide +kernel
theorem dX7_stepped_46 : decode cX7_stepped 46 = .ok (.ifCond .ne 7, 3) := by decide +kernel
theorem dX7_stepped_49 : decode cX7_stepped 49 = .ok (.lconst 0, 1) := by decide +kernel
theorem dX7_stepped_50 : decode cX7_stepped 50 = .ok (.goto 16, 3) := by decide +kernel
theorem dX7_stepped_53 : decode cX7_stepped 53 = .ok (.iload 4, 2) := by decide +kernel
theorem dX7_stepped_55 : decode cX7_stepped 55 = .ok (.ifCond .eq 9, 3) := by decide +kernel
theorem dX7_stepped_58 : decode cX7_stepped 58 = .ok (.lload 6, 2) := by decide +kernel
theorem dX7_stepped_60 : decode cX7_stepped 60 = .ok (.lneg, 1) := by decide +kernel
theorem dX7_stepped_61 : decode cX7_stepped 61 = .ok (.goto 5, 3) := by decide +kernel
theorem dX7_stepped_64 : decode cX7_stepped 64 = .ok (.lload 6, 2) := by decide +kernel
theorem dX7_stepped_66 : decode cX7_stepped 66 = .ok (.invokevirtual 71, 3) := by decide +kernel
theorem dX7_stepped_69 : decode cX7_stepped 69 = .ok (.aload_n 0, 1) := by decide +kernel
theorem dX7_stepped_70 : decode cX7_stepped 70 = .ok (.aload_n 0, 1) := by decide +kernel
theorem dX7_stepped_71 : decode cX7_stepped 71 = .ok (.getfield 57, 3) := by decide +kernel
theorem dX7_stepped_74 : decode cX7_stepped 74 = .ok (.ifCond .eq 12, 3) := by decide +kernel
theorem dX7_stepped_77 : decode cX7_stepped 77 = .ok (.iload 5, 2) := by decide +kernel
theorem dX7_stepped_79 : decode cX7_stepped 79 = .ok (.ifCond .eq 7, 3) := by decide +kernel
theorem dX7_stepped_82 : decode cX7_stepped 82 = .ok (.iconst 1, 1) := by decide +kernel
theorem dX7_stepped_83 : decode cX7_stepped 83 = .ok (.goto 4, 3) := by decide +kernel
theorem dX7_stepped_86 : decode cX7_stepped 86 = .ok (.iconst 0, 1) := by decide +kernel
theorem dX7_stepped_87 : decode cX7_stepped 87 = .ok (.putfield 57, 3) := by decide +kernel
theorem dX7_stepped_90 : decode cX7_stepped 90 = .ok (.return_, 1) := by decide +kernel
set_option maxRecDepth 20000 in
theorem ggX7_plus_X7_operate : GoodIn wsX7_plus wsX7_operate := goodIn_r _ [7, 8, 9, 6, 10, 11, 12, 13, 14, 15, 16, 17] (by decide +kernel) (by decide +kernel)
set_option maxRecDepth 20000 in
theorem gX7_plus_X7_operate : GoodIn wsX7_plus (va_wsS RX7 74 yX7_operate wsX7_operate) := goodIn_app (goodIn_of _ (by decide +kernel)) ggX7_plus_X7_operate
set_option maxRecDepth 20000 in
theorem ggX7_plus_X7_give : GoodIn wsX7_plus wsX7_give := goodIn_r _ [21, 3, 22, 23, 35, 36, 37, 38, 39, 40, 41, 42, 43, 44, 45, 46, 47, 48, 49] (by decide +kernel) (by decide +kernel)
set_option maxRecDepth 20000 in
theorem gX7_plus_X7_give : GoodIn wsX7_plus (wsV RX7 61 RX7 yX7_give wsX7_give) := goodIn_app (goodIn_of _ (by decide +kernel)) ggX7_plus_X7_give
set_option maxRecDepth 20000 in
theorem ggX7_plus_X7_stepped : GoodIn wsX7_plus wsX7_stepped := goodIn_r _ [27, 28, 29, 11, 3, 30, 31, 32, 6, 33, 1, 2, 23, 34, 18, 19, 20, 21, 22, 35, 36, 37, 38, 39, 40, 41, 42, 43, 44, 45, 46, 47, 48, 49] (by decide +kernel) (by decide +kernel)
set_option maxRecDepth 20000 in
theorem gX7_plus_X7_stepped : GoodIn wsX7_plus (wsV RX7 78 RX7 yX7_stepped wsX7_stepped) := goodIn_app (goodIn_of _ (by decide +kernel)) ggX7_plus_X7_stepped
theorem dX7_plus_0 : decode cX7_plus 0 = .ok (.aload_n 0, 1) := by decide +kernel
theorem dX7_plus_1 : decode cX7_plus 1 = .ok (.getfield 21, 3) := by decide +kernel
theorem dX7_plus_4 : decode cX7_plus 4 = .ok (.iload_n 1, 1) := by decide +kernel
theorem dX7_plus_5 : decode cX7_plus 5 = .ok (.iaload, 1) := by decide +kernel
theorem dX7_plus_6 : decode cX7_plus 6 = .ok (.ifCond .ne 36, 3) := by decide +kernel
theorem dX7_plus_9 : decode cX7_plus 9 = .ok (.aload_n 0, 1) := by decide +kernel
theorem dX7_plus_10 : decode cX7_plus 10 = .ok (.getfield 21, 3) := by decide +kernel
theorem dX7_plus_13 : decode cX7_plus 13 = .ok (.iload_n 2, 1) := by decide +kernel
theorem dX7_plus_14 : decode cX7_plus 14 = .ok (.iaload, 1) := by decide +kernel
theorem dX7_plus_15 : decode cX7_plus 15 = .ok (.ifCond .ne 27, 3) := by decide +kernel
theorem dX7_plus_18 : decode cX7_plus 18 = .ok (.aload_n 0, 1) := by decide +kernel
theorem dX7_plus_19 : decode cX7_plus 19 = .ok (.iconst 0, 1) := by decide +kernel
theorem dX7_plus_20 : decode cX7_plus 20 = .ok (.iconst 0, 1) := by decide +kernel
theorem dX7_plus_21 : decode cX7_plus 21 = .ok (.aload_n 0, 1) := by decide +kernel
theorem dX7_plus_22 : decode cX7_plus 22 = .ok (.getfield 24, 3) := by decide +kernel
theorem dX7_plus_25 : decode cX7_plus 25 = .ok (.iload_n 1, 1) := by decide +kernel
theorem dX7_plus_26 : decode cX7_plus 26 = .ok (.laload, 1) := by decide +kernel
theorem dX7_plus_27 : decode cX7_plus 27 = .ok (.aload_n 0, 1) := by decide +kernel
theorem dX7_plus_28 : decode cX7_plus 28 = .ok (.getfield 24, 3) := by decide +kernel
theorem dX7_plus_31 : decode cX7_plus 31 = .ok (.iload_n 2, 1) := by decide +kernel
theorem dX7_plus_32 : decode cX7_plus 32 = .ok (.laload, 1) := by decide +kernel
theorem dX7_plus_33 : decode cX7_plus 33 = .ok (.invokestatic 74, 3) := by decide +kernel
theorem dX7_plus_36 : decode cX7_plus 36 = .ok (.invokevirtual 61, 3) := by decide +kernel
theorem dX7_plus_39 : decode cX7_plus 39 = .ok (.goto 65, 3) := by decide +kernel
theorem dX7_plus_42 : decode cX7_plus 42 = .ok (.aload_n 0, 1) := by decide +kernel
theorem dX7_plus_43 : decode cX7_plus 43 = .ok (.getfield 21, 3) := by decide +kernel
theorem dX7_plus_46 : decode cX7_plus 46 = .ok (.iload_n 1, 1) := by decide +kernel
theorem dX7_plus_47 : decode cX7_plus 47 = .ok (.iaload, 1) := by decide +kernel
theorem dX7_plus_48 : decode cX7_plus 48 = .ok (.ifCond .eq 20, 3) := by decide +kernel
theorem dX7_plus_51 : decode cX7_plus 51 = .ok (.aload_n 0, 1) := by decide +kernel
theorem dX7_plus_52 : decode cX7_plus 52 = .ok (.getfield 21, 3) := by decide +kernel
theorem dX7_plus_55 : decode cX7_plus 55 = .ok (.iload_n 2, 1) := by decide +kernel
theorem dX7_plus_56 : decode cX7_plus 56 = .ok (.iaload, 1) := by decide +kernel
theorem dX7_plus_57 : decode cX7_plus 57 = .ok (.ifCond .eq 11, 3) := by decide +kernel
theorem dX7_plus_60 : decode cX7_plus 60 = .ok (.aload_n 0, 1) := by decide +kernel
theorem dX7_plus_61 : decode cX7_plus 61 = .ok (.iconst 0, 1) := by decide +kernel
theorem dX7_plus_62 : decode cX7_plus 62 = .ok (.putfield 57, 3) := by decide +kernel
theorem dX7_plus_65 : decode cX7_plus 65 = .ok (.goto 39, 3) := by decide +kernel
theorem dX7_plus_68 : decode cX7_plus 68 = .ok (.aload_n 0, 1) := by decide +kernel
theorem dX7_plus_69 : decode cX7_plus 69 = .ok (.getfield 21, 3) := by decide +kernel
theorem dX7_plus_72 : decode cX7_plus 72 = .ok (.iload_n 1, 1) := by decide +kernel
theorem dX7_plus_73 : decode cX7_plus 73 = .ok (.iaload, 1) := by decide +kernel
theorem dX7_plus_74 : decode cX7_plus 74 = .ok (.ifCond .eq 18, 3) := by decide +kernel
theorem dX7_plus_77 : decode cX7_plus 77 = .ok (.aload_n 0, 1) := by decide +kernel
theorem dX7_plus_78 : decode cX7_plus 78 = .ok (.iload_n 1, 1) := by decide +kernel
theorem dX7_plus_79 : decode cX7_plus 79 = .ok (.aload_n 0, 1) := by decide +kernel
theorem dX7_plus_80 : decode cX7_plus 80 = .ok (.getfield 24, 3) := by decide +kernel
theorem dX7_plus_83 : decode cX7_plus 83 = .ok (.iload_n 2, 1) := by decide +kernel
theorem dX7_plus_84 : decode cX7_plus 84 = .ok (.laload, 1) := by decide +kernel
theorem dX7_plus_85 : decode cX7_plus 85 = .ok (.iconst 0, 1) := by decide +kernel
theorem dX7_plus_86 : decode cX7_plus 86 = .ok (.invokevirtual 78, 3) := by decide +kernel
theorem dX7_plus_89 : decode cX7_plus 89 = .ok (.goto 15, 3) := by decide +kernel
theorem dX7_plus_92 : decode cX7_plus 92 = .ok (.aload_n 0, 1) := by decide +kernel
theorem dX7_plus_93 : decode cX7_plus 93 = .ok (.iload_n 2, 1) := by decide +kernel
theorem dX7_plus_94 : decode cX7_plus 94 = .ok (.aload_n 0, 1) := by decide +kernel
theorem dX7_plus_95 : decode cX7_plus 95 = .ok (.getfield 24, 3) := by decide +kernel
theorem dX7_plus_98 : decode cX7_plus 98 = .ok (.iload_n 1, 1) := by decide +kernel
theorem dX7_plus_99 : decode cX7_plus 99 = .ok (.laload, 1) := by decide +kernel
theorem dX7_plus_100 : decode cX7_plus 100 = .ok (.iconst 0, 1) := by decide +kernel
theorem dX7_plus_101 : decode cX7_plus 101 = .ok (.invokevirtual 78, 3) := by decide +kernel
theorem dX7_plus_104 : decode cX7_plus 104 = .ok (.return_, 1) := by decide +kernel
set_option maxRecDepth 20000 in
theorem ggX7_minus_X7_operate : GoodIn wsX7_minus wsX7_operate := goodIn_r _ [7, 8, 9, 6, 10, 11, 12, 13, 14, 15, 16, 17] (by decide +kernel) (by decide +kernel)
set_option maxRecDepth 20000 in
theorem gX7_minus_X7_operate : GoodIn wsX7_minus (va_wsS RX7 74 yX7_operate wsX7_operate) := goodIn_app (goodIn_of _ (by decide +kernel)) ggX7_minus_X7_operate
set_option maxRecDepth 20000 in
theorem ggX7_minus_X7_give : GoodIn wsX7_minus wsX7_give := goodIn_r _ [21, 3, 22, 23, 35, 36, 37, 38, 39, 40, 41, 42, 43, 44, 45, 46, 47, 48, 49] (by decide +kernel) (by decide +kernel)
set_option maxRecDepth 20000 in
theorem gX7_minus_X7_give : GoodIn wsX7_minus (wsV RX7 61 RX7 yX7_give wsX7_give) := goodIn_app (goodIn_of _ (by decide +kernel)) ggX7_minus_X7_give
set_option maxRecDepth 20000 in
theorem ggX7_minus_X7_stepped : GoodIn wsX7_minus wsX7_stepped := goodIn_r _ [27, 28, 29, 11, 3, 30, 31, 32, 6, 33, 1, 2, 23, 34, 18, 19, 20, 21, 22, 35, 36, 37, 38, 39, 40, 41, 42, 43, 44, 45, 46, 47, 48, 49] (by decide +kernel) (by decide +kernel)
set_option maxRecDepth 20000 in
theorem gX7_minus_X7_stepped : GoodIn wsX7_minus (wsV RX7 78 RX7 yX7_stepped wsX7_stepped) := goodIn_app (goodIn_of _ (by decide +kernel)) ggX7_minus_X7_stepped
theorem dX7_minus_0 : decode cX7_minus 0 = .ok (.aload_n 0, 1) := by decide +kernel
theorem dX7_minus_1 : decode cX7_minus 1 = .ok (.getfield 21, 3) := by decide +kernel
theorem dX7_minus_4 : decode cX7_minus 4 = .ok (.iload_n 1, 1) := by decide +kernel
theorem dX7_minus_5 : decode cX7_minus 5 = .ok (.iaload, 1) := by decide +kernel
theorem dX7_minus_6 : decode cX7_minus 6 = .ok (.aload_n 0, 1) := by decide +kernel
theorem dX7_minus_7 : decode cX7_minus 7 = .ok (.getfield 21, 3) := by decide +kernel
theorem dX7_minus_10 : decode cX7_minus 10 = .ok (.iload_n 2, 1) := by decide +kernel
theorem dX7_minus_11 : decode cX7_minus 11 = .ok (.iaload, 1) := by decide +kernel
theorem dX7_minus_12 : decode cX7_minus 12 = .ok (.if_icmp .ne 27, 3) := by decide +kernel
theorem dX7_minus_15 : decode cX7_minus 15 = .ok (.aload_n 0, 1) := by decide +kernel
theorem dX7_minus_16 : decode cX7_minus 16 = .ok (.iconst 0, 1) := by decide +kernel
theorem dX7_minus_17 : decode cX7_minus 17 = .ok (.iconst 1, 1) := by decide +kernel
theorem dX7_minus_18 : decode cX7_minus 18 = .ok (.aload_n 0, 1) := by decide +kernel
theorem dX7_minus_19 : decode cX7_minus 19 = .ok (.getfield 24, 3) := by decide +kernel
theorem dX7_minus_22 : decode cX7_minus 22 = .ok (.iload_n 1, 1) := by decide +kernel
theorem dX7_minus_23 : decode cX7_minus 23 = .ok (.laload, 1) := by decide +kernel
theorem dX7_minus_24 : decode cX7_minus 24 = .ok (.aload_n 0, 1) := by decide +kernel
theorem dX7_minus_25 : decode cX7_minus 25 = .ok (.getfield 24, 3) := by decide +kernel
theorem dX7_minus_28 : decode cX7_minus 28 = .ok (.iload_n 2, 1) := by decide +kernel
theorem dX7_minus_29 : decode cX7_minus 29 = .ok (.laload, 1) := by decide +kernel
theorem dX7_minus_30 : decode cX7_minus 30 = .ok (.invokestatic 74, 3) := by decide +kernel
theorem dX7_minus_33 : decode cX7_minus 33 = .ok (.invokevirtual 61, 3) := by decide +kernel
theorem dX7_minus_36 : decode cX7_minus 36 = .ok (.goto 32, 3) := by decide +kernel
theorem dX7_minus_39 : decode cX7_minus 39 = .ok (.aload_n 0, 1) := by decide +kernel
theorem dX7_minus_40 : decode cX7_minus 40 = .ok (.getfield 21, 3) := by decide +kernel
theorem dX7_minus_43 : decode cX7_minus 43 = .ok (.iload_n 2, 1) := by decide +kernel
theorem dX7_minus_44 : decode cX7_minus 44 = .ok (.iaload, 1) := by decide +kernel
theorem dX7_minus_45 : decode cX7_minus 45 = .ok (.ifCond .ne 18, 3) := by decide +kernel
theorem dX7_minus_48 : decode cX7_minus 48 = .ok (.aload_n 0, 1) := by decide +kernel
theorem dX7_minus_49 : decode cX7_minus 49 = .ok (.iload_n 1, 1) := by decide +kernel
theorem dX7_minus_50 : decode cX7_minus 50 = .ok (.aload_n 0, 1) := by decide +kernel
theorem dX7_minus_51 : decode cX7_minus 51 = .ok (.getfield 24, 3) := by decide +kernel
theorem dX7_minus_54 : decode cX7_minus 54 = .ok (.iload_n 2, 1) := by decide +kernel
theorem dX7_minus_55 : decode cX7_minus 55 = .ok (.laload, 1) := by decide +kernel
theorem dX7_minus_56 : decode cX7_minus 56 = .ok (.iconst 1, 1) := by decide +kernel
theorem dX7_minus_57 : decode cX7_minus 57 = .ok (.invokevirtual 78, 3) := by decide +kernel
theorem dX7_minus_60 : decode cX7_minus 60 = .ok (.goto 8, 3) := by decide +kernel
theorem dX7_minus_63 : decode cX7_minus 63 = .ok (.aload_n 0, 1) := by decide +kernel
theorem dX7_minus_64 : decode cX7_minus 64 = .ok (.iconst 0, 1) := by decide +kernel
theorem dX7_minus_65 : decode cX7_minus 65 = .ok (.putfield 57, 3) := by decide +kernel
theorem dX7_minus_68 : decode cX7_minus 68 = .ok (.return_, 1) := by decide +kernel
set_option maxRecDepth 20000 in
theorem ggX7_times_X7_operate : GoodIn wsX7_times wsX7_operate := goodIn_r _ [7, 8, 9, 6, 10, 11, 12, 13, 14, 15, 16, 17] (by decide +kernel) (by decide +kernel)
set_option maxRecDepth 20000 in
theorem gX7_times_X7_operate : GoodIn wsX7_times (va_wsS RX7 74 yX7_operate wsX7_operate) := goodIn_app (goodIn_of _ (by decide +kernel)) ggX7_times_X7_operate
set_option maxRecDepth 20000 in
theorem ggX7_times_X7_give : GoodIn wsX7_times wsX7_give := goodIn_r _ [21, 3, 22, 23, 24, 25, 26, 27, 28, 29, 30, 31, 32, 33, 34, 35, 36, 37, 38] (by decide +kernel) (by decide +kernel)
set_option maxRecDepth 20000 in
theorem gX7_times_X7_give : GoodIn wsX7_times (wsV RX7 61 RX7 yX7_give wsX7_give) := goodIn_app (goodIn_of _ (by decide +kernel)) ggX7_times_X7_give
theorem dX7_times_0 : decode cX7_times 0 = .ok (.aload_n 0, 1) := by decide +kernel
theorem dX7_times_1 : decode cX7_times 1 = .ok (.aload_n 0, 1) := by decide +kernel
theorem dX7_times_2 : decode cX7_times 2 = .ok (.getfield 21, 3) := by decide +kernel
theorem dX7_times_5 : decode cX7_times 5 = .ok (.iload_n 1, 1) := by decide +kernel
theorem dX7_times_6 : decode cX7_times 6 = .ok (.iaload, 1) := by decide +kernel
theorem dX7_times_7 : decode cX7_times 7 = .ok (.ifCond .ne 31, 3) := by decide +kernel
theorem dX7_times_10 : decode cX7_times 10 = .ok (.aload_n 0, 1) := by decide +kernel
theorem dX7_times_11 : decode cX7_times 11 = .ok (.getfield 21, 3) := by decide +kernel
theorem dX7_times_14 : decode cX7_times 14 = .ok (.iload_n 2, 1) := by decide +kernel
theorem dX7_times_15 : decode cX7_times 15 = .ok (.iaload, 1) := by decide +kernel
theorem dX7_times_16 : decode cX7_times 16 = .ok (.ifCond .ne 22, 3) := by decide +kernel
theorem dX7_times_19 : decode cX7_times 19 = .ok (.iload_n 3, 1) := by decide +kernel
theorem dX7_times_20 : decode cX7_times 20 = .ok (.ifCond .eq 14, 3) := by decide +kernel
theorem dX7_times_23 : decode cX7_times 23 = .ok (.aload_n 0, 1) := by decide +kernel
theorem dX7_times_24 : decode cX7_times 24 = .ok (.getfield 24, 3) := by decide +kernel
theorem dX7_times_27 : decode cX7_times 27 = .ok (.iload_n 2, 1) := by decide +kernel
theorem dX7_times_28 : decode cX7_times 28 = .ok (.laload, 1) := by decide +kernel
theorem dX7_times_29 : decode cX7_times 29 = .ok (.lconst 0, 1) := by decide +kernel
theorem dX7_times_30 : decode cX7_times 30 = .ok (.lcmp, 1) := by decide +kernel
theorem dX7_times_31 : decode cX7_times 31 = .ok (.ifCond .eq 7, 3) := by decide +kernel
theorem dX7_times_34 : decode cX7_times 34 = .ok (.iconst 1, 1) := by decide +kernel
theorem dX7_times_35 : decode cX7_times 35 = .ok (.goto 4, 3) := by decide +kernel
theorem dX7_times_38 : decode cX7_times 38 = .ok (.iconst 0, 1) := by decide +kernel
theorem dX7_times_39 : decode cX7_times 39 = .ok (.putfield 57, 3) := by decide +kernel
theorem dX7_times_42 : decode cX7_times 42 = .ok (.aload_n 0, 1) := by decide +kernel
theorem dX7_times_43 : decode cX7_times 43 = .ok (.getfield 57, 3) := by decide +kernel
theorem dX7_times_46 : decode cX7_times 46 = .ok (.ifCond .eq 32, 3) := by decide +kernel
theorem dX7_times_49 : decode cX7_times 49 = .ok (.aload_n 0, 1) := by decide +kernel
theorem dX7_times_50 : decode cX7_times 50 = .ok (.iconst 0, 1) := by decide +kernel
theorem dX7_times_51 : decode cX7_times 51 = .ok (.iload_n 3, 1) := by decide +kernel
theorem dX7_times_52 : decode cX7_times 52 = .ok (.ifCond .eq 7, 3) := by decide +kernel
theorem dX7_times_55 : decode cX7_times 55 = .ok (.iconst 3, 1) := by decide +kernel
theorem dX7_times_56 : decode cX7_times 56 = .ok (.goto 4, 3) := by decide +kernel
theorem dX7_times_59 : decode cX7_times 59 = .ok (.iconst 2, 1) := by decide +kernel
theorem dX7_times_60 : decode cX7_times 60 = .ok (.aload_n 0, 1) := by decide +kernel
theorem dX7_times_61 : decode cX7_times 61 = .ok (.getfield 24, 3) := by decide +kernel
theorem dX7_times_64 : decode cX7_times 64 = .ok (.iload_n 1, 1) := by decide +kernel
theorem dX7_times_65 : decode cX7_times 65 = .ok (.laload, 1) := by decide +kernel
theorem dX7_times_66 : decode cX7_times 66 = .ok (.aload_n 0, 1) := by decide +kernel
theorem dX7_times_67 : decode cX7_times 67 = .ok (.getfield 24, 3) := by decide +kernel
theorem dX7_times_70 : decode cX7_times 70 = .ok (.iload_n 2, 1) := by decide +kernel
theorem dX7_times_71 : decode cX7_times 71 = .ok (.laload, 1) := by decide +kernel
theorem dX7_times_72 : decode cX7_times 72 = .ok (.invokestatic 74, 3) := by decide +kernel
theorem dX7_times_75 : decode cX7_times 75 = .ok (.invokevirtual 61, 3) := by decide +kernel
theorem dX7_times_78 : decode cX7_times 78 = .ok (.return_, 1) := by decide +kernel
theorem dX7_isCell_0 : decode cX7_isCell 0 = .ok (.lload_n 0, 1) := by decide +kernel
theorem dX7_isCell_1 : decode cX7_isCell 1 = .ok (.lconst 0, 1) := by decide +kernel
theorem dX7_isCell_2 : decode cX7_isCell 2 = .ok (.lcmp, 1) := by decide +kernel
theorem dX7_isCell_3 : decode cX7_isCell 3 = .ok (.ifCond .lt 15, 3) := by decide +kernel
theorem dX7_isCell_6 : decode cX7_isCell 6 = .ok (.lload_n 0, 1) := by decide +kernel
theorem dX7_isCell_7 : decode cX7_isCell 7 = .ok (.ldc2_w 82, 3) := by decide +kernel
theorem dX7_isCell_10 : decode cX7_isCell 10 = .ok (.lcmp, 1) := by decide +kernel
theorem dX7_isCell_11 : decode cX7_isCell 11 = .ok (.ifCond .ge 7, 3) := by decide +kernel
theorem dX7_isCell_14 : decode cX7_isCell 14 = .ok (.iconst 1, 1) := by decide +kernel
theorem dX7_isCell_15 : decode cX7_isCell 15 = .ok (.goto 4, 3) := by decide +kernel
theorem dX7_isCell_18 : decode cX7_isCell 18 = .ok (.iconst 0, 1) := by decide +kernel
theorem dX7_isCell_19 : decode cX7_isCell 19 = .ok (.ireturn, 1) := by decide +kernel
set_option maxRecDepth 20000 in
theorem ggX7_read_X7_isCell : GoodIn wsX7_read wsX7_isCell := goodIn_r _ [12, 13] (by decide +kernel) (by decide +kernel)
set_option maxRecDepth 20000 in
theorem gX7_read_X7_isCell : GoodIn wsX7_read (va_wsS RX7 84 yX7_isCell wsX7_isCell) := goodIn_app (goodIn_of _ (by decide +kernel)) ggX7_read_X7_isCell
theorem dX7_read_0 : decode cX7_read 0 = .ok (.aload_n 0, 1) := by decide +kernel
theorem dX7_read_1 : decode cX7_read 1 = .ok (.getfield 24, 3) := by decide +kernel
theorem dX7_read_4 : decode cX7_read 4 = .ok (.iload_n 1, 1) := by decide +kernel
theorem dX7_read_5 : decode cX7_read 5 = .ok (.laload, 1) := by decide +kernel
theorem dX7_read_6 : decode cX7_read 6 = .ok (.invokestatic 84, 3) := by decide +kernel
theorem dX7_read_9 : decode cX7_read 9 = .ok (.ifCond .eq 23, 3) := by decide +kernel
theorem dX7_read_12 : decode cX7_read 12 = .ok (.bipush 64, 2) := by decide +kernel
theorem dX7_read_14 : decode cX7_read 14 = .ok (.aload_n 0, 1) := by decide +kernel
theorem dX7_read_15 : decode cX7_read 15 = .ok (.getfield 21, 3) := by decide +kernel
theorem dX7_read_18 : decode cX7_read 18 = .ok (.iload_n 1, 1) := by decide +kernel
theorem dX7_read_19 : decode cX7_read 19 = .ok (.iaload, 1) := by decide +kernel
theorem dX7_read_20 : decode cX7_read 20 = .ok (.imul, 1) := by decide +kernel
theorem dX7_read_21 : decode cX7_read 21 = .ok (.aload_n 0, 1) := by decide +kernel
theorem dX7_read_22 : decode cX7_read 22 = .ok (.getfield 24, 3) := by decide +kernel
theorem dX7_read_25 : decode cX7_read 25 = .ok (.iload_n 1, 1) := by decide +kernel
theorem dX7_read_26 : decode cX7_read 26 = .ok (.laload, 1) := by decide +kernel
theorem dX7_read_27 : decode cX7_read 27 = .ok (.l2i, 1) := by decide +kernel
theorem dX7_read_28 : decode cX7_read 28 = .ok (.iadd, 1) := by decide +kernel
theorem dX7_read_29 : decode cX7_read 29 = .ok (.goto 4, 3) := by decide +kernel
theorem dX7_read_32 : decode cX7_read 32 = .ok (.iconst 0, 1) := by decide +kernel
theorem dX7_read_33 : decode cX7_read 33 = .ok (.istore_n 2, 1) := by decide +kernel
theorem dX7_read_34 : decode cX7_read 34 = .ok (.aload_n 0, 1) := by decide +kernel
theorem dX7_read_35 : decode cX7_read 35 = .ok (.iload_n 2, 1) := by decide +kernel
theorem dX7_read_36 : decode cX7_read 36 = .ok (.ifCond .le 16, 3) := by decide +kernel
theorem dX7_read_39 : decode cX7_read 39 = .ok (.aload_n 0, 1) := by decide +kernel
theorem dX7_read_40 : decode cX7_read 40 = .ok (.getfield 7, 3) := by decide +kernel
theorem dX7_read_43 : decode cX7_read 43 = .ok (.iload_n 2, 1) := by decide +kernel
theorem dX7_read_44 : decode cX7_read 44 = .ok (.baload, 1) := by decide +kernel
theorem dX7_read_45 : decode cX7_read 45 = .ok (.ifCond .eq 7, 3) := by decide +kernel
theorem dX7_read_48 : decode cX7_read 48 = .ok (.iconst 1, 1) := by decide +kernel
theorem dX7_read_49 : decode cX7_read 49 = .ok (.goto 4, 3) := by decide +kernel
theorem dX7_read_52 : decode cX7_read 52 = .ok (.iconst 0, 1) := by decide +kernel
theorem dX7_read_53 : decode cX7_read 53 = .ok (.putfield 57, 3) := by decide +kernel
theorem dX7_read_56 : decode cX7_read 56 = .ok (.aload_n 0, 1) := by decide +kernel
theorem dX7_read_57 : decode cX7_read 57 = .ok (.aload_n 0, 1) := by decide +kernel
theorem dX7_read_58 : decode cX7_read 58 = .ok (.getfield 13, 3) := by decide +kernel
theorem dX7_read_61 : decode cX7_read 61 = .ok (.iload_n 2, 1) := by decide +kernel
theorem dX7_read_62 : decode cX7_read 62 = .ok (.iaload, 1) := by decide +kernel
theorem dX7_read_63 : decode cX7_read 63 = .ok (.putfield 50, 3) := by decide +kernel
theorem dX7_read_66 : decode cX7_read 66 = .ok (.aload_n 0, 1) := by decide +kernel
theorem dX7_read_67 : decode cX7_read 67 = .ok (.aload_n 0, 1) := by decide +kernel
theorem dX7_read_68 : decode cX7_read 68 = .ok (.getfield 17, 3) := by decide +kernel
theorem dX7_read_71 : decode cX7_read 71 = .ok (.iload_n 2, 1) := by decide +kernel
theorem dX7_read_72 : decode cX7_read 72 = .ok (.laload, 1) := by decide +kernel
theorem dX7_read_73 : decode cX7_read 73 = .ok (.putfield 53, 3) := by decide +kernel
theorem dX7_read_76 : decode cX7_read 76 = .ok (.return_, 1) := by decide +kernel
theorem dX7_bits_0 : decode cX7_bits 0 = .ok (.iload_n 0, 1) := by decide +kernel
theorem dX7_bits_1 : decode cX7_bits 1 = .ok (.iconst 2, 1) := by decide +kernel
theorem dX7_bits_2 : decode cX7_bits 2 = .ok (.if_icmp .ne 9, 3) := by decide +kernel
theorem dX7_bits_5 : decode cX7_bits 5 = .ok (.lload_n 1, 1) := by decide +kernel
theorem dX7_bits_6 : decode cX7_bits 6 = .ok (.lload_n 3, 1) := by decide +kernel
theorem dX7_bits_7 : decode cX7_bits 7 = .ok (.land, 1) := by decide +kernel
theorem dX7_bits_8 : decode cX7_bits 8 = .ok (.goto 17, 3) := by decide +kernel
theorem dX7_bits_11 : decode cX7_bits 11 = .ok (.iload_n 0, 1) := by decide +kernel
theorem dX7_bits_12 : decode cX7_bits 12 = .ok (.iconst 3, 1) := by decide +kernel
theorem dX7_bits_13 : decode cX7_bits 13 = .ok (.if_icmp .ne 9, 3) := by decide +kernel
theorem dX7_bits_16 : decode cX7_bits 16 = .ok (.lload_n 1, 1) := by decide +kernel
theorem dX7_bits_17 : decode cX7_bits 17 = .ok (.lload_n 3, 1) := by decide +kernel
theorem dX7_bits_18 : decode cX7_bits 18 = .ok (.lxor, 1) := by decide +kernel
theorem dX7_bits_19 : decode cX7_bits 19 = .ok (.goto 6, 3) := by decide +kernel
theorem dX7_bits_22 : decode cX7_bits 22 = .ok (.lload_n 1, 1) := by decide +kernel
theorem dX7_bits_23 : decode cX7_bits 23 = .ok (.lload_n 3, 1) := by decide +kernel
theorem dX7_bits_24 : decode cX7_bits 24 = .ok (.lor, 1) := by decide +kernel
theorem dX7_bits_25 : decode cX7_bits 25 = .ok (.lreturn, 1) := by decide +kernel
set_option maxRecDepth 20000 in
theorem ggX7_takes_X7_bits : GoodIn wsX7_takes wsX7_bits := goodIn_r _ [8] (by decide +kernel) (by decide +kernel)
set_option maxRecDepth 20000 in
theorem gX7_takes_X7_bits : GoodIn wsX7_takes (va_wsS RX7 90 yX7_bits wsX7_bits) := goodIn_app (goodIn_of _ (by decide +kernel)) ggX7_takes_X7_bits
theorem dX7_takes_0 : decode cX7_takes 0 = .ok (.bipush 64, 2) := by decide +kernel
theorem dX7_takes_2 : decode cX7_takes 2 = .ok (.iload_n 1, 1) := by decide +kernel
theorem dX7_takes_3 : decode cX7_takes 3 = .ok (.imul, 1) := by decide +kernel
theorem dX7_takes_4 : decode cX7_takes 4 = .ok (.iload_n 2, 1) := by decide +kernel
theorem dX7_takes_5 : decode cX7_takes 5 = .ok (.iadd, 1) := by decide +kernel
theorem dX7_takes_6 : decode cX7_takes 6 = .ok (.istore 6, 2) := by decide +kernel
theorem dX7_takes_8 : decode cX7_takes 8 = .ok (.iload_n 1, 1) := by decide +kernel
theorem dX7_takes_9 : decode cX7_takes 9 = .ok (.iconst 3, 1) := by decide +kernel
theorem dX7_takes_10 : decode cX7_takes 10 = .ok (.if_icmp .ne 22, 3) := by decide +kernel
theorem dX7_takes_13 : decode cX7_takes 13 = .ok (.iload_n 3, 1) := by decide +kernel
theorem dX7_takes_14 : decode cX7_takes 14 = .ok (.ifCond .ne 16, 3) := by decide +kernel
theorem dX7_takes_17 : decode cX7_takes 17 = .ok (.lload 4, 2) := by decide +kernel
theorem dX7_takes_19 : decode cX7_takes 19 = .ok (.ldc2_w 88, 3) := by decide +kernel
theorem dX7_takes_22 : decode cX7_takes 22 = .ok (.lcmp, 1) := by decide +kernel
theorem dX7_takes_23 : decode cX7_takes 23 = .ok (.ifCond .ge 7, 3) := by decide +kernel
theorem dX7_takes_26 : decode cX7_takes 26 = .ok (.iconst 1, 1) := by decide +kernel
theorem dX7_takes_27 : decode cX7_takes 27 = .ok (.goto 4, 3) := by decide +kernel
theorem dX7_takes_30 : decode cX7_takes 30 = .ok (.iconst 0, 1) := by decide +kernel
theorem dX7_takes_31 : decode cX7_takes 31 = .ok (.ireturn, 1) := by decide +kernel
theorem dX7_takes_32 : decode cX7_takes 32 = .ok (.iload_n 1, 1) := by decide +kernel
theorem dX7_takes_33 : decode cX7_takes 33 = .ok (.iconst 5, 1) := by decide +kernel
theorem dX7_takes_34 : decode cX7_takes 34 = .ok (.if_icmp .ne 49, 3) := by decide +kernel
theorem dX7_takes_37 : decode cX7_takes 37 = .ok (.iconst 1, 1) := by decide +kernel
theorem dX7_takes_38 : decode cX7_takes 38 = .ok (.istore 7, 2) := by decide +kernel
theorem dX7_takes_40 : decode cX7_takes 40 = .ok (.sipush 320, 3) := by decide +kernel
theorem dX7_takes_43 : decode cX7_takes 43 = .ok (.istore 8, 2) := by decide +kernel
theorem dX7_takes_45 : decode cX7_takes 45 = .ok (.iload 8, 2) := by decide +kernel
theorem dX7_takes_47 : decode cX7_takes 47 = .ok (.iload 6, 2) := by decide +kernel
theorem dX7_takes_49 : decode cX7_takes 49 = .ok (.if_icmp .ge 31, 3) := by decide +kernel
theorem dX7_takes_52 : decode cX7_takes 52 = .ok (.iload 7, 2) := by decide +kernel
theorem dX7_takes_54 : decode cX7_takes 54 = .ok (.ifCond .eq 17, 3) := by decide +kernel
theorem dX7_takes_57 : decode cX7_takes 57 = .ok (.aload_n 0, 1) := by decide +kernel
theorem dX7_takes_58 : decode cX7_takes 58 = .ok (.getfield 7, 3) := by decide +kernel
theorem dX7_takes_61 : decode cX7_takes 61 = .ok (.iload 8, 2) := by decide +kernel
theorem dX7_takes_63 : decode cX7_takes 63 = .ok (.baload, 1) := by decide +kernel
theorem dX7_takes_64 : decode cX7_takes 64 = .ok (.ifCond .eq 7, 3) := by decide +kernel
theorem dX7_takes_67 : decode cX7_takes 67 = .ok (.iconst 1, 1) := by decide +kernel
theorem dX7_takes_68 : decode cX7_takes 68 = .ok (.goto 4, 3) := by decide +kernel
theorem dX7_takes_71 : decode cX7_takes 71 = .ok (.iconst 0, 1) := by decide +kernel
theorem dX7_takes_72 : decode cX7_takes 72 = .ok (.istore 7, 2) := by decide +kernel
theorem dX7_takes_74 : decode cX7_takes 74 = .ok (.iinc 8 1, 3) := by decide +kernel
theorem dX7_takes_77 : decode cX7_takes 77 = .ok (.goto (-32), 3) := by decide +kernel
theorem dX7_takes_80 : decode cX7_takes 80 = .ok (.iload 7, 2) := by decide +kernel
theorem dX7_takes_82 : decode cX7_takes 82 = .ok (.ireturn, 1) := by decide +kernel
theorem dX7_takes_83 : decode cX7_takes 83 = .ok (.iload_n 1, 1) := by decide +kernel
theorem dX7_takes_84 : decode cX7_takes 84 = .ok (.iconst 4, 1) := by decide +kernel
theorem dX7_takes_85 : decode cX7_takes 85 = .ok (.if_icmp .ne 10, 3) := by decide +kernel
theorem dX7_takes_88 : decode cX7_takes 88 = .ok (.iload_n 2, 1) := by decide +kernel
theorem dX7_takes_89 : decode cX7_takes 89 = .ok (.iconst 5, 1) := by decide +kernel
theorem dX7_takes_90 : decode cX7_takes 90 = .ok (.irem, 1) := by decide +kernel
theorem dX7_takes_91 : decode cX7_takes 91 = .ok (.iconst 1, 1) := by decide +kernel
theorem dX7_takes_92 : decode cX7_takes 92 = .ok (.if_icmp .le 5, 3) := by decide +kernel
theorem dX7_takes_95 : decode cX7_takes 95 = .ok (.iconst 1, 1) := by decide +kernel
theorem dX7_takes_96 : decode cX7_takes 96 = .ok (.ireturn, 1) := by decide +kernel
theorem dX7_takes_97 : decode cX7_takes 97 = .ok (.iload_n 3, 1) := by decide +kernel
theorem dX7_takes_98 : decode cX7_takes 98 = .ok (.ifCond .ne 17, 3) := by decide +kernel
theorem dX7_takes_101 : decode cX7_takes 101 = .ok (.lload 4, 2) := by decide +kernel
theorem dX7_takes_103 : decode cX7_takes 103 = .ok (.bipush 60, 2) := by decide +kernel
theorem dX7_takes_105 : decode cX7_takes 105 = .ok (.lshr, 1) := by decide +kernel
theorem dX7_takes_106 : decode cX7_takes 106 = .ok (.lconst 0, 1) := by decide +kernel
theorem dX7_takes_107 : decode cX7_takes 107 = .ok (.lcmp, 1) := by decide +kernel
theorem dX7_takes_108 : decode cX7_takes 108 = .ok (.ifCond .ne 7, 3) := by decide +kernel
theorem dX7_takes_111 : decode cX7_takes 111 = .ok (.iconst 1, 1) := by decide +kernel
theorem dX7_takes_112 : decode cX7_takes 112 = .ok (.goto 4, 3) := by decide +kernel
theorem dX7_takes_115 : decode cX7_takes 115 = .ok (.iconst 0, 1) := by decide +kernel
theorem dX7_takes_116 : decode cX7_takes 116 = .ok (.istore 7, 2) := by decide +kernel
theorem dX7_takes_118 : decode cX7_takes 118 = .ok (.iload_n 2, 1) := by decide +kernel
theorem dX7_takes_119 : decode cX7_takes 119 = .ok (.iconst 5, 1) := by decide +kernel
theorem dX7_takes_120 : decode cX7_takes 120 = .ok (.irem, 1) := by decide +kernel
theorem dX7_takes_121 : decode cX7_takes 121 = .ok (.ifCond .ne 10, 3) := by decide +kernel
theorem dX7_takes_124 : decode cX7_takes 124 = .ok (.iload 6, 2) := by decide +kernel
theorem dX7_takes_126 : decode cX7_takes 126 = .ok (.iconst 1, 1) := by decide +kernel
theorem dX7_takes_127 : decode cX7_takes 127 = .ok (.iadd, 1) := by decide +kernel
theorem dX7_takes_128 : decode cX7_takes 128 = .ok (.goto 7, 3) := by decide +kernel
theorem dX7_takes_131 : decode cX7_takes 131 = .ok (.iload 6, 2) := by decide +kernel
theorem dX7_takes_133 : decode cX7_takes 133 = .ok (.iconst 1, 1) := by decide +kernel
theorem dX7_takes_134 : decode cX7_takes 134 = .ok (.isub, 1) := by decide +kernel
theorem dX7_takes_135 : decode cX7_takes 135 = .ok (.istore 8, 2) := by decide +kernel
theorem dX7_takes_137 : decode cX7_takes 137 = .ok (.iload 6, 2) := by decide +kernel
theorem dX7_takes_139 : decode cX7_takes 139 = .ok (.iload_n 2, 1) := by decide +kernel
theorem dX7_takes_140 : decode cX7_takes 140 = .ok (.iconst 5, 1) := by decide +kernel
theorem dX7_takes_141 : decode cX7_takes 141 = .ok (.irem, 1) := by decide +kernel
theorem dX7_takes_142 : decode cX7_takes 142 = .ok (.isub, 1) := by decide +kernel
theorem dX7_takes_143 : decode cX7_takes 143 = .ok (.istore 9, 2) := by decide +kernel
theorem dX7_takes_145 : decode cX7_takes 145 = .ok (.iload 7, 2) := by decide +kernel
theorem dX7_takes_147 : decode cX7_takes 147 = .ok (.ifCond .eq 23, 3) := by decide +kernel
theorem dX7_takes_150 : decode cX7_takes 150 = .ok (.iload_n 2, 1) := by decide +kernel
theorem dX7_takes_151 : decode cX7_takes 151 = .ok (.iload_n 2, 1) := by decide +kernel
theorem dX7_takes_152 : decode cX7_takes 152 = .ok (.iconst 5, 1) := by decide +kernel
theorem dX7_takes_153 : decode cX7_takes 153 = .ok (.irem, 1) := by decide +kernel
theorem dX7_takes_154 : decode cX7_takes 154 = .ok (.isub, 1) := by decide +kernel
theorem dX7_takes_155 : decode cX7_takes 155 = .ok (.bipush 60, 2) := by decide +kernel
theorem dX7_takes_157 : decode cX7_takes 157 = .ok (.if_icmp .eq 13, 3) := by decide +kernel
theorem dX7_takes_160 : decode cX7_takes 160 = .ok (.aload_n 0, 1) := by decide +kernel
theorem dX7_takes_161 : decode cX7_takes 161 = .ok (.getfield 7, 3) := by decide +kernel
theorem dX7_takes_164 : decode cX7_takes 164 = .ok (.iload 8, 2) := by decide +kernel
theorem dX7_takes_166 : decode cX7_takes 166 = .ok (.baload, 1) := by decide +kernel
theorem dX7_takes_167 : decode cX7_takes 167 = .ok (.ifCond .ne 6, 3) := by decide +kernel
theorem dX7_takes_170 : decode cX7_takes 170 = .ok (.iload 7, 2) := by decide +kernel
theorem dX7_takes_172 : decode cX7_takes 172 = .ok (.ireturn, 1) := by decide +kernel
theorem dX7_takes_173 : decode cX7_takes 173 = .ok (.iconst 2, 1) := by decide +kernel
theorem dX7_takes_174 : decode cX7_takes 174 = .ok (.istore 10, 2) := by decide +kernel
theorem dX7_takes_176 : decode cX7_takes 176 = .ok (.iload 10, 2) := by decide +kernel
theorem dX7_takes_178 : decode cX7_takes 178 = .ok (.iconst 5, 1) := by decide +kernel
theorem dX7_takes_179 : decode cX7_takes 179 = .ok (.if_icmp .ge 75, 3) := by decide +kernel
theorem dX7_takes_182 : decode cX7_takes 182 = .ok (.iload 7, 2) := by decide +kernel
theorem dX7_takes_184 : decode cX7_takes 184 = .ok (.ifCond .eq 61, 3) := by decide +kernel
theorem dX7_takes_187 : decode cX7_takes 187 = .ok (.aload_n 0, 1) := by decide +kernel
theorem dX7_takes_188 : decode cX7_takes 188 = .ok (.getfield 7, 3) := by decide +kernel
theorem dX7_takes_191 : decode cX7_takes 191 = .ok (.iload 9, 2) := by decide +kernel
theorem dX7_takes_193 : decode cX7_takes 193 = .ok (.iload 10, 2) := by decide +kernel
theorem dX7_takes_195 : decode cX7_takes 195 = .ok (.iadd, 1) := by decide +kernel
theorem dX7_takes_196 : decode cX7_takes 196 = .ok (.baload, 1) := by decide +kernel
theorem dX7_takes_197 : decode cX7_takes 197 = .ok (.ifCond .eq 44, 3) := by decide +kernel
theorem dX7_takes_200 : decode cX7_takes 200 = .ok (.aload_n 0, 1) := by decide +kernel
theorem dX7_takes_201 : decode cX7_takes 201 = .ok (.getfield 13, 3) := by decide +kernel
theorem dX7_takes_204 : decode cX7_takes 204 = .ok (.iload 9, 2) := by decide +kernel
theorem dX7_takes_206 : decode cX7_takes 206 = .ok (.iload 10, 2) := by decide +kernel
theorem dX7_takes_208 : decode cX7_takes 208 = .ok (.iadd, 1) := by decide +kernel
theorem dX7_takes_209 : decode cX7_takes 209 = .ok (.iaload, 1) := by decide +kernel
theorem dX7_takes_210 : decode cX7_takes 210 = .ok (.ifCond .ne 35, 3) := by decide +kernel
theorem dX7_takes_213 : decode cX7_takes 213 = .ok (.aload_n 0, 1) := by decide +kernel
theorem dX7_takes_214 : decode cX7_takes 214 = .ok (.getfield 17, 3) := by decide +kernel
theorem dX7_takes_217 : decode cX7_takes 217 = .ok (.iload 9, 2) := by decide +kernel
theorem dX7_takes_219 : decode cX7_takes 219 = .ok (.iload 10, 2) := by decide +kernel
theorem dX7_takes_221 : decode cX7_takes 221 = .ok (.iadd, 1) := by decide +kernel
theorem dX7_takes_222 : decode cX7_takes 222 = .ok (.laload, 1) := by decide +kernel
theorem dX7_takes_223 : decode cX7_takes 223 = .ok (.iload 10, 2) := by decide +kernel
theorem dX7_takes_225 : decode cX7_takes 225 = .ok (.lload 4, 2) := by decide +kernel
theorem dX7_takes_227 : decode cX7_takes 227 = .ok (.aload_n 0, 1) := by decide +kernel
theorem dX7_takes_228 : decode cX7_takes 228 = .ok (.getfield 17, 3) := by decide +kernel
theorem dX7_takes_231 : decode cX7_takes 231 = .ok (.iload 8, 2) := by decide +kernel
theorem dX7_takes_233 : decode cX7_takes 233 = .ok (.laload, 1) := by decide +kernel
theorem dX7_takes_234 : decode cX7_takes 234 = .ok (.invokestatic 90, 3) := by decide +kernel
theorem dX7_takes_237 : decode cX7_takes 237 = .ok (.lcmp, 1) := by decide +kernel
theorem dX7_takes_238 : decode cX7_takes 238 = .ok (.ifCond .ne 7, 3) := by decide +kernel
theorem dX7_takes_241 : decode cX7_takes 241 = .ok (.iconst 1, 1) := by decide +kernel
theorem dX7_takes_242 : decode cX7_takes 242 = .ok (.goto 4, 3) := by decide +kernel
theorem dX7_takes_245 : decode cX7_takes 245 = .ok (.iconst 0, 1) := by decide +kernel
theorem dX7_takes_246 : decode cX7_takes 246 = .ok (.istore 7, 2) := by decide +kernel
theorem dX7_takes_248 : decode cX7_takes 248 = .ok (.iinc 10 1, 3) := by decide +kernel
theorem dX7_takes_251 : decode cX7_takes 251 = .ok (.goto (-75), 3) := by decide +kernel
theorem dX7_takes_254 : decode cX7_takes 254 = .ok (.iload 7, 2) := by decide +kernel
theorem dX7_takes_256 : decode cX7_takes 256 = .ok (.ireturn, 1) := by decide +kernel
theorem dX7_set_0 : decode cX7_set 0 = .ok (.aload_n 0, 1) := by decide +kernel
theorem dX7_set_1 : decode cX7_set 1 = .ok (.getfield 7, 3) := by decide +kernel
theorem dX7_set_4 : decode cX7_set 4 = .ok (.iload_n 1, 1) := by decide +kernel
theorem dX7_set_5 : decode cX7_set 5 = .ok (.iconst 1, 1) := by decide +kernel
theorem dX7_set_6 : decode cX7_set 6 = .ok (.bastore, 1) := by decide +kernel
theorem dX7_set_7 : decode cX7_set 7 = .ok (.aload_n 0, 1) := by decide +kernel
theorem dX7_set_8 : decode cX7_set 8 = .ok (.getfield 13, 3) := by decide +kernel
theorem dX7_set_11 : decode cX7_set 11 = .ok (.iload_n 1, 1) := by decide +kernel
theorem dX7_set_12 : decode cX7_set 12 = .ok (.iload_n 2, 1) := by decide +kernel
theorem dX7_set_13 : decode cX7_set 13 = .ok (.iastore, 1) := by decide +kernel
theorem dX7_set_14 : decode cX7_set 14 = .ok (.aload_n 0, 1) := by decide +kernel
theorem dX7_set_15 : decode cX7_set 15 = .ok (.getfield 17, 3) := by decide +kernel
theorem dX7_set_18 : decode cX7_set 18 = .ok (.iload_n 1, 1) := by decide +kernel
theorem dX7_set_19 : decode cX7_set 19 = .ok (.lload_n 3, 1) := by decide +kernel
theorem dX7_set_20 : decode cX7_set 20 = .ok (.lastore, 1) := by decide +kernel
theorem dX7_set_21 : decode cX7_set 21 = .ok (.return_, 1) := by decide +kernel
set_option maxRecDepth 20000 in
theorem ggX7_written_X7_isCell : GoodIn wsX7_written wsX7_isCell := goodIn_r _ [7, 8] (by decide +kernel) (by decide +kernel)
set_option maxRecDepth 20000 in
theorem gX7_written_X7_isCell : GoodIn wsX7_written (va_wsS RX7 84 yX7_isCell wsX7_isCell) := goodIn_app (goodIn_of _ (by decide +kernel)) ggX7_written_X7_isCell
set_option maxRecDepth 20000 in
theorem ggX7_written_X7_takes : GoodIn wsX7_written wsX7_takes := goodIn_r _ [12, 13, 1, 2, 3, 14, 15, 6, 16, 21, 22, 23, 24, 25, 26, 27, 28, 29, 30, 31, 32, 33, 34, 35] (by decide +kernel) (by decide +kernel)
set_option maxRecDepth 20000 in
theorem gX7_written_X7_takes : GoodIn wsX7_written (wsV RX7 93 RX7 yX7_takes wsX7_takes) := goodIn_app (goodIn_of _ (by decide +kernel)) ggX7_written_X7_takes
set_option maxRecDepth 20000 in
theorem ggX7_written_X7_set : GoodIn wsX7_written wsX7_set := goodIn_r _ [20, 1, 2, 3, 21, 22, 23, 24, 25, 26, 27, 28, 29, 30, 31, 32, 33, 34, 35] (by decide +kernel) (by decide +kernel)
set_option maxRecDepth 20000 in
theorem gX7_written_X7_set : GoodIn wsX7_written (wsV RX7 97 RX7 yX7_set wsX7_set) := goodIn_app (goodIn_of _ (by decide +kernel)) ggX7_written_X7_set
set_option maxRecDepth 20000 in
theorem ggX7_written_X7_bits : GoodIn wsX7_written wsX7_bits := goodIn_r _ [16] (by decide +kernel) (by decide +kernel)
set_option maxRecDepth 20000 in
theorem gX7_written_X7_bits : GoodIn wsX7_written (va_wsS RX7 90 yX7_bits wsX7_bits) := goodIn_app (goodIn_of _ (by decide +kernel)) ggX7_written_X7_bits
theorem dX7_written_0 : decode cX7_written 0 = .ok (.lload_n 2, 1) := by decide +kernel
theorem dX7_written_1 : decode cX7_written 1 = .ok (.invokestatic 84, 3) := by decide +kernel
theorem dX7_written_4 : decode cX7_written 4 = .ok (.ifCond .ne 5, 3) := by decide +kernel
theorem dX7_written_7 : decode cX7_written 7 = .ok (.iconst 0, 1) := by decide +kernel
theorem dX7_written_8 : decode cX7_written 8 = .ok (.ireturn, 1) := by decide +kernel
theorem dX7_written_9 : decode cX7_written 9 = .ok (.lload_n 2, 1) := by decide +kernel
theorem dX7_written_10 : decode cX7_written 10 = .ok (.l2i, 1) := by decide +kernel
theorem dX7_written_11 : decode cX7_written 11 = .ok (.istore 7, 2) := by decide +kernel
theorem dX7_written_13 : decode cX7_written 13 = .ok (.bipush 64, 2) := by decide +kernel
theorem dX7_written_15 : decode cX7_written 15 = .ok (.iload_n 1, 1) := by decide +kernel
theorem dX7_written_16 : decode cX7_written 16 = .ok (.imul, 1) := by decide +kernel
theorem dX7_written_17 : decode cX7_written 17 = .ok (.iload 7, 2) := by decide +kernel
theorem dX7_written_19 : decode cX7_written 19 = .ok (.iadd, 1) := by decide +kernel
theorem dX7_written_20 : decode cX7_written 20 = .ok (.istore 8, 2) := by decide +kernel
theorem dX7_written_22 : decode cX7_written 22 = .ok (.aload_n 0, 1) := by decide +kernel
theorem dX7_written_23 : decode cX7_written 23 = .ok (.getfield 7, 3) := by decide +kernel
theorem dX7_written_26 : decode cX7_written 26 = .ok (.iload 8, 2) := by decide +kernel
theorem dX7_written_28 : decode cX7_written 28 = .ok (.baload, 1) := by decide +kernel
theorem dX7_written_29 : decode cX7_written 29 = .ok (.ifCond .eq 34, 3) := by decide +kernel
theorem dX7_written_32 : decode cX7_written 32 = .ok (.aload_n 0, 1) := by decide +kernel
theorem dX7_written_33 : decode cX7_written 33 = .ok (.getfield 13, 3) := by decide +kernel
theorem dX7_written_36 : decode cX7_written 36 = .ok (.iload 8, 2) := by decide +kernel
theorem dX7_written_38 : decode cX7_written 38 = .ok (.iaload, 1) := by decide +kernel
theorem dX7_written_39 : decode cX7_written 39 = .ok (.iload 4, 2) := by decide +kernel
theorem dX7_written_41 : decode cX7_written 41 = .ok (.if_icmp .ne 20, 3) := by decide +kernel
theorem dX7_written_44 : decode cX7_written 44 = .ok (.aload_n 0, 1) := by decide +kernel
theorem dX7_written_45 : decode cX7_written 45 = .ok (.getfield 17, 3) := by decide +kernel
theorem dX7_written_48 : decode cX7_written 48 = .ok (.iload 8, 2) := by decide +kernel
theorem dX7_written_50 : decode cX7_written 50 = .ok (.laload, 1) := by decide +kernel
theorem dX7_written_51 : decode cX7_written 51 = .ok (.lload 5, 2) := by decide +kernel
theorem dX7_written_53 : decode cX7_written 53 = .ok (.lcmp, 1) := by decide +kernel
theorem dX7_written_54 : decode cX7_written 54 = .ok (.ifCond .ne 7, 3) := by decide +kernel
theorem dX7_written_57 : decode cX7_written 57 = .ok (.iconst 1, 1) := by decide +kernel
theorem dX7_written_58 : decode cX7_written 58 = .ok (.goto 4, 3) := by decide +kernel
theorem dX7_written_61 : decode cX7_written 61 = .ok (.iconst 0, 1) := by decide +kernel
theorem dX7_written_62 : decode cX7_written 62 = .ok (.ireturn, 1) := by decide +kernel
theorem dX7_written_63 : decode cX7_written 63 = .ok (.aload_n 0, 1) := by decide +kernel
theorem dX7_written_64 : decode cX7_written 64 = .ok (.iload_n 1, 1) := by decide +kernel
theorem dX7_written_65 : decode cX7_written 65 = .ok (.iload 7, 2) := by decide +kernel
theorem dX7_written_67 : decode cX7_written 67 = .ok (.iload 4, 2) := by decide +kernel
theorem dX7_written_69 : decode cX7_written 69 = .ok (.lload 5, 2) := by decide +kernel
theorem dX7_written_71 : decode cX7_written 71 = .ok (.invokevirtual 93, 3) := by decide +kernel
theorem dX7_written_74 : decode cX7_written 74 = .ok (.ifCond .ne 5, 3) := by decide +kernel
theorem dX7_written_77 : decode cX7_written 77 = .ok (.iconst 0, 1) := by decide +kernel
theorem dX7_written_78 : decode cX7_written 78 = .ok (.ireturn, 1) := by decide +kernel
theorem dX7_written_79 : decode cX7_written 79 = .ok (.aload_n 0, 1) := by decide +kernel
theorem dX7_written_80 : decode cX7_written 80 = .ok (.iload 8, 2) := by decide +kernel
theorem dX7_written_82 : decode cX7_written 82 = .ok (.iload 4, 2) := by decide +kernel
theorem dX7_written_84 : decode cX7_written 84 = .ok (.lload 5, 2) := by decide +kernel
theorem dX7_written_86 : decode cX7_written 86 = .ok (.invokevirtual 97, 3) := by decide +kernel
theorem dX7_written_89 : decode cX7_written 89 = .ok (.iload 8, 2) := by decide +kernel
theorem dX7_written_91 : decode cX7_written 91 = .ok (.iload 7, 2) := by decide +kernel
theorem dX7_written_93 : decode cX7_written 93 = .ok (.iconst 5, 1) := by decide +kernel
theorem dX7_written_94 : decode cX7_written 94 = .ok (.irem, 1) := by decide +kernel
theorem dX7_written_95 : decode cX7_written 95 = .ok (.isub, 1) := by decide +kernel
theorem dX7_written_96 : decode cX7_written 96 = .ok (.istore 9, 2) := by decide +kernel
theorem dX7_written_98 : decode cX7_written 98 = .ok (.iload_n 1, 1) := by decide +kernel
theorem dX7_written_99 : decode cX7_written 99 = .ok (.iconst 4, 1) := by decide +kernel
theorem dX7_written_100 : decode cX7_written 100 = .ok (.if_icmp .ne 91, 3) := by decide +kernel
theorem dX7_written_103 : decode cX7_written 103 = .ok (.iload 7, 2) := by decide +kernel
theorem dX7_written_105 : decode cX7_written 105 = .ok (.iconst 5, 1) := by decide +kernel
theorem dX7_written_106 : decode cX7_written 106 = .ok (.irem, 1) := by decide +kernel
theorem dX7_written_107 : decode cX7_written 107 = .ok (.iconst 2, 1) := by decide +kernel
theorem dX7_written_108 : decode cX7_written 108 = .ok (.if_icmp .ge 83, 3) := by decide +kernel
theorem dX7_written_111 : decode cX7_written 111 = .ok (.iload 7, 2) := by decide +kernel
theorem dX7_written_113 : decode cX7_written 113 = .ok (.iload 7, 2) := by decide +kernel
theorem dX7_written_115 : decode cX7_written 115 = .ok (.iconst 5, 1) := by decide +kernel
theorem dX7_written_116 : decode cX7_written 116 = .ok (.irem, 1) := by decide +kernel
theorem dX7_written_117 : decode cX7_written 117 = .ok (.isub, 1) := by decide +kernel
theorem dX7_written_118 : decode cX7_written 118 = .ok (.bipush 60, 2) := by decide +kernel
theorem dX7_written_120 : decode cX7_written 120 = .ok (.if_icmp .ge 71, 3) := by decide +kernel
theorem dX7_written_123 : decode cX7_written 123 = .ok (.aload_n 0, 1) := by decide +kernel
theorem dX7_written_124 : decode cX7_written 124 = .ok (.getfield 7, 3) := by decide +kernel
theorem dX7_written_127 : decode cX7_written 127 = .ok (.iload 9, 2) := by decide +kernel
theorem dX7_written_129 : decode cX7_written 129 = .ok (.baload, 1) := by decide +kernel
theorem dX7_written_130 : decode cX7_written 130 = .ok (.ifCond .eq 61, 3) := by decide +kernel
theorem dX7_written_133 : decode cX7_written 133 = .ok (.aload_n 0, 1) := by decide +kernel
theorem dX7_written_134 : decode cX7_written 134 = .ok (.getfield 7, 3) := by decide +kernel
theorem dX7_written_137 : decode cX7_written 137 = .ok (.iload 9, 2) := by decide +kernel
theorem dX7_written_139 : decode cX7_written 139 = .ok (.iconst 1, 1) := by decide +kernel
theorem dX7_written_140 : decode cX7_written 140 = .ok (.iadd, 1) := by decide +kernel
theorem dX7_written_141 : decode cX7_written 141 = .ok (.baload, 1) := by decide +kernel
theorem dX7_written_142 : decode cX7_written 142 = .ok (.ifCond .eq 49, 3) := by decide +kernel
theorem dX7_written_145 : decode cX7_written 145 = .ok (.iconst 2, 1) := by decide +kernel
theorem dX7_written_146 : decode cX7_written 146 = .ok (.istore 10, 2) := by decide +kernel
theorem dX7_written_148 : decode cX7_written 148 = .ok (.iload 10, 2) := by decide +kernel
theorem dX7_written_150 : decode cX7_written 150 = .ok (.iconst 5, 1) := by decide +kernel
theorem dX7_written_151 : decode cX7_written 151 = .ok (.if_icmp .ge 40, 3) := by decide +kernel
theorem dX7_written_154 : decode cX7_written 154 = .ok (.aload_n 0, 1) := by decide +kernel
theorem dX7_written_155 : decode cX7_written 155 = .ok (.iload 9, 2) := by decide +kernel
theorem dX7_written_157 : decode cX7_written 157 = .ok (.iload 10, 2) := by decide +kernel
theorem dX7_written_159 : decode cX7_written 159 = .ok (.iadd, 1) := by decide +kernel
theorem dX7_written_160 : decode cX7_written 160 = .ok (.iconst 0, 1) := by decide +kernel
theorem dX7_written_161 : decode cX7_written 161 = .ok (.iload 10, 2) := by decide +kernel
theorem dX7_written_163 : decode cX7_written 163 = .ok (.aload_n 0, 1) := by decide +kernel
theorem dX7_written_164 : decode cX7_written 164 = .ok (.getfield 17, 3) := by decide +kernel
theorem dX7_written_167 : decode cX7_written 167 = .ok (.iload 9, 2) := by decide +kernel
theorem dX7_written_169 : decode cX7_written 169 = .ok (.laload, 1) := by decide +kernel
theorem dX7_written_170 : decode cX7_written 170 = .ok (.aload_n 0, 1) := by decide +kernel
theorem dX7_written_171 : decode cX7_written 171 = .ok (.getfield 17, 3) := by decide +kernel
theorem dX7_written_174 : decode cX7_written 174 = .ok (.iload 9, 2) := by decide +kernel
theorem dX7_written_176 : decode cX7_written 176 = .ok (.iconst 1, 1) := by decide +kernel
theorem dX7_written_177 : decode cX7_written 177 = .ok (.iadd, 1) := by decide +kernel
theorem dX7_written_178 : decode cX7_written 178 = .ok (.laload, 1) := by decide +kernel
theorem dX7_written_179 : decode cX7_written 179 = .ok (.invokestatic 90, 3) := by decide +kernel
theorem dX7_written_182 : decode cX7_written 182 = .ok (.invokevirtual 97, 3) := by decide +kernel
theorem dX7_written_185 : decode cX7_written 185 = .ok (.iinc 10 1, 3) := by decide +kernel
theorem dX7_written_188 : decode cX7_written 188 = .ok (.goto (-40), 3) := by decide +kernel
theorem dX7_written_191 : decode cX7_written 191 = .ok (.iconst 1, 1) := by decide +kernel
theorem dX7_written_192 : decode cX7_written 192 = .ok (.ireturn, 1) := by decide +kernel
theorem dX7_offset_0 : decode cX7_offset 0 = .ok (.lload_n 0, 1) := by decide +kernel
theorem dX7_offset_1 : decode cX7_offset 1 = .ok (.bipush 10, 2) := by decide +kernel
theorem dX7_offset_3 : decode cX7_offset 3 = .ok (.iload_n 2, 1) := by decide +kernel
theorem dX7_offset_4 : decode cX7_offset 4 = .ok (.imul, 1) := by decide +kernel
theorem dX7_offset_5 : decode cX7_offset 5 = .ok (.lshr, 1) := by decide +kernel
theorem dX7_offset_6 : decode cX7_offset 6 = .ok (.ldc2_w 101, 3) := by decide +kernel
theorem dX7_offset_9 : decode cX7_offset 9 = .ok (.land, 1) := by decide +kernel
theorem dX7_offset_10 : decode cX7_offset 10 = .ok (.l2i, 1) := by decide +kernel
theorem dX7_offset_11 : decode cX7_offset 11 = .ok (.sipush 512, 3) := by decide +kernel
theorem dX7_offset_14 : decode cX7_offset 14 = .ok (.isub, 1) := by decide +kernel
theorem dX7_offset_15 : decode cX7_offset 15 = .ok (.ireturn, 1) := by decide +kernel
theorem dX7_flag_0 : decode cX7_flag 0 = .ok (.aload_n 0, 1) := by decide +kernel
theorem dX7_flag_1 : decode cX7_flag 1 = .ok (.getfield 103, 3) := by decide +kernel
theorem dX7_flag_4 : decode cX7_flag 4 = .ok (.iload_n 1, 1) := by decide +kernel
theorem dX7_flag_5 : decode cX7_flag 5 = .ok (.lshr, 1) := by decide +kernel
theorem dX7_flag_6 : decode cX7_flag 6 = .ok (.lconst 1, 1) := by decide +kernel
theorem dX7_flag_7 : decode cX7_flag 7 = .ok (.land, 1) := by decide +kernel
theorem dX7_flag_8 : decode cX7_flag 8 = .ok (.lconst 1, 1) := by decide +kernel
theorem dX7_flag_9 : decode cX7_flag 9 = .ok (.lcmp, 1) := by decide +kernel
theorem dX7_flag_10 : decode cX7_flag 10 = .ok (.ifCond .ne 7, 3) := by decide +kernel
theorem dX7_flag_13 : decode cX7_flag 13 = .ok (.iconst 1, 1) := by decide +kernel
theorem dX7_flag_14 : decode cX7_flag 14 = .ok (.goto 4, 3) := by decide +kernel
theorem dX7_flag_17 : decode cX7_flag 17 = .ok (.iconst 0, 1) := by decide +kernel
theorem dX7_flag_18 : decode cX7_flag 18 = .ok (.ireturn, 1) := by decide +kernel
theorem dX7_many_0 : decode cX7_many 0 = .ok (.iconst 0, 1) := by decide +kernel
theorem dX7_many_1 : decode cX7_many 1 = .ok (.istore 4, 2) := by decide +kernel
theorem dX7_many_3 : decode cX7_many 3 = .ok (.iload_n 2, 1) := by decide +kernel
theorem dX7_many_4 : decode cX7_many 4 = .ok (.istore 5, 2) := by decide +kernel
theorem dX7_many_6 : decode cX7_many 6 = .ok (.iload 5, 2) := by decide +kernel
theorem dX7_many_8 : decode cX7_many 8 = .ok (.iload_n 3, 1) := by decide +kernel
theorem dX7_many_9 : decode cX7_many 9 = .ok (.if_icmp .gt 21, 3) := by decide +kernel
theorem dX7_many_12 : decode cX7_many 12 = .ok (.iload 4, 2) := by decide +kernel
theorem dX7_many_14 : decode cX7_many 14 = .ok (.lload_n 0, 1) := by decide +kernel
theorem dX7_many_15 : decode cX7_many 15 = .ok (.iload 5, 2) := by decide +kernel
theorem dX7_many_17 : decode cX7_many 17 = .ok (.lshr, 1) := by decide +kernel
theorem dX7_many_18 : decode cX7_many 18 = .ok (.lconst 1, 1) := by decide +kernel
theorem dX7_many_19 : decode cX7_many 19 = .ok (.land, 1) := by decide +kernel
theorem dX7_many_20 : decode cX7_many 20 = .ok (.l2i, 1) := by decide +kernel
theorem dX7_many_21 : decode cX7_many 21 = .ok (.iadd, 1) := by decide +kernel
theorem dX7_many_22 : decode cX7_many 22 = .ok (.istore 4, 2) := by decide +kernel
theorem dX7_many_24 : decode cX7_many 24 = .ok (.iinc 5 1, 3) := by decide +kernel
theorem dX7_many_27 : decode cX7_many 27 = .ok (.goto (-21), 3) := by decide +kernel
theorem dX7_many_30 : decode cX7_many 30 = .ok (.iload 4, 2) := by decide +kernel
theorem dX7_many_32 : decode cX7_many 32 = .ok (.ireturn, 1) := by decide +kernel
set_option maxRecDepth 20000 in
theorem ggX7_isBad_X7_many : GoodIn wsX7_isBad wsX7_many := goodIn_r _ [4] (by decide +kernel) (by decide +kernel)
set_option maxRecDepth 20000 in
theorem gX7_isBad_X7_many : GoodIn wsX7_isBad (va_wsS RX7 106 yX7_many wsX7_many) := goodIn_app (goodIn_of _ (by decide +kernel)) ggX7_isBad_X7_many
set_option maxRecDepth 20000 in
theorem ggX7_isBad_X7_offset : GoodIn wsX7_isBad wsX7_offset := goodIn_r _ [7, 8] (by decide +kernel) (by decide +kernel)
set_option maxRecDepth 20000 in
theorem gX7_isBad_X7_offset : GoodIn wsX7_isBad (va_wsS RX7 110 yX7_offset wsX7_offset) := goodIn_app (goodIn_of _ (by decide +kernel)) ggX7_isBad_X7_offset
theorem dX7_isBad_0 : decode cX7_isBad 0 = .ok (.lload_n 0, 1) := by decide +kernel
theorem dX7_isBad_1 : decode cX7_isBad 1 = .ok (.bipush 45, 2) := by decide +kernel
theorem dX7_isBad_3 : decode cX7_isBad 3 = .ok (.lshr, 1) := by decide +kernel
theorem dX7_isBad_4 : decode cX7_isBad 4 = .ok (.lconst 0, 1) := by decide +kernel
theorem dX7_isBad_5 : decode cX7_isBad 5 = .ok (.lcmp, 1) := by decide +kernel
theorem dX7_isBad_6 : decode cX7_isBad 6 = .ok (.ifCond .eq 5, 3) := by decide +kernel
theorem dX7_isBad_9 : decode cX7_isBad 9 = .ok (.iconst 1, 1) := by decide +kernel
theorem dX7_isBad_10 : decode cX7_isBad 10 = .ok (.ireturn, 1) := by decide +kernel
theorem dX7_isBad_11 : decode cX7_isBad 11 = .ok (.lload_n 0, 1) := by decide +kernel
theorem dX7_isBad_12 : decode cX7_isBad 12 = .ok (.bipush 32, 2) := by decide +kernel
theorem dX7_isBad_14 : decode cX7_isBad 14 = .ok (.bipush 34, 2) := by decide +kernel
theorem dX7_isBad_16 : decode cX7_isBad 16 = .ok (.invokestatic 106, 3) := by decide +kernel
theorem dX7_isBad_19 : decode cX7_isBad 19 = .ok (.iconst 1, 1) := by decide +kernel
theorem dX7_isBad_20 : decode cX7_isBad 20 = .ok (.if_icmp .gt 51, 3) := by decide +kernel
theorem dX7_isBad_23 : decode cX7_isBad 23 = .ok (.lload_n 0, 1) := by decide +kernel
theorem dX7_isBad_24 : decode cX7_isBad 24 = .ok (.bipush 35, 2) := by decide +kernel
theorem dX7_isBad_26 : decode cX7_isBad 26 = .ok (.bipush 36, 2) := by decide +kernel
theorem dX7_isBad_28 : decode cX7_isBad 28 = .ok (.invokestatic 106, 3) := by decide +kernel
theorem dX7_isBad_31 : decode cX7_isBad 31 = .ok (.iconst 1, 1) := by decide +kernel
theorem dX7_isBad_32 : decode cX7_isBad 32 = .ok (.if_icmp .gt 39, 3) := by decide +kernel
theorem dX7_isBad_35 : decode cX7_isBad 35 = .ok (.lload_n 0, 1) := by decide +kernel
theorem dX7_isBad_36 : decode cX7_isBad 36 = .ok (.bipush 37, 2) := by decide +kernel
theorem dX7_isBad_38 : decode cX7_isBad 38 = .ok (.bipush 39, 2) := by decide +kernel
theorem dX7_isBad_40 : decode cX7_isBad 40 = .ok (.invokestatic 106, 3) := by decide +kernel
theorem dX7_isBad_43 : decode cX7_isBad 43 = .ok (.iconst 1, 1) := by decide +kernel
theorem dX7_isBad_44 : decode cX7_isBad 44 = .ok (.if_icmp .gt 27, 3) := by decide +kernel
theorem dX7_isBad_47 : decode cX7_isBad 47 = .ok (.lload_n 0, 1) := by decide +kernel
theorem dX7_isBad_48 : decode cX7_isBad 48 = .ok (.bipush 40, 2) := by decide +kernel
theorem dX7_isBad_50 : decode cX7_isBad 50 = .ok (.bipush 41, 2) := by decide +kernel
theorem dX7_isBad_52 : decode cX7_isBad 52 = .ok (.invokestatic 106, 3) := by decide +kernel
theorem dX7_isBad_55 : decode cX7_isBad 55 = .ok (.iconst 1, 1) := by decide +kernel
theorem dX7_isBad_56 : decode cX7_isBad 56 = .ok (.if_icmp .gt 15, 3) := by decide +kernel
theorem dX7_isBad_59 : decode cX7_isBad 59 = .ok (.lload_n 0, 1) := by decide +kernel
theorem dX7_isBad_60 : decode cX7_isBad 60 = .ok (.bipush 42, 2) := by decide +kernel
theorem dX7_isBad_62 : decode cX7_isBad 62 = .ok (.bipush 44, 2) := by decide +kernel
theorem dX7_isBad_64 : decode cX7_isBad 64 = .ok (.invokestatic 106, 3) := by decide +kernel
theorem dX7_isBad_67 : decode cX7_isBad 67 = .ok (.iconst 1, 1) := by decide +kernel
theorem dX7_isBad_68 : decode cX7_isBad 68 = .ok (.if_icmp .le 7, 3) := by decide +kernel
theorem dX7_isBad_71 : decode cX7_isBad 71 = .ok (.iconst 1, 1) := by decide +kernel
theorem dX7_isBad_72 : decode cX7_isBad 72 = .ok (.goto 4, 3) := by decide +kernel
theorem dX7_isBad_75 : decode cX7_isBad 75 = .ok (.iconst 0, 1) := by decide +kernel
theorem dX7_isBad_76 : decode cX7_isBad 76 = .ok (.istore_n 2, 1) := by decide +kernel
theorem dX7_isBad_77 : decode cX7_isBad 77 = .ok (.lload_n 0, 1) := by decide +kernel
theorem dX7_isBad_78 : decode cX7_isBad 78 = .ok (.bipush 32, 2) := by decide +kernel
theorem dX7_isBad_80 : decode cX7_isBad 80 = .ok (.bipush 32, 2) := by decide +kernel
theorem dX7_isBad_82 : decode cX7_isBad 82 = .ok (.invokestatic 106, 3) := by decide +kernel
theorem dX7_isBad_85 : decode cX7_isBad 85 = .ok (.iconst 1, 1) := by decide +kernel
theorem dX7_isBad_86 : decode cX7_isBad 86 = .ok (.if_icmp .ne 16, 3) := by decide +kernel
theorem dX7_isBad_89 : decode cX7_isBad 89 = .ok (.lload_n 0, 1) := by decide +kernel
theorem dX7_isBad_90 : decode cX7_isBad 90 = .ok (.iconst 2, 1) := by decide +kernel
theorem dX7_isBad_91 : decode cX7_isBad 91 = .ok (.invokestatic 110, 3) := by decide +kernel
theorem dX7_isBad_94 : decode cX7_isBad 94 = .ok (.iconst 1, 1) := by decide +kernel
theorem dX7_isBad_95 : decode cX7_isBad 95 = .ok (.if_icmp .eq 7, 3) := by decide +kernel
theorem dX7_isBad_98 : decode cX7_isBad 98 = .ok (.iconst 1, 1) := by decide +kernel
theorem dX7_isBad_99 : decode cX7_isBad 99 = .ok (.goto 4, 3) := by decide +kernel
theorem dX7_isBad_102 : decode cX7_isBad 102 = .ok (.iconst 0, 1) := by decide +kernel
theorem dX7_isBad_103 : decode cX7_isBad 103 = .ok (.istore_n 3, 1) := by decide +kernel
theorem dX7_isBad_104 : decode cX7_isBad 104 = .ok (.lload_n 0, 1) := by decide +kernel
theorem dX7_isBad_105 : decode cX7_isBad 105 = .ok (.bipush 39, 2) := by decide +kernel
theorem dX7_isBad_107 : decode cX7_isBad 107 = .ok (.bipush 39, 2) := by decide +kernel
theorem dX7_isBad_109 : decode cX7_isBad 109 = .ok (.invokestatic 106, 3) := by decide +kernel
theorem dX7_isBad_112 : decode cX7_isBad 112 = .ok (.iconst 1, 1) := by decide +kernel
theorem dX7_isBad_113 : decode cX7_isBad 113 = .ok (.if_icmp .ne 36, 3) := by decide +kernel
theorem dX7_isBad_116 : decode cX7_isBad 116 = .ok (.lload_n 0, 1) := by decide +kernel
theorem dX7_isBad_117 : decode cX7_isBad 117 = .ok (.bipush 35, 2) := by decide +kernel
theorem dX7_isBad_119 : decode cX7_isBad 119 = .ok (.bipush 36, 2) := by decide +kernel
theorem dX7_isBad_121 : decode cX7_isBad 121 = .ok (.invokestatic 106, 3) := by decide +kernel
theorem dX7_isBad_124 : decode cX7_isBad 124 = .ok (.lload_n 0, 1) := by decide +kernel
theorem dX7_isBad_125 : decode cX7_isBad 125 = .ok (.bipush 40, 2) := by decide +kernel
theorem dX7_isBad_127 : decode cX7_isBad 127 = .ok (.bipush 40, 2) := by decide +kernel
theorem dX7_isBad_129 : decode cX7_isBad 129 = .ok (.invokestatic 106, 3) := by decide +kernel
theorem dX7_isBad_132 : decode cX7_isBad 132 = .ok (.iadd, 1) := by decide +kernel
theorem dX7_isBad_133 : decode cX7_isBad 133 = .ok (.lload_n 0, 1) := by decide +kernel
theorem dX7_isBad_134 : decode cX7_isBad 134 = .ok (.bipush 42, 2) := by decide +kernel
theorem dX7_isBad_136 : decode cX7_isBad 136 = .ok (.bipush 44, 2) := by decide +kernel
theorem dX7_isBad_138 : decode cX7_isBad 138 = .ok (.invokestatic 106, 3) := by decide +kernel
theorem dX7_isBad_141 : decode cX7_isBad 141 = .ok (.iadd, 1) := by decide +kernel
theorem dX7_isBad_142 : decode cX7_isBad 142 = .ok (.ifCond .le 7, 3) := by decide +kernel
theorem dX7_isBad_145 : decode cX7_isBad 145 = .ok (.iconst 1, 1) := by decide +kernel
theorem dX7_isBad_146 : decode cX7_isBad 146 = .ok (.goto 4, 3) := by decide +kernel
theorem dX7_isBad_149 : decode cX7_isBad 149 = .ok (.iconst 0, 1) := by decide +kernel
theorem dX7_isBad_150 : decode cX7_isBad 150 = .ok (.istore 4, 2) := by decide +kernel
theorem dX7_isBad_152 : decode cX7_isBad 152 = .ok (.iload_n 2, 1) := by decide +kernel
theorem dX7_isBad_153 : decode cX7_isBad 153 = .ok (.ifCond .ne 35, 3) := by decide +kernel
theorem dX7_isBad_156 : decode cX7_isBad 156 = .ok (.iload_n 3, 1) := by decide +kernel
theorem dX7_isBad_157 : decode cX7_isBad 157 = .ok (.ifCond .ne 31, 3) := by decide +kernel
theorem dX7_isBad_160 : decode cX7_isBad 160 = .ok (.iload 4, 2) := by decide +kernel
theorem dX7_isBad_162 : decode cX7_isBad 162 = .ok (.ifCond .ne 26, 3) := by decide +kernel
theorem dX7_isBad_165 : decode cX7_isBad 165 = .ok (.lload_n 0, 1) := by decide +kernel
theorem dX7_isBad_166 : decode cX7_isBad 166 = .ok (.bipush 42, 2) := by decide +kernel
theorem dX7_isBad_168 : decode cX7_isBad 168 = .ok (.bipush 42, 2) := by decide +kernel
theorem dX7_isBad_170 : decode cX7_isBad 170 = .ok (.invokestatic 106, 3) := by decide +kernel
theorem dX7_isBad_173 : decode cX7_isBad 173 = .ok (.iconst 1, 1) := by decide +kernel
theorem dX7_isBad_174 : decode cX7_isBad 174 = .ok (.if_icmp .ne 18, 3) := by decide +kernel
theorem dX7_isBad_177 : decode cX7_isBad 177 = .ok (.lload_n 0, 1) := by decide +kernel
theorem dX7_isBad_178 : decode cX7_isBad 178 = .ok (.bipush 40, 2) := by decide +kernel
theorem dX7_isBad_180 : decode cX7_isBad 180 = .ok (.bipush 41, 2) := by decide +kernel
theorem dX7_isBad_182 : decode cX7_isBad 182 = .ok (.invokestatic 106, 3) := by decide +kernel
theorem dX7_isBad_185 : decode cX7_isBad 185 = .ok (.ifCond .le 7, 3) := by decide +kernel
theorem dX7_isBad_188 : decode cX7_isBad 188 = .ok (.iconst 1, 1) := by decide +kernel
theorem dX7_isBad_189 : decode cX7_isBad 189 = .ok (.goto 4, 3) := by decide +kernel
theorem dX7_isBad_192 : decode cX7_isBad 192 = .ok (.iconst 0, 1) := by decide +kernel
theorem dX7_isBad_193 : decode cX7_isBad 193 = .ok (.ireturn, 1) := by decide +kernel
theorem dX7_trouble_0 : decode cX7_trouble 0 = .ok (.aload_n 0, 1) := by decide +kernel
theorem dX7_trouble_1 : decode cX7_trouble 1 = .ok (.getfield 114, 3) := by decide +kernel
theorem dX7_trouble_4 : decode cX7_trouble 4 = .ok (.ifCond .ne 12, 3) := by decide +kernel
theorem dX7_trouble_7 : decode cX7_trouble 7 = .ok (.iload_n 1, 1) := by decide +kernel
theorem dX7_trouble_8 : decode cX7_trouble 8 = .ok (.ifCond .eq 8, 3) := by decide +kernel
theorem dX7_trouble_11 : decode cX7_trouble 11 = .ok (.aload_n 0, 1) := by decide +kernel
theorem dX7_trouble_12 : decode cX7_trouble 12 = .ok (.iload_n 2, 1) := by decide +kernel
theorem dX7_trouble_13 : decode cX7_trouble 13 = .ok (.putfield 114, 3) := by decide +kernel
theorem dX7_trouble_16 : decode cX7_trouble 16 = .ok (.return_, 1) := by decide +kernel
set_option maxRecDepth 20000 in
theorem ggX7_needed_X7_read : GoodIn wsX7_needed wsX7_read := goodIn_r _ [7, 8, 9, 10, 2, 11, 12, 13, 14, 15, 16, 6, 17, 18, 23, 24, 25, 26, 27, 28, 29, 30, 31, 32, 33, 34, 35, 36, 37] (by decide +kernel) (by decide +kernel)
set_option maxRecDepth 20000 in
theorem gX7_needed_X7_read : GoodIn wsX7_needed (wsV RX7 117 RX7 yX7_read wsX7_read) := goodIn_app (goodIn_of _ (by decide +kernel)) ggX7_needed_X7_read
set_option maxRecDepth 20000 in
theorem ggX7_needed_X7_trouble : GoodIn wsX7_needed wsX7_trouble := goodIn_r _ [22, 1, 23, 24, 25, 26, 27, 28, 29, 30, 31, 32, 33, 34, 35, 36, 37] (by decide +kernel) (by decide +kernel)
set_option maxRecDepth 20000 in
theorem gX7_needed_X7_trouble : GoodIn wsX7_needed (wsV RX7 121 RX7 yX7_trouble wsX7_trouble) := goodIn_app (goodIn_of _ (by decide +kernel)) ggX7_needed_X7_trouble
theorem dX7_needed_0 : decode cX7_needed 0 = .ok (.aload_n 0, 1) := by decide +kernel
theorem dX7_needed_1 : decode cX7_needed 1 = .ok (.getfield 114, 3) := by decide +kernel
theorem dX7_needed_4 : decode cX7_needed 4 = .ok (.ifCond .le 4, 3) := by decide +kernel
theorem dX7_needed_7 : decode cX7_needed 7 = .ok (.return_, 1) := by decide +kernel
theorem dX7_needed_8 : decode cX7_needed 8 = .ok (.aload_n 0, 1) := by decide +kernel
theorem dX7_needed_9 : decode cX7_needed 9 = .ok (.iload_n 1, 1) := by decide +kernel
theorem dX7_needed_10 : decode cX7_needed 10 = .ok (.invokevirtual 117, 3) := by decide +kernel
theorem dX7_needed_13 : decode cX7_needed 13 = .ok (.aload_n 0, 1) := by decide +kernel
theorem dX7_needed_14 : decode cX7_needed 14 = .ok (.aload_n 0, 1) := by decide +kernel
theorem dX7_needed_15 : decode cX7_needed 15 = .ok (.getfield 57, 3) := by decide +kernel
theorem dX7_needed_18 : decode cX7_needed 18 = .ok (.ifCond .ne 7, 3) := by decide +kernel
theorem dX7_needed_21 : decode cX7_needed 21 = .ok (.iconst 1, 1) := by decide +kernel
theorem dX7_needed_22 : decode cX7_needed 22 = .ok (.goto 4, 3) := by decide +kernel
theorem dX7_needed_25 : decode cX7_needed 25 = .ok (.iconst 0, 1) := by decide +kernel
theorem dX7_needed_26 : decode cX7_needed 26 = .ok (.iconst 1, 1) := by decide +kernel
theorem dX7_needed_27 : decode cX7_needed 27 = .ok (.invokevirtual 121, 3) := by decide +kernel
theorem dX7_needed_30 : decode cX7_needed 30 = .ok (.return_, 1) := by decide +kernel
set_option maxRecDepth 20000 in
theorem ggX7_store_X7_written : GoodIn wsX7_store wsX7_written := goodIn_r _ [8, 9, 10, 11, 12, 13, 7, 14, 15, 16, 17, 18, 19, 20, 21, 22, 23, 24, 25, 26, 27, 32, 33, 34, 35, 36, 37, 38, 39, 40, 41, 42, 43, 44, 45, 46] (by decide +kernel) (by decide +kernel)
set_option maxRecDepth 20000 in
theorem gX7_store_X7_written : GoodIn wsX7_store (wsV RX7 124 RX7 yX7_written wsX7_written) := goodIn_app (goodIn_of _ (by decide +kernel)) ggX7_store_X7_written
set_option maxRecDepth 20000 in
theorem ggX7_store_X7_trouble : GoodIn wsX7_store wsX7_trouble := goodIn_r _ [31, 1, 32, 33, 34, 35, 36, 37, 38, 39, 40, 41, 42, 43, 44, 45, 46] (by decide +kernel) (by decide +kernel)
set_option maxRecDepth 20000 in
theorem gX7_store_X7_trouble : GoodIn wsX7_store (wsV RX7 121 RX7 yX7_trouble wsX7_trouble) := goodIn_app (goodIn_of _ (by decide +kernel)) ggX7_store_X7_trouble
theorem dX7_store_0 : decode cX7_store 0 = .ok (.aload_n 0, 1) := by decide +kernel
theorem dX7_store_1 : decode cX7_store 1 = .ok (.getfield 114, 3) := by decide +kernel
theorem dX7_store_4 : decode cX7_store 4 = .ok (.ifCond .le 4, 3) := by decide +kernel
theorem dX7_store_7 : decode cX7_store 7 = .ok (.return_, 1) := by decide +kernel
theorem dX7_store_8 : decode cX7_store 8 = .ok (.aload_n 0, 1) := by decide +kernel
theorem dX7_store_9 : decode cX7_store 9 = .ok (.aload_n 0, 1) := by decide +kernel
theorem dX7_store_10 : decode cX7_store 10 = .ok (.aload_n 0, 1) := by decide +kernel
theorem dX7_store_11 : decode cX7_store 11 = .ok (.getfield 21, 3) := by decide +kernel
theorem dX7_store_14 : decode cX7_store 14 = .ok (.iload_n 1, 1) := by decide +kernel
theorem dX7_store_15 : decode cX7_store 15 = .ok (.iaload, 1) := by decide +kernel
theorem dX7_store_16 : decode cX7_store 16 = .ok (.aload_n 0, 1) := by decide +kernel
theorem dX7_store_17 : decode cX7_store 17 = .ok (.getfield 24, 3) := by decide +kernel
theorem dX7_store_20 : decode cX7_store 20 = .ok (.iload_n 1, 1) := by decide +kernel
theorem dX7_store_21 : decode cX7_store 21 = .ok (.laload, 1) := by decide +kernel
theorem dX7_store_22 : decode cX7_store 22 = .ok (.aload_n 0, 1) := by decide +kernel
theorem dX7_store_23 : decode cX7_store 23 = .ok (.getfield 21, 3) := by decide +kernel
theorem dX7_store_26 : decode cX7_store 26 = .ok (.iload_n 2, 1) := by decide +kernel
theorem dX7_store_27 : decode cX7_store 27 = .ok (.iaload, 1) := by decide +kernel
theorem dX7_store_28 : decode cX7_store 28 = .ok (.aload_n 0, 1) := by decide +kernel
theorem dX7_store_29 : decode cX7_store 29 = .ok (.getfield 24, 3) := by decide +kernel
theorem dX7_store_32 : decode cX7_store 32 = .ok (.iload_n 2, 1) := by decide +kernel
theorem dX7_store_33 : decode cX7_store 33 = .ok (.laload, 1) := by decide +kernel
theorem dX7_store_34 : decode cX7_store 34 = .ok (.invokevirtual 124, 3) := by decide +kernel
theorem dX7_store_37 : decode cX7_store 37 = .ok (.ifCond .ne 7, 3) := by decide +kernel
theorem dX7_store_40 : decode cX7_store 40 = .ok (.iconst 1, 1) := by decide +kernel
theorem dX7_store_41 : decode cX7_store 41 = .ok (.goto 4, 3) := by decide +kernel
theorem dX7_store_44 : decode cX7_store 44 = .ok (.iconst 0, 1) := by decide +kernel
theorem dX7_store_45 : decode cX7_store 45 = .ok (.iconst 2, 1) := by decide +kernel
theorem dX7_store_46 : decode cX7_store 46 = .ok (.invokevirtual 121, 3) := by decide +kernel
theorem dX7_store_49 : decode cX7_store 49 = .ok (.return_, 1) := by decide +kernel
set_option maxRecDepth 20000 in
theorem ggX7_sure_X7_trouble : GoodIn wsX7_sure wsX7_trouble := goodIn_r _ [7, 1, 16, 17, 18, 19, 20, 21, 22, 23, 24, 25, 26, 27, 28, 29, 30] (by decide +kernel) (by decide +kernel)
set_option maxRecDepth 20000 in
theorem gX7_sure_X7_trouble : GoodIn wsX7_sure (wsV RX7 121 RX7 yX7_trouble wsX7_trouble) := goodIn_app (goodIn_of _ (by decide +kernel)) ggX7_sure_X7_trouble
set_option maxRecDepth 20000 in
theorem ggX7_sure_X7_keep : GoodIn wsX7_sure wsX7_keep := goodIn_r _ [11, 12, 13, 14, 15, 16, 17, 18, 19, 20, 21, 22, 23, 24, 25, 26, 27, 28, 29, 30] (by decide +kernel) (by decide +kernel)
set_option maxRecDepth 20000 in
theorem gX7_sure_X7_keep : GoodIn wsX7_sure (wsV RX7 128 RX7 yX7_keep wsX7_keep) := goodIn_app (goodIn_of _ (by decide +kernel)) ggX7_sure_X7_keep
theorem dX7_sure_0 : decode cX7_sure 0 = .ok (.aload_n 0, 1) := by decide +kernel
theorem dX7_sure_1 : decode cX7_sure 1 = .ok (.getfield 114, 3) := by decide +kernel
theorem dX7_sure_4 : decode cX7_sure 4 = .ok (.ifCond .le 4, 3) := by decide +kernel
theorem dX7_sure_7 : decode cX7_sure 7 = .ok (.return_, 1) := by decide +kernel
theorem dX7_sure_8 : decode cX7_sure 8 = .ok (.aload_n 0, 1) := by decide +kernel
theorem dX7_sure_9 : decode cX7_sure 9 = .ok (.aload_n 0, 1) := by decide +kernel
theorem dX7_sure_10 : decode cX7_sure 10 = .ok (.getfield 57, 3) := by decide +kernel
theorem dX7_sure_13 : decode cX7_sure 13 = .ok (.ifCond .ne 7, 3) := by decide +kernel
theorem dX7_sure_16 : decode cX7_sure 16 = .ok (.iconst 1, 1) := by decide +kernel
theorem dX7_sure_17 : decode cX7_sure 17 = .ok (.goto 4, 3) := by decide +kernel
theorem dX7_sure_20 : decode cX7_sure 20 = .ok (.iconst 0, 1) := by decide +kernel
theorem dX7_sure_21 : decode cX7_sure 21 = .ok (.iconst 4, 1) := by decide +kernel
theorem dX7_sure_22 : decode cX7_sure 22 = .ok (.invokevirtual 121, 3) := by decide +kernel
theorem dX7_sure_25 : decode cX7_sure 25 = .ok (.aload_n 0, 1) := by decide +kernel
theorem dX7_sure_26 : decode cX7_sure 26 = .ok (.iload_n 1, 1) := by decide +kernel
theorem dX7_sure_27 : decode cX7_sure 27 = .ok (.invokevirtual 128, 3) := by decide +kernel
theorem dX7_sure_30 : decode cX7_sure 30 = .ok (.return_, 1) := by decide +kernel
set_option maxRecDepth 20000 in
theorem ggX7_place_X7_sure : GoodIn wsX7_place wsX7_sure := goodIn_r _ [6, 7, 8, 9, 10, 11, 5, 12, 13, 14, 15, 16, 1, 17, 18, 19, 20, 21, 22, 23, 24, 25, 26, 27, 28, 29, 30, 31, 32, 33, 34] (by decide +kernel) (by decide +kernel)
set_option maxRecDepth 20000 in
theorem gX7_place_X7_sure : GoodIn wsX7_place (wsV RX7 131 RX7 yX7_sure wsX7_sure) := goodIn_app (goodIn_of _ (by decide +kernel)) ggX7_place_X7_sure
set_option maxRecDepth 20000 in
theorem ggX7_place_X7_trouble : GoodIn wsX7_place wsX7_trouble := goodIn_r _ [12, 7, 20, 21, 22, 23, 24, 25, 26, 27, 28, 29, 30, 31, 32, 33, 34] (by decide +kernel) (by decide +kernel)
set_option maxRecDepth 20000 in
theorem gX7_place_X7_trouble : GoodIn wsX7_place (wsV RX7 121 RX7 yX7_trouble wsX7_trouble) := goodIn_app (goodIn_of _ (by decide +kernel)) ggX7_place_X7_trouble
theorem dX7_place_0 : decode cX7_place 0 = .ok (.aload_n 0, 1) := by decide +kernel
theorem dX7_place_1 : decode cX7_place 1 = .ok (.iload_n 1, 1) := by decide +kernel
theorem dX7_place_2 : decode cX7_place 2 = .ok (.invokevirtual 131, 3) := by decide +kernel
theorem dX7_place_5 : decode cX7_place 5 = .ok (.aload_n 0, 1) := by decide +kernel
theorem dX7_place_6 : decode cX7_place 6 = .ok (.aload_n 0, 1) := by decide +kernel
theorem dX7_place_7 : decode cX7_place 7 = .ok (.getfield 21, 3) := by decide +kernel
theorem dX7_place_10 : decode cX7_place 10 = .ok (.iload_n 1, 1) := by decide +kernel
theorem dX7_place_11 : decode cX7_place 11 = .ok (.iaload, 1) := by decide +kernel
theorem dX7_place_12 : decode cX7_place 12 = .ok (.ifCond .ne 7, 3) := by decide +kernel
theorem dX7_place_15 : decode cX7_place 15 = .ok (.iconst 1, 1) := by decide +kernel
theorem dX7_place_16 : decode cX7_place 16 = .ok (.goto 4, 3) := by decide +kernel
theorem dX7_place_19 : decode cX7_place 19 = .ok (.iconst 0, 1) := by decide +kernel
theorem dX7_place_20 : decode cX7_place 20 = .ok (.iconst 4, 1) := by decide +kernel
theorem dX7_place_21 : decode cX7_place 21 = .ok (.invokevirtual 121, 3) := by decide +kernel
theorem dX7_place_24 : decode cX7_place 24 = .ok (.return_, 1) := by decide +kernel
set_option maxRecDepth 20000 in
theorem ggX7_placeOfOp1_X7_flag : GoodIn wsX7_placeOfOp1 wsX7_flag := goodIn_r _ [7, 1, 58, 59, 60, 61, 62, 63, 64, 65, 66, 67, 68, 69, 70, 71, 72] (by decide +kernel) (by decide +kernel)
set_option maxRecDepth 20000 in
theorem gX7_placeOfOp1_X7_flag : GoodIn wsX7_placeOfOp1 (wsV RX7 134 RX7 yX7_flag wsX7_flag) := goodIn_app (goodIn_of _ (by decide +kernel)) ggX7_placeOfOp1_X7_flag
set_option maxRecDepth 20000 in
theorem ggX7_placeOfOp1_X7_offset : GoodIn wsX7_placeOfOp1 wsX7_offset := goodIn_r _ [10, 11] (by decide +kernel) (by decide +kernel)
set_option maxRecDepth 20000 in
theorem gX7_placeOfOp1_X7_offset : GoodIn wsX7_placeOfOp1 (va_wsS RX7 110 yX7_offset wsX7_offset) := goodIn_app (goodIn_of _ (by decide +kernel)) ggX7_placeOfOp1_X7_offset
set_option maxRecDepth 20000 in
theorem ggX7_placeOfOp1_X7_further : GoodIn wsX7_placeOfOp1 wsX7_further := goodIn_r _ [15, 16, 17, 18, 19, 20, 21, 22, 23, 24, 6, 25, 26, 58, 59, 60, 61, 62, 63, 64, 65, 66, 67, 68, 69, 70, 71, 72] (by decide +kernel) (by decide +kernel)
set_option maxRecDepth 20000 in
theorem gX7_placeOfOp1_X7_further : GoodIn wsX7_placeOfOp1 (wsV RX7 71 RX7 yX7_further wsX7_further) := goodIn_app (goodIn_of _ (by decide +kernel)) ggX7_placeOfOp1_X7_further
set_option maxRecDepth 20000 in
theorem ggX7_placeOfOp1_X7_needed : GoodIn wsX7_placeOfOp1 wsX7_needed := goodIn_r _ [30, 2, 21, 31, 32, 33, 6, 34, 17, 16, 35, 36, 26, 37, 18, 38, 39, 40, 41, 42, 43, 44, 45, 58, 59, 60, 61, 62, 63, 64, 65, 66, 67, 68, 69, 70, 71, 72] (by decide +kernel) (by decide +kernel)
set_option maxRecDepth 20000 in
theorem gX7_placeOfOp1_X7_needed : GoodIn wsX7_placeOfOp1 (wsV RX7 138 RX7 yX7_needed wsX7_needed) := goodIn_app (goodIn_of _ (by decide +kernel)) ggX7_placeOfOp1_X7_needed
set_option maxRecDepth 20000 in
theorem ggX7_placeOfOp1_X7_place : GoodIn wsX7_placeOfOp1 wsX7_place := goodIn_r _ [49, 16, 50, 51, 52, 6, 53, 2, 21, 42, 43, 44, 45, 54, 55, 56, 57, 26, 17, 18, 58, 59, 60, 61, 62, 63, 64, 65, 66, 67, 68, 69, 70, 71, 72] (by decide +kernel) (by decide +kernel)
set_option maxRecDepth 20000 in
theorem gX7_placeOfOp1_X7_place : GoodIn wsX7_placeOfOp1 (wsV RX7 141 RX7 yX7_place wsX7_place) := goodIn_app (goodIn_of _ (by decide +kernel)) ggX7_placeOfOp1_X7_place
theorem dX7_placeOfOp1_0 : decode cX7_placeOfOp1 0 = .ok (.aload_n 0, 1) := by decide +kernel
theorem dX7_placeOfOp1_1 : decode cX7_placeOfOp1 1 = .ok (.bipush 32, 2) := by decide +kernel
theorem dX7_placeOfOp1_3 : decode cX7_placeOfOp1 3 = .ok (.invokevirtual 134, 3) := by decide +kernel
theorem dX7_placeOfOp1_6 : decode cX7_placeOfOp1 6 = .ok (.ifCond .ne 21, 3) := by decide +kernel
theorem dX7_placeOfOp1_9 : decode cX7_placeOfOp1 9 = .ok (.aload_n 0, 1) := by decide +kernel
theorem dX7_placeOfOp1_10 : decode cX7_placeOfOp1 10 = .ok (.bipush 33, 2) := by decide +kernel
theorem dX7_placeOfOp1_12 : decode cX7_placeOfOp1 12 = .ok (.invokevirtual 134, 3) := by decide +kernel
theorem dX7_placeOfOp1_15 : decode cX7_placeOfOp1 15 = .ok (.ifCond .ne 12, 3) := by decide +kernel
theorem dX7_placeOfOp1_18 : decode cX7_placeOfOp1 18 = .ok (.aload_n 0, 1) := by decide +kernel
theorem dX7_placeOfOp1_19 : decode cX7_placeOfOp1 19 = .ok (.bipush 34, 2) := by decide +kernel
theorem dX7_placeOfOp1_21 : decode cX7_placeOfOp1 21 = .ok (.invokevirtual 134, 3) := by decide +kernel
theorem dX7_placeOfOp1_24 : decode cX7_placeOfOp1 24 = .ok (.ifCond .eq 46, 3) := by decide +kernel
theorem dX7_placeOfOp1_27 : decode cX7_placeOfOp1 27 = .ok (.aload_n 0, 1) := by decide +kernel
theorem dX7_placeOfOp1_28 : decode cX7_placeOfOp1 28 = .ok (.aload_n 0, 1) := by decide +kernel
theorem dX7_placeOfOp1_29 : decode cX7_placeOfOp1 29 = .ok (.bipush 32, 2) := by decide +kernel
theorem dX7_placeOfOp1_31 : decode cX7_placeOfOp1 31 = .ok (.invokevirtual 134, 3) := by decide +kernel
theorem dX7_placeOfOp1_34 : decode cX7_placeOfOp1 34 = .ok (.ifCond .eq 7, 3) := by decide +kernel
theorem dX7_placeOfOp1_37 : decode cX7_placeOfOp1 37 = .ok (.iconst 0, 1) := by decide +kernel
theorem dX7_placeOfOp1_38 : decode cX7_placeOfOp1 38 = .ok (.goto 17, 3) := by decide +kernel
theorem dX7_placeOfOp1_41 : decode cX7_placeOfOp1 41 = .ok (.aload_n 0, 1) := by decide +kernel
theorem dX7_placeOfOp1_42 : decode cX7_placeOfOp1 42 = .ok (.bipush 33, 2) := by decide +kernel
theorem dX7_placeOfOp1_44 : decode cX7_placeOfOp1 44 = .ok (.invokevirtual 134, 3) := by decide +kernel
theorem dX7_placeOfOp1_47 : decode cX7_placeOfOp1 47 = .ok (.ifCond .eq 7, 3) := by decide +kernel
theorem dX7_placeOfOp1_50 : decode cX7_placeOfOp1 50 = .ok (.iconst 2, 1) := by decide +kernel
theorem dX7_placeOfOp1_51 : decode cX7_placeOfOp1 51 = .ok (.goto 4, 3) := by decide +kernel
theorem dX7_placeOfOp1_54 : decode cX7_placeOfOp1 54 = .ok (.iconst 1, 1) := by decide +kernel
theorem dX7_placeOfOp1_55 : decode cX7_placeOfOp1 55 = .ok (.aload_n 0, 1) := by decide +kernel
theorem dX7_placeOfOp1_56 : decode cX7_placeOfOp1 56 = .ok (.getfield 103, 3) := by decide +kernel
theorem dX7_placeOfOp1_59 : decode cX7_placeOfOp1 59 = .ok (.iconst 2, 1) := by decide +kernel
theorem dX7_placeOfOp1_60 : decode cX7_placeOfOp1 60 = .ok (.invokestatic 110, 3) := by decide +kernel
theorem dX7_placeOfOp1_63 : decode cX7_placeOfOp1 63 = .ok (.i2l, 1) := by decide +kernel
theorem dX7_placeOfOp1_64 : decode cX7_placeOfOp1 64 = .ok (.invokevirtual 71, 3) := by decide +kernel
theorem dX7_placeOfOp1_67 : decode cX7_placeOfOp1 67 = .ok (.goto 36, 3) := by decide +kernel
theorem dX7_placeOfOp1_70 : decode cX7_placeOfOp1 70 = .ok (.aload_n 0, 1) := by decide +kernel
theorem dX7_placeOfOp1_71 : decode cX7_placeOfOp1 71 = .ok (.iconst 4, 1) := by decide +kernel
theorem dX7_placeOfOp1_72 : decode cX7_placeOfOp1 72 = .ok (.invokevirtual 138, 3) := by decide +kernel
theorem dX7_placeOfOp1_75 : decode cX7_placeOfOp1 75 = .ok (.aload_n 0, 1) := by decide +kernel
theorem dX7_placeOfOp1_76 : decode cX7_placeOfOp1 76 = .ok (.bipush 10, 2) := by decide +kernel
theorem dX7_placeOfOp1_78 : decode cX7_placeOfOp1 78 = .ok (.invokevirtual 141, 3) := by decide +kernel
theorem dX7_placeOfOp1_81 : decode cX7_placeOfOp1 81 = .ok (.aload_n 0, 1) := by decide +kernel
theorem dX7_placeOfOp1_82 : decode cX7_placeOfOp1 82 = .ok (.getfield 114, 3) := by decide +kernel
theorem dX7_placeOfOp1_85 : decode cX7_placeOfOp1 85 = .ok (.ifCond .ne 18, 3) := by decide +kernel
theorem dX7_placeOfOp1_88 : decode cX7_placeOfOp1 88 = .ok (.aload_n 0, 1) := by decide +kernel
theorem dX7_placeOfOp1_89 : decode cX7_placeOfOp1 89 = .ok (.bipush 10, 2) := by decide +kernel
theorem dX7_placeOfOp1_91 : decode cX7_placeOfOp1 91 = .ok (.aload_n 0, 1) := by decide +kernel
theorem dX7_placeOfOp1_92 : decode cX7_placeOfOp1 92 = .ok (.getfield 103, 3) := by decide +kernel
theorem dX7_placeOfOp1_95 : decode cX7_placeOfOp1 95 = .ok (.iconst 2, 1) := by decide +kernel
theorem dX7_placeOfOp1_96 : decode cX7_placeOfOp1 96 = .ok (.invokestatic 110, 3) := by decide +kernel
theorem dX7_placeOfOp1_99 : decode cX7_placeOfOp1 99 = .ok (.i2l, 1) := by decide +kernel
theorem dX7_placeOfOp1_100 : decode cX7_placeOfOp1 100 = .ok (.invokevirtual 71, 3) := by decide +kernel
theorem dX7_placeOfOp1_103 : decode cX7_placeOfOp1 103 = .ok (.aload_n 0, 1) := by decide +kernel
theorem dX7_placeOfOp1_104 : decode cX7_placeOfOp1 104 = .ok (.iconst 5, 1) := by decide +kernel
theorem dX7_placeOfOp1_105 : decode cX7_placeOfOp1 105 = .ok (.invokevirtual 141, 3) := by decide +kernel
theorem dX7_placeOfOp1_108 : decode cX7_placeOfOp1 108 = .ok (.return_, 1) := by decide +kernel
set_option maxRecDepth 20000 in
theorem ggX7_deduce_X7_flag : GoodIn wsX7_deduce wsX7_flag := goodIn_r _ [9, 10, 92, 93, 94, 95, 96, 97, 98, 99, 100, 101, 102, 103, 104, 105, 106] (by decide +kernel) (by decide +kernel)
set_option maxRecDepth 20000 in
theorem gX7_deduce_X7_flag : GoodIn wsX7_deduce (wsV RX7 134 RX7 yX7_flag wsX7_flag) := goodIn_app (goodIn_of _ (by decide +kernel)) ggX7_deduce_X7_flag
set_option maxRecDepth 20000 in
theorem ggX7_deduce_X7_read : GoodIn wsX7_deduce wsX7_read := goodIn_r _ [14, 4, 3, 15, 2, 16, 17, 18, 19, 20, 21, 8, 22, 23, 92, 93, 94, 95, 96, 97, 98, 99, 100, 101, 102, 103, 104, 105, 106] (by decide +kernel) (by decide +kernel)
set_option maxRecDepth 20000 in
theorem gX7_deduce_X7_read : GoodIn wsX7_deduce (wsV RX7 117 RX7 yX7_read wsX7_read) := goodIn_app (goodIn_of _ (by decide +kernel)) ggX7_deduce_X7_read
set_option maxRecDepth 20000 in
theorem ggX7_deduce_X7_keep : GoodIn wsX7_deduce wsX7_keep := goodIn_r _ [27, 3, 17, 4, 19, 92, 93, 94, 95, 96, 97, 98, 99, 100, 101, 102, 103, 104, 105, 106] (by decide +kernel) (by decide +kernel)
set_option maxRecDepth 20000 in
theorem gX7_deduce_X7_keep : GoodIn wsX7_deduce (wsV RX7 128 RX7 yX7_keep wsX7_keep) := goodIn_app (goodIn_of _ (by decide +kernel)) ggX7_deduce_X7_keep
set_option maxRecDepth 20000 in
theorem ggX7_deduce_X7_minus : GoodIn wsX7_deduce wsX7_minus := goodIn_r _ [31, 3, 4, 2, 32, 33, 8, 34, 35, 36, 37, 38, 39, 40, 41, 42, 43, 44, 45, 46, 47, 48, 17, 19, 49, 50, 51, 52, 53, 54, 55, 56, 57, 58, 59, 92, 93, 94, 95, 96, 97, 98, 99, 100, 101, 102, 103, 104, 105, 106] (by decide +kernel) (by decide +kernel)
set_option maxRecDepth 20000 in
theorem gX7_deduce_X7_minus : GoodIn wsX7_deduce (wsV RX7 144 RX7 yX7_minus wsX7_minus) := goodIn_app (goodIn_of _ (by decide +kernel)) ggX7_deduce_X7_minus
set_option maxRecDepth 20000 in
theorem ggX7_deduce_X7_times : GoodIn wsX7_deduce wsX7_times := goodIn_r _ [63, 3, 4, 2, 32, 33, 8, 34, 35, 36, 37, 38, 39, 40, 41, 42, 43, 44, 45, 46, 47, 48, 17, 19, 92, 93, 94, 95, 96, 97, 98, 99, 100, 101, 102, 103, 104, 105, 106] (by decide +kernel) (by decide +kernel)
set_option maxRecDepth 20000 in
theorem gX7_deduce_X7_times : GoodIn wsX7_deduce (wsV RX7 148 RX7 yX7_times wsX7_times) := goodIn_app (goodIn_of _ (by decide +kernel)) ggX7_deduce_X7_times
set_option maxRecDepth 20000 in
theorem ggX7_deduce_X7_sure : GoodIn wsX7_deduce wsX7_sure := goodIn_r _ [67, 1, 2, 68, 69, 70, 8, 71, 24, 25, 26, 27, 3, 17, 4, 19, 92, 93, 94, 95, 96, 97, 98, 99, 100, 101, 102, 103, 104, 105, 106] (by decide +kernel) (by decide +kernel)
set_option maxRecDepth 20000 in
theorem gX7_deduce_X7_sure : GoodIn wsX7_deduce (wsV RX7 131 RX7 yX7_sure wsX7_sure) := goodIn_app (goodIn_of _ (by decide +kernel)) ggX7_deduce_X7_sure
set_option maxRecDepth 20000 in
theorem ggX7_deduce_X7_store : GoodIn wsX7_deduce wsX7_store := goodIn_r _ [75, 1, 3, 4, 76, 77, 78, 8, 79, 15, 16, 18, 20, 21, 22, 23, 80, 81, 82, 83, 84, 85, 86, 87, 88, 89, 90, 91, 68, 69, 70, 71, 92, 93, 94, 95, 96, 97, 98, 99, 100, 101, 102, 103, 104, 105, 106] (by decide +kernel) (by decide +kernel)
set_option maxRecDepth 20000 in
theorem gX7_deduce_X7_store : GoodIn wsX7_deduce (wsV RX7 152 RX7 yX7_store wsX7_store) := goodIn_app (goodIn_of _ (by decide +kernel)) ggX7_deduce_X7_store
theorem dX7_deduce_0 : decode cX7_deduce 0 = .ok (.aload_n 0, 1) := by decide +kernel
theorem dX7_deduce_1 : decode cX7_deduce 1 = .ok (.getfield 114, 3) := by decide +kernel
theorem dX7_deduce_4 : decode cX7_deduce 4 = .ok (.ifCond .gt 30, 3) := by decide +kernel
theorem dX7_deduce_7 : decode cX7_deduce 7 = .ok (.aload_n 0, 1) := by decide +kernel
theorem dX7_deduce_8 : decode cX7_deduce 8 = .ok (.bipush 44, 2) := by decide +kernel
theorem dX7_deduce_10 : decode cX7_deduce 10 = .ok (.invokevirtual 134, 3) := by decide +kernel
theorem dX7_deduce_13 : decode cX7_deduce 13 = .ok (.ifCond .eq 21, 3) := by decide +kernel
theorem dX7_deduce_16 : decode cX7_deduce 16 = .ok (.aload_n 0, 1) := by decide +kernel
theorem dX7_deduce_17 : decode cX7_deduce 17 = .ok (.bipush 35, 2) := by decide +kernel
theorem dX7_deduce_19 : decode cX7_deduce 19 = .ok (.invokevirtual 134, 3) := by decide +kernel
theorem dX7_deduce_22 : decode cX7_deduce 22 = .ok (.ifCond .ne 13, 3) := by decide +kernel
theorem dX7_deduce_25 : decode cX7_deduce 25 = .ok (.aload_n 0, 1) := by decide +kernel
theorem dX7_deduce_26 : decode cX7_deduce 26 = .ok (.bipush 36, 2) := by decide +kernel
theorem dX7_deduce_28 : decode cX7_deduce 28 = .ok (.invokevirtual 134, 3) := by decide +kernel
theorem dX7_deduce_31 : decode cX7_deduce 31 = .ok (.ifCond .ne 4, 3) := by decide +kernel
theorem dX7_deduce_34 : decode cX7_deduce 34 = .ok (.return_, 1) := by decide +kernel
theorem dX7_deduce_35 : decode cX7_deduce 35 = .ok (.aload_n 0, 1) := by decide +kernel
theorem dX7_deduce_36 : decode cX7_deduce 36 = .ok (.iconst 3, 1) := by decide +kernel
theorem dX7_deduce_37 : decode cX7_deduce 37 = .ok (.invokevirtual 117, 3) := by decide +kernel
theorem dX7_deduce_40 : decode cX7_deduce 40 = .ok (.aload_n 0, 1) := by decide +kernel
theorem dX7_deduce_41 : decode cX7_deduce 41 = .ok (.getfield 57, 3) := by decide +kernel
theorem dX7_deduce_44 : decode cX7_deduce 44 = .ok (.ifCond .ne 4, 3) := by decide +kernel
theorem dX7_deduce_47 : decode cX7_deduce 47 = .ok (.return_, 1) := by decide +kernel
theorem dX7_deduce_48 : decode cX7_deduce 48 = .ok (.aload_n 0, 1) := by decide +kernel
theorem dX7_deduce_49 : decode cX7_deduce 49 = .ok (.bipush 10, 2) := by decide +kernel
theorem dX7_deduce_51 : decode cX7_deduce 51 = .ok (.invokevirtual 128, 3) := by decide +kernel
theorem dX7_deduce_54 : decode cX7_deduce 54 = .ok (.aload_n 0, 1) := by decide +kernel
theorem dX7_deduce_55 : decode cX7_deduce 55 = .ok (.iconst 5, 1) := by decide +kernel
theorem dX7_deduce_56 : decode cX7_deduce 56 = .ok (.invokevirtual 117, 3) := by decide +kernel
theorem dX7_deduce_59 : decode cX7_deduce 59 = .ok (.aload_n 0, 1) := by decide +kernel
theorem dX7_deduce_60 : decode cX7_deduce 60 = .ok (.getfield 57, 3) := by decide +kernel
theorem dX7_deduce_63 : decode cX7_deduce 63 = .ok (.istore_n 1, 1) := by decide +kernel
theorem dX7_deduce_64 : decode cX7_deduce 64 = .ok (.iload_n 1, 1) := by decide +kernel
theorem dX7_deduce_65 : decode cX7_deduce 65 = .ok (.ifCond .eq 9, 3) := by decide +kernel
theorem dX7_deduce_68 : decode cX7_deduce 68 = .ok (.aload_n 0, 1) := by decide +kernel
theorem dX7_deduce_69 : decode cX7_deduce 69 = .ok (.bipush 11, 2) := by decide +kernel
theorem dX7_deduce_71 : decode cX7_deduce 71 = .ok (.invokevirtual 128, 3) := by decide +kernel
theorem dX7_deduce_74 : decode cX7_deduce 74 = .ok (.aload_n 0, 1) := by decide +kernel
theorem dX7_deduce_75 : decode cX7_deduce 75 = .ok (.iconst 4, 1) := by decide +kernel
theorem dX7_deduce_76 : decode cX7_deduce 76 = .ok (.invokevirtual 117, 3) := by decide +kernel
theorem dX7_deduce_79 : decode cX7_deduce 79 = .ok (.aload_n 0, 1) := by decide +kernel
theorem dX7_deduce_80 : decode cX7_deduce 80 = .ok (.getfield 57, 3) := by decide +kernel
theorem dX7_deduce_83 : decode cX7_deduce 83 = .ok (.iload_n 1, 1) := by decide +kernel
theorem dX7_deduce_84 : decode cX7_deduce 84 = .ok (.if_icmp .ne 4, 3) := by decide +kernel
theorem dX7_deduce_87 : decode cX7_deduce 87 = .ok (.return_, 1) := by decide +kernel
theorem dX7_deduce_88 : decode cX7_deduce 88 = .ok (.iload_n 1, 1) := by decide +kernel
theorem dX7_deduce_89 : decode cX7_deduce 89 = .ok (.ifCond .ne 9, 3) := by decide +kernel
theorem dX7_deduce_92 : decode cX7_deduce 92 = .ok (.aload_n 0, 1) := by decide +kernel
theorem dX7_deduce_93 : decode cX7_deduce 93 = .ok (.bipush 11, 2) := by decide +kernel
theorem dX7_deduce_95 : decode cX7_deduce 95 = .ok (.invokevirtual 128, 3) := by decide +kernel
theorem dX7_deduce_98 : decode cX7_deduce 98 = .ok (.aload_n 0, 1) := by decide +kernel
theorem dX7_deduce_99 : decode cX7_deduce 99 = .ok (.bipush 36, 2) := by decide +kernel
theorem dX7_deduce_101 : decode cX7_deduce 101 = .ok (.invokevirtual 134, 3) := by decide +kernel
theorem dX7_deduce_104 : decode cX7_deduce 104 = .ok (.ifCond .eq 26, 3) := by decide +kernel
theorem dX7_deduce_107 : decode cX7_deduce 107 = .ok (.aload_n 0, 1) := by decide +kernel
theorem dX7_deduce_108 : decode cX7_deduce 108 = .ok (.getfield 21, 3) := by decide +kernel
theorem dX7_deduce_111 : decode cX7_deduce 111 = .ok (.bipush 11, 2) := by decide +kernel
theorem dX7_deduce_113 : decode cX7_deduce 113 = .ok (.iaload, 1) := by decide +kernel
theorem dX7_deduce_114 : decode cX7_deduce 114 = .ok (.ifCond .ne 16, 3) := by decide +kernel
theorem dX7_deduce_117 : decode cX7_deduce 117 = .ok (.aload_n 0, 1) := by decide +kernel
theorem dX7_deduce_118 : decode cX7_deduce 118 = .ok (.getfield 24, 3) := by decide +kernel
theorem dX7_deduce_121 : decode cX7_deduce 121 = .ok (.bipush 11, 2) := by decide +kernel
theorem dX7_deduce_123 : decode cX7_deduce 123 = .ok (.laload, 1) := by decide +kernel
theorem dX7_deduce_124 : decode cX7_deduce 124 = .ok (.lconst 0, 1) := by decide +kernel
theorem dX7_deduce_125 : decode cX7_deduce 125 = .ok (.lcmp, 1) := by decide +kernel
theorem dX7_deduce_126 : decode cX7_deduce 126 = .ok (.ifCond .ne 4, 3) := by decide +kernel
theorem dX7_deduce_129 : decode cX7_deduce 129 = .ok (.return_, 1) := by decide +kernel
theorem dX7_deduce_130 : decode cX7_deduce 130 = .ok (.aload_n 0, 1) := by decide +kernel
theorem dX7_deduce_131 : decode cX7_deduce 131 = .ok (.bipush 35, 2) := by decide +kernel
theorem dX7_deduce_133 : decode cX7_deduce 133 = .ok (.invokevirtual 134, 3) := by decide +kernel
theorem dX7_deduce_136 : decode cX7_deduce 136 = .ok (.ifCond .eq 14, 3) := by decide +kernel
theorem dX7_deduce_139 : decode cX7_deduce 139 = .ok (.aload_n 0, 1) := by decide +kernel
theorem dX7_deduce_140 : decode cX7_deduce 140 = .ok (.bipush 10, 2) := by decide +kernel
theorem dX7_deduce_142 : decode cX7_deduce 142 = .ok (.bipush 11, 2) := by decide +kernel
theorem dX7_deduce_144 : decode cX7_deduce 144 = .ok (.invokevirtual 144, 3) := by decide +kernel
theorem dX7_deduce_147 : decode cX7_deduce 147 = .ok (.goto 12, 3) := by decide +kernel
theorem dX7_deduce_150 : decode cX7_deduce 150 = .ok (.aload_n 0, 1) := by decide +kernel
theorem dX7_deduce_151 : decode cX7_deduce 151 = .ok (.bipush 10, 2) := by decide +kernel
theorem dX7_deduce_153 : decode cX7_deduce 153 = .ok (.bipush 11, 2) := by decide +kernel
theorem dX7_deduce_155 : decode cX7_deduce 155 = .ok (.iconst 1, 1) := by decide +kernel
theorem dX7_deduce_156 : decode cX7_deduce 156 = .ok (.invokevirtual 148, 3) := by decide +kernel
theorem dX7_deduce_159 : decode cX7_deduce 159 = .ok (.aload_n 0, 1) := by decide +kernel
theorem dX7_deduce_160 : decode cX7_deduce 160 = .ok (.bipush 10, 2) := by decide +kernel
theorem dX7_deduce_162 : decode cX7_deduce 162 = .ok (.invokevirtual 131, 3) := by decide +kernel
theorem dX7_deduce_165 : decode cX7_deduce 165 = .ok (.aload_n 0, 1) := by decide +kernel
theorem dX7_deduce_166 : decode cX7_deduce 166 = .ok (.iload_n 1, 1) := by decide +kernel
theorem dX7_deduce_167 : decode cX7_deduce 167 = .ok (.ifCond .eq 7, 3) := by decide +kernel
theorem dX7_deduce_170 : decode cX7_deduce 170 = .ok (.iconst 4, 1) := by decide +kernel
theorem dX7_deduce_171 : decode cX7_deduce 171 = .ok (.goto 4, 3) := by decide +kernel
theorem dX7_deduce_174 : decode cX7_deduce 174 = .ok (.iconst 5, 1) := by decide +kernel
theorem dX7_deduce_175 : decode cX7_deduce 175 = .ok (.bipush 10, 2) := by decide +kernel
theorem dX7_deduce_177 : decode cX7_deduce 177 = .ok (.invokevirtual 152, 3) := by decide +kernel
theorem dX7_deduce_180 : decode cX7_deduce 180 = .ok (.return_, 1) := by decide +kernel
set_option maxRecDepth 20000 in
theorem ggX7_result_X7_flag : GoodIn wsX7_result wsX7_flag := goodIn_r _ [6, 7, 76, 77, 78, 79, 80, 81, 82, 83, 84, 85, 86, 87, 88, 89, 90] (by decide +kernel) (by decide +kernel)
set_option maxRecDepth 20000 in
theorem gX7_result_X7_flag : GoodIn wsX7_result (wsV RX7 134 RX7 yX7_flag wsX7_flag) := goodIn_app (goodIn_of _ (by decide +kernel)) ggX7_result_X7_flag
set_option maxRecDepth 20000 in
theorem ggX7_result_X7_needed : GoodIn wsX7_result wsX7_needed := goodIn_r _ [11, 1, 12, 13, 14, 15, 5, 16, 17, 18, 19, 20, 21, 22, 23, 24, 25, 26, 27, 28, 29, 30, 31, 76, 77, 78, 79, 80, 81, 82, 83, 84, 85, 86, 87, 88, 89, 90] (by decide +kernel) (by decide +kernel)
set_option maxRecDepth 20000 in
theorem gX7_result_X7_needed : GoodIn wsX7_result (wsV RX7 138 RX7 yX7_needed wsX7_needed) := goodIn_app (goodIn_of _ (by decide +kernel)) ggX7_result_X7_needed
set_option maxRecDepth 20000 in
theorem ggX7_result_X7_sure : GoodIn wsX7_result wsX7_sure := goodIn_r _ [35, 1, 12, 28, 29, 30, 5, 31, 36, 37, 38, 39, 18, 21, 17, 23, 76, 77, 78, 79, 80, 81, 82, 83, 84, 85, 86, 87, 88, 89, 90] (by decide +kernel) (by decide +kernel)
set_option maxRecDepth 20000 in
theorem gX7_result_X7_sure : GoodIn wsX7_result (wsV RX7 131 RX7 yX7_sure wsX7_sure) := goodIn_app (goodIn_of _ (by decide +kernel)) ggX7_result_X7_sure
set_option maxRecDepth 20000 in
theorem ggX7_result_X7_plus : GoodIn wsX7_result wsX7_plus := goodIn_r _ [43, 18, 17, 12, 44, 45, 5, 46, 47, 48, 49, 50, 51, 52, 53, 54, 55, 56, 57, 58, 59, 60, 21, 23, 61, 62, 63, 64, 65, 66, 67, 68, 69, 70, 71, 76, 77, 78, 79, 80, 81, 82, 83, 84, 85, 86, 87, 88, 89, 90] (by decide +kernel) (by decide +kernel)
set_option maxRecDepth 20000 in
theorem gX7_result_X7_plus : GoodIn wsX7_result (wsV RX7 155 RX7 yX7_plus wsX7_plus) := goodIn_app (goodIn_of _ (by decide +kernel)) ggX7_result_X7_plus
set_option maxRecDepth 20000 in
theorem ggX7_result_X7_times : GoodIn wsX7_result wsX7_times := goodIn_r _ [75, 18, 17, 12, 44, 45, 5, 46, 47, 48, 49, 50, 51, 52, 53, 54, 55, 56, 57, 58, 59, 60, 21, 23, 76, 77, 78, 79, 80, 81, 82, 83, 84, 85, 86, 87, 88, 89, 90] (by decide +kernel) (by decide +kernel)

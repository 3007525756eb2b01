theorem dX7_encode_57 : decode cX7_encode 57 = .ok (.iconst 0, 1) := by decide +kernel
theorem dX7_encode_58 : decode cX7_encode 58 = .ok (.invokevirtual 191, 3) := by decide +kernel
theorem dX7_encode_61 : decode cX7_encode 61 = .ok (.ifCond .eq 5, 3) := by decide +kernel
theorem dX7_encode_64 : decode cX7_encode 64 = .ok (.lconst 0, 1) := by decide +kernel
theorem dX7_encode_65 : decode cX7_encode 65 = .ok (.lreturn, 1) := by decide +kernel
theorem dX7_encode_66 : decode cX7_encode 66 = .ok (.iload 4, 2) := by decide +kernel
theorem dX7_encode_68 : decode cX7_encode 68 = .ok (.i2l, 1) := by decide +kernel
theorem dX7_encode_69 : decode cX7_encode 69 = .ok (.ldc2_w 199, 3) := by decide +kernel
theorem dX7_encode_72 : decode cX7_encode 72 = .ok (.lmul, 1) := by decide +kernel
theorem dX7_encode_73 : decode cX7_encode 73 = .ok (.iload_n 3, 1) := by decide +kernel
theorem dX7_encode_74 : decode cX7_encode 74 = .ok (.i2l, 1) := by decide +kernel
theorem dX7_encode_75 : decode cX7_encode 75 = .ok (.ladd, 1) := by decide +kernel
theorem dX7_encode_76 : decode cX7_encode 76 = .ok (.ldc2_w 201, 3) := by decide +kernel
theorem dX7_encode_79 : decode cX7_encode 79 = .ok (.ladd, 1) := by decide +kernel
theorem dX7_encode_80 : decode cX7_encode 80 = .ok (.ldc2_w 199, 3) := by decide +kernel
theorem dX7_encode_83 : decode cX7_encode 83 = .ok (.lmul, 1) := by decide +kernel
theorem dX7_encode_84 : decode cX7_encode 84 = .ok (.iload_n 2, 1) := by decide +kernel
theorem dX7_encode_85 : decode cX7_encode 85 = .ok (.i2l, 1) := by decide +kernel
theorem dX7_encode_86 : decode cX7_encode 86 = .ok (.ladd, 1) := by decide +kernel
theorem dX7_encode_87 : decode cX7_encode 87 = .ok (.ldc2_w 201, 3) := by decide +kernel
theorem dX7_encode_90 : decode cX7_encode 90 = .ok (.ladd, 1) := by decide +kernel
theorem dX7_encode_91 : decode cX7_encode 91 = .ok (.ldc2_w 199, 3) := by decide +kernel
theorem dX7_encode_94 : decode cX7_encode 94 = .ok (.lmul, 1) := by decide +kernel
theorem dX7_encode_95 : decode cX7_encode 95 = .ok (.iload_n 1, 1) := by decide +kernel
theorem dX7_encode_96 : decode cX7_encode 96 = .ok (.i2l, 1) := by decide +kernel
theorem dX7_encode_97 : decode cX7_encode 97 = .ok (.ladd, 1) := by decide +kernel
theorem dX7_encode_98 : decode cX7_encode 98 = .ok (.ldc2_w 201, 3) := by decide +kernel
theorem dX7_encode_101 : decode cX7_encode 101 = .ok (.ladd, 1) := by decide +kernel
theorem dX7_encode_102 : decode cX7_encode 102 = .ok (.lreturn, 1) := by decide +kernel
set_option maxRecDepth 20000 in
theorem ggX7_decode_X7_out : GoodIn wsX7_decode wsX7_out := goodIn_r _ [4] (by decide +kernel) (by decide +kernel)
set_option maxRecDepth 20000 in
theorem gX7_decode_X7_out : GoodIn wsX7_decode (va_wsS RX7 187 yX7_out wsX7_out) := goodIn_app (goodIn_of _ (by decide +kernel)) ggX7_decode_X7_out
set_option maxRecDepth 20000 in
theorem ggX7_decode_X7_isBad : GoodIn wsX7_decode wsX7_isBad := goodIn_r _ [7, 8, 9, 3, 10, 11, 12, 13, 14] (by decide +kernel) (by decide +kernel)
set_option maxRecDepth 20000 in
theorem gX7_decode_X7_isBad : GoodIn wsX7_decode (va_wsS RX7 160 yX7_isBad wsX7_isBad) := goodIn_app (goodIn_of _ (by decide +kernel)) ggX7_decode_X7_isBad
set_option maxRecDepth 20000 in
theorem ggX7_decode_X7_throwing : GoodIn wsX7_decode wsX7_throwing := goodIn_r _ [18, 19, 20, 21, 22, 23, 24, 25, 26, 27, 28, 29, 30, 31, 32, 33, 34] (by decide +kernel) (by decide +kernel)
set_option maxRecDepth 20000 in
theorem gX7_decode_X7_throwing : GoodIn wsX7_decode (wsV RX7 191 RX7 yX7_throwing wsX7_throwing) := goodIn_app (goodIn_of _ (by decide +kernel)) ggX7_decode_X7_throwing
set_option maxRecDepth 20000 in
theorem ggX7_decode_X7_offset : GoodIn wsX7_decode wsX7_offset := goodIn_r _ [13, 14] (by decide +kernel) (by decide +kernel)
set_option maxRecDepth 20000 in
theorem gX7_decode_X7_offset : GoodIn wsX7_decode (va_wsS RX7 110 yX7_offset wsX7_offset) := goodIn_app (goodIn_of _ (by decide +kernel)) ggX7_decode_X7_offset
set_option maxRecDepth 20000 in
theorem ggX7_decode_X7_many : GoodIn wsX7_decode wsX7_many := goodIn_r _ [10] (by decide +kernel) (by decide +kernel)
set_option maxRecDepth 20000 in
theorem gX7_decode_X7_many : GoodIn wsX7_decode (va_wsS RX7 106 yX7_many wsX7_many) := goodIn_app (goodIn_of _ (by decide +kernel)) ggX7_decode_X7_many
theorem dX7_decode_0 : decode cX7_decode 0 = .ok (.aload_n 0, 1) := by decide +kernel
theorem dX7_decode_1 : decode cX7_decode 1 = .ok (.iload_n 3, 1) := by decide +kernel
theorem dX7_decode_2 : decode cX7_decode 2 = .ok (.iconst 0, 1) := by decide +kernel
theorem dX7_decode_3 : decode cX7_decode 3 = .ok (.iconst 4, 1) := by decide +kernel
theorem dX7_decode_4 : decode cX7_decode 4 = .ok (.invokestatic 187, 3) := by decide +kernel
theorem dX7_decode_7 : decode cX7_decode 7 = .ok (.lload_n 1, 1) := by decide +kernel
theorem dX7_decode_8 : decode cX7_decode 8 = .ok (.invokestatic 160, 3) := by decide +kernel
theorem dX7_decode_11 : decode cX7_decode 11 = .ok (.invokevirtual 191, 3) := by decide +kernel
theorem dX7_decode_14 : decode cX7_decode 14 = .ok (.ifCond .eq 5, 3) := by decide +kernel
theorem dX7_decode_17 : decode cX7_decode 17 = .ok (.iconst 0, 1) := by decide +kernel
theorem dX7_decode_18 : decode cX7_decode 18 = .ok (.ireturn, 1) := by decide +kernel
theorem dX7_decode_19 : decode cX7_decode 19 = .ok (.iload_n 3, 1) := by decide +kernel
theorem dX7_decode_20 : decode cX7_decode 20 = .ok (.iconst 3, 1) := by decide +kernel
theorem dX7_decode_21 : decode cX7_decode 21 = .ok (.if_icmp .ge 9, 3) := by decide +kernel
theorem dX7_decode_24 : decode cX7_decode 24 = .ok (.lload_n 1, 1) := by decide +kernel
theorem dX7_decode_25 : decode cX7_decode 25 = .ok (.iload_n 3, 1) := by decide +kernel
theorem dX7_decode_26 : decode cX7_decode 26 = .ok (.invokestatic 110, 3) := by decide +kernel
theorem dX7_decode_29 : decode cX7_decode 29 = .ok (.ireturn, 1) := by decide +kernel
theorem dX7_decode_30 : decode cX7_decode 30 = .ok (.iload_n 3, 1) := by decide +kernel
theorem dX7_decode_31 : decode cX7_decode 31 = .ok (.iconst 3, 1) := by decide +kernel
theorem dX7_decode_32 : decode cX7_decode 32 = .ok (.if_icmp .ne 11, 3) := by decide +kernel
theorem dX7_decode_35 : decode cX7_decode 35 = .ok (.lload_n 1, 1) := by decide +kernel
theorem dX7_decode_36 : decode cX7_decode 36 = .ok (.bipush 30, 2) := by decide +kernel
theorem dX7_decode_38 : decode cX7_decode 38 = .ok (.lshr, 1) := by decide +kernel
theorem dX7_decode_39 : decode cX7_decode 39 = .ok (.l2i, 1) := by decide +kernel
theorem dX7_decode_40 : decode cX7_decode 40 = .ok (.goto 13, 3) := by decide +kernel
theorem dX7_decode_43 : decode cX7_decode 43 = .ok (.iconst 1, 1) := by decide +kernel
theorem dX7_decode_44 : decode cX7_decode 44 = .ok (.lload_n 1, 1) := by decide +kernel
theorem dX7_decode_45 : decode cX7_decode 45 = .ok (.bipush 32, 2) := by decide +kernel
theorem dX7_decode_47 : decode cX7_decode 47 = .ok (.bipush 32, 2) := by decide +kernel
theorem dX7_decode_49 : decode cX7_decode 49 = .ok (.invokestatic 106, 3) := by decide +kernel
theorem dX7_decode_52 : decode cX7_decode 52 = .ok (.iadd, 1) := by decide +kernel
theorem dX7_decode_53 : decode cX7_decode 53 = .ok (.ireturn, 1) := by decide +kernel
set_option maxRecDepth 20000 in
theorem ggX7_number_X7_out : GoodIn wsX7_number wsX7_out := goodIn_r _ [4] (by decide +kernel) (by decide +kernel)
set_option maxRecDepth 20000 in
theorem gX7_number_X7_out : GoodIn wsX7_number (va_wsS RX7 187 yX7_out wsX7_out) := goodIn_app (goodIn_of _ (by decide +kernel)) ggX7_number_X7_out
set_option maxRecDepth 20000 in
theorem ggX7_number_X7_modulo : GoodIn wsX7_number wsX7_modulo := goodIn_r _ [7, 8] (by decide +kernel) (by decide +kernel)
set_option maxRecDepth 20000 in
theorem gX7_number_X7_modulo : GoodIn wsX7_number (va_wsS RX7 39 yX7_modulo wsX7_modulo) := goodIn_app (goodIn_of _ (by decide +kernel)) ggX7_number_X7_modulo
set_option maxRecDepth 20000 in
theorem ggX7_number_X7_written : GoodIn wsX7_number wsX7_written := goodIn_r _ [12, 13, 14, 15, 16, 17, 3, 18, 19, 20, 21, 22, 23, 24, 25, 26, 27, 28, 29, 30, 31, 37, 38, 39, 40, 41, 42, 43, 44, 45, 46, 47, 48, 49, 50, 51] (by decide +kernel) (by decide +kernel)
set_option maxRecDepth 20000 in
theorem gX7_number_X7_written : GoodIn wsX7_number (wsV RX7 124 RX7 yX7_written wsX7_written) := goodIn_app (goodIn_of _ (by decide +kernel)) ggX7_number_X7_written
set_option maxRecDepth 20000 in
theorem ggX7_number_X7_throwing : GoodIn wsX7_number wsX7_throwing := goodIn_r _ [35, 36, 37, 38, 39, 40, 41, 42, 43, 44, 45, 46, 47, 48, 49, 50, 51] (by decide +kernel) (by decide +kernel)
set_option maxRecDepth 20000 in
theorem gX7_number_X7_throwing : GoodIn wsX7_number (wsV RX7 191 RX7 yX7_throwing wsX7_throwing) := goodIn_app (goodIn_of _ (by decide +kernel)) ggX7_number_X7_throwing
theorem dX7_number_0 : decode cX7_number 0 = .ok (.iload_n 1, 1) := by decide +kernel
theorem dX7_number_1 : decode cX7_number 1 = .ok (.iconst 1, 1) := by decide +kernel
theorem dX7_number_2 : decode cX7_number 2 = .ok (.iconst 5, 1) := by decide +kernel
theorem dX7_number_3 : decode cX7_number 3 = .ok (.invokestatic 187, 3) := by decide +kernel
theorem dX7_number_6 : decode cX7_number 6 = .ok (.ifCond .ne 13, 3) := by decide +kernel
theorem dX7_number_9 : decode cX7_number 9 = .ok (.iload_n 2, 1) := by decide +kernel
theorem dX7_number_10 : decode cX7_number 10 = .ok (.iconst 0, 1) := by decide +kernel
theorem dX7_number_11 : decode cX7_number 11 = .ok (.bipush 63, 2) := by decide +kernel
theorem dX7_number_13 : decode cX7_number 13 = .ok (.invokestatic 187, 3) := by decide +kernel
theorem dX7_number_16 : decode cX7_number 16 = .ok (.ifCond .eq 7, 3) := by decide +kernel
theorem dX7_number_19 : decode cX7_number 19 = .ok (.iconst 1, 1) := by decide +kernel
theorem dX7_number_20 : decode cX7_number 20 = .ok (.goto 4, 3) := by decide +kernel
theorem dX7_number_23 : decode cX7_number 23 = .ok (.iconst 0, 1) := by decide +kernel
theorem dX7_number_24 : decode cX7_number 24 = .ok (.istore 5, 2) := by decide +kernel
theorem dX7_number_26 : decode cX7_number 26 = .ok (.aload_n 0, 1) := by decide +kernel
theorem dX7_number_27 : decode cX7_number 27 = .ok (.iload 5, 2) := by decide +kernel
theorem dX7_number_29 : decode cX7_number 29 = .ok (.iload 5, 2) := by decide +kernel
theorem dX7_number_31 : decode cX7_number 31 = .ok (.ifCond .ne 22, 3) := by decide +kernel
theorem dX7_number_34 : decode cX7_number 34 = .ok (.aload_n 0, 1) := by decide +kernel
theorem dX7_number_35 : decode cX7_number 35 = .ok (.iload_n 1, 1) := by decide +kernel
theorem dX7_number_36 : decode cX7_number 36 = .ok (.iload_n 2, 1) := by decide +kernel
theorem dX7_number_37 : decode cX7_number 37 = .ok (.i2l, 1) := by decide +kernel
theorem dX7_number_38 : decode cX7_number 38 = .ok (.iconst 0, 1) := by decide +kernel
theorem dX7_number_39 : decode cX7_number 39 = .ok (.lload_n 3, 1) := by decide +kernel
theorem dX7_number_40 : decode cX7_number 40 = .ok (.invokestatic 39, 3) := by decide +kernel
theorem dX7_number_43 : decode cX7_number 43 = .ok (.invokevirtual 124, 3) := by decide +kernel
theorem dX7_number_46 : decode cX7_number 46 = .ok (.ifCond .ne 7, 3) := by decide +kernel
theorem dX7_number_49 : decode cX7_number 49 = .ok (.iconst 1, 1) := by decide +kernel
theorem dX7_number_50 : decode cX7_number 50 = .ok (.goto 4, 3) := by decide +kernel
theorem dX7_number_53 : decode cX7_number 53 = .ok (.iconst 0, 1) := by decide +kernel
theorem dX7_number_54 : decode cX7_number 54 = .ok (.invokevirtual 191, 3) := by decide +kernel
theorem dX7_number_57 : decode cX7_number 57 = .ok (.pop, 1) := by decide +kernel
theorem dX7_number_58 : decode cX7_number 58 = .ok (.return_, 1) := by decide +kernel
set_option maxRecDepth 20000 in
theorem ggX7_address_X7_out : GoodIn wsX7_address wsX7_out := goodIn_r _ [4] (by decide +kernel) (by decide +kernel)
set_option maxRecDepth 20000 in
theorem gX7_address_X7_out : GoodIn wsX7_address (va_wsS RX7 187 yX7_out wsX7_out) := goodIn_app (goodIn_of _ (by decide +kernel)) ggX7_address_X7_out
set_option maxRecDepth 20000 in
theorem ggX7_address_X7_written : GoodIn wsX7_address wsX7_written := goodIn_r _ [8, 9, 10, 11, 12, 13, 3, 14, 15, 16, 17, 18, 19, 20, 21, 22, 23, 24, 25, 26, 27, 33, 34, 35, 36, 37, 38, 39, 40, 41, 42, 43, 44, 45, 46, 47] (by decide +kernel) (by decide +kernel)
set_option maxRecDepth 20000 in
theorem gX7_address_X7_written : GoodIn wsX7_address (wsV RX7 124 RX7 yX7_written wsX7_written) := goodIn_app (goodIn_of _ (by decide +kernel)) ggX7_address_X7_written
set_option maxRecDepth 20000 in
theorem ggX7_address_X7_throwing : GoodIn wsX7_address wsX7_throwing := goodIn_r _ [31, 32, 33, 34, 35, 36, 37, 38, 39, 40, 41, 42, 43, 44, 45, 46, 47] (by decide +kernel) (by decide +kernel)
set_option maxRecDepth 20000 in
theorem gX7_address_X7_throwing : GoodIn wsX7_address (wsV RX7 191 RX7 yX7_throwing wsX7_throwing) := goodIn_app (goodIn_of _ (by decide +kernel)) ggX7_address_X7_throwing
theorem dX7_address_0 : decode cX7_address 0 = .ok (.iload_n 1, 1) := by decide +kernel
theorem dX7_address_1 : decode cX7_address 1 = .ok (.iconst 1, 1) := by decide +kernel
theorem dX7_address_2 : decode cX7_address 2 = .ok (.iconst 5, 1) := by decide +kernel
theorem dX7_address_3 : decode cX7_address 3 = .ok (.invokestatic 187, 3) := by decide +kernel
theorem dX7_address_6 : decode cX7_address 6 = .ok (.ifCond .ne 36, 3) := by decide +kernel
theorem dX7_address_9 : decode cX7_address 9 = .ok (.iload_n 2, 1) := by decide +kernel
theorem dX7_address_10 : decode cX7_address 10 = .ok (.iconst 0, 1) := by decide +kernel
theorem dX7_address_11 : decode cX7_address 11 = .ok (.bipush 63, 2) := by decide +kernel
theorem dX7_address_13 : decode cX7_address 13 = .ok (.invokestatic 187, 3) := by decide +kernel
theorem dX7_address_16 : decode cX7_address 16 = .ok (.ifCond .ne 26, 3) := by decide +kernel
theorem dX7_address_19 : decode cX7_address 19 = .ok (.iload_n 3, 1) := by decide +kernel
theorem dX7_address_20 : decode cX7_address 20 = .ok (.iconst 1, 1) := by decide +kernel
theorem dX7_address_21 : decode cX7_address 21 = .ok (.iconst 5, 1) := by decide +kernel
theorem dX7_address_22 : decode cX7_address 22 = .ok (.invokestatic 187, 3) := by decide +kernel
theorem dX7_address_25 : decode cX7_address 25 = .ok (.ifCond .ne 17, 3) := by decide +kernel
theorem dX7_address_28 : decode cX7_address 28 = .ok (.iload 4, 2) := by decide +kernel
theorem dX7_address_30 : decode cX7_address 30 = .ok (.sipush (-1000), 3) := by decide +kernel
theorem dX7_address_33 : decode cX7_address 33 = .ok (.sipush 1000, 3) := by decide +kernel
theorem dX7_address_36 : decode cX7_address 36 = .ok (.invokestatic 187, 3) := by decide +kernel
theorem dX7_address_39 : decode cX7_address 39 = .ok (.ifCond .eq 7, 3) := by decide +kernel
theorem dX7_address_42 : decode cX7_address 42 = .ok (.iconst 1, 1) := by decide +kernel
theorem dX7_address_43 : decode cX7_address 43 = .ok (.goto 4, 3) := by decide +kernel
theorem dX7_address_46 : decode cX7_address 46 = .ok (.iconst 0, 1) := by decide +kernel
theorem dX7_address_47 : decode cX7_address 47 = .ok (.istore 5, 2) := by decide +kernel
theorem dX7_address_49 : decode cX7_address 49 = .ok (.aload_n 0, 1) := by decide +kernel
theorem dX7_address_50 : decode cX7_address 50 = .ok (.iload 5, 2) := by decide +kernel
theorem dX7_address_52 : decode cX7_address 52 = .ok (.iload 5, 2) := by decide +kernel
theorem dX7_address_54 : decode cX7_address 54 = .ok (.ifCond .ne 21, 3) := by decide +kernel
theorem dX7_address_57 : decode cX7_address 57 = .ok (.aload_n 0, 1) := by decide +kernel
theorem dX7_address_58 : decode cX7_address 58 = .ok (.iload_n 1, 1) := by decide +kernel
theorem dX7_address_59 : decode cX7_address 59 = .ok (.iload_n 2, 1) := by decide +kernel
theorem dX7_address_60 : decode cX7_address 60 = .ok (.i2l, 1) := by decide +kernel
theorem dX7_address_61 : decode cX7_address 61 = .ok (.iload_n 3, 1) := by decide +kernel
theorem dX7_address_62 : decode cX7_address 62 = .ok (.iload 4, 2) := by decide +kernel
theorem dX7_address_64 : decode cX7_address 64 = .ok (.i2l, 1) := by decide +kernel
theorem dX7_address_65 : decode cX7_address 65 = .ok (.invokevirtual 124, 3) := by decide +kernel
theorem dX7_address_68 : decode cX7_address 68 = .ok (.ifCond .ne 7, 3) := by decide +kernel
theorem dX7_address_71 : decode cX7_address 71 = .ok (.iconst 1, 1) := by decide +kernel
theorem dX7_address_72 : decode cX7_address 72 = .ok (.goto 4, 3) := by decide +kernel
theorem dX7_address_75 : decode cX7_address 75 = .ok (.iconst 0, 1) := by decide +kernel
theorem dX7_address_76 : decode cX7_address 76 = .ok (.invokevirtual 191, 3) := by decide +kernel
theorem dX7_address_79 : decode cX7_address 79 = .ok (.pop, 1) := by decide +kernel
theorem dX7_address_80 : decode cX7_address 80 = .ok (.return_, 1) := by decide +kernel
set_option maxRecDepth 20000 in
theorem ggX7_start_X7_out : GoodIn wsX7_start wsX7_out := goodIn_r _ [8] (by decide +kernel) (by decide +kernel)
set_option maxRecDepth 20000 in
theorem gX7_start_X7_out : GoodIn wsX7_start (va_wsS RX7 187 yX7_out wsX7_out) := goodIn_app (goodIn_of _ (by decide +kernel)) ggX7_start_X7_out
set_option maxRecDepth 20000 in
theorem ggX7_start_X7_throwing : GoodIn wsX7_start wsX7_throwing := goodIn_r _ [12, 13, 14, 15, 16, 17, 18, 19, 20, 21, 22, 23, 24, 25, 26, 27, 28] (by decide +kernel) (by decide +kernel)
set_option maxRecDepth 20000 in
theorem gX7_start_X7_throwing : GoodIn wsX7_start (wsV RX7 191 RX7 yX7_throwing wsX7_throwing) := goodIn_app (goodIn_of _ (by decide +kernel)) ggX7_start_X7_throwing
theorem dX7_start_0 : decode cX7_start 0 = .ok (.aload_n 0, 1) := by decide +kernel
theorem dX7_start_1 : decode cX7_start 1 = .ok (.iload_n 1, 1) := by decide +kernel
theorem dX7_start_2 : decode cX7_start 2 = .ok (.iconst 0, 1) := by decide +kernel
theorem dX7_start_3 : decode cX7_start 3 = .ok (.bipush 63, 2) := by decide +kernel
theorem dX7_start_5 : decode cX7_start 5 = .ok (.invokestatic 187, 3) := by decide +kernel
theorem dX7_start_8 : decode cX7_start 8 = .ok (.ifCond .ne 23, 3) := by decide +kernel
theorem dX7_start_11 : decode cX7_start 11 = .ok (.iload_n 2, 1) := by decide +kernel
theorem dX7_start_12 : decode cX7_start 12 = .ok (.iconst 0, 1) := by decide +kernel
theorem dX7_start_13 : decode cX7_start 13 = .ok (.bipush 63, 2) := by decide +kernel
theorem dX7_start_15 : decode cX7_start 15 = .ok (.invokestatic 187, 3) := by decide +kernel
theorem dX7_start_18 : decode cX7_start 18 = .ok (.ifCond .ne 13, 3) := by decide +kernel
theorem dX7_start_21 : decode cX7_start 21 = .ok (.iload_n 3, 1) := by decide +kernel
theorem dX7_start_22 : decode cX7_start 22 = .ok (.iconst 0, 1) := by decide +kernel
theorem dX7_start_23 : decode cX7_start 23 = .ok (.bipush 63, 2) := by decide +kernel
theorem dX7_start_25 : decode cX7_start 25 = .ok (.invokestatic 187, 3) := by decide +kernel
theorem dX7_start_28 : decode cX7_start 28 = .ok (.ifCond .eq 7, 3) := by decide +kernel
theorem dX7_start_31 : decode cX7_start 31 = .ok (.iconst 1, 1) := by decide +kernel
theorem dX7_start_32 : decode cX7_start 32 = .ok (.goto 4, 3) := by decide +kernel
theorem dX7_start_35 : decode cX7_start 35 = .ok (.iconst 0, 1) := by decide +kernel
theorem dX7_start_36 : decode cX7_start 36 = .ok (.iconst 0, 1) := by decide +kernel
theorem dX7_start_37 : decode cX7_start 37 = .ok (.invokevirtual 191, 3) := by decide +kernel
theorem dX7_start_40 : decode cX7_start 40 = .ok (.ifCond .eq 4, 3) := by decide +kernel
theorem dX7_start_43 : decode cX7_start 43 = .ok (.return_, 1) := by decide +kernel
theorem dX7_start_44 : decode cX7_start 44 = .ok (.iconst 0, 1) := by decide +kernel
theorem dX7_start_45 : decode cX7_start 45 = .ok (.istore 4, 2) := by decide +kernel
theorem dX7_start_47 : decode cX7_start 47 = .ok (.iload 4, 2) := by decide +kernel
theorem dX7_start_49 : decode cX7_start 49 = .ok (.iconst 3, 1) := by decide +kernel
theorem dX7_start_50 : decode cX7_start 50 = .ok (.if_icmp .ge 56, 3) := by decide +kernel
theorem dX7_start_53 : decode cX7_start 53 = .ok (.aload_n 0, 1) := by decide +kernel
theorem dX7_start_54 : decode cX7_start 54 = .ok (.getfield 21, 3) := by decide +kernel
theorem dX7_start_57 : decode cX7_start 57 = .ok (.iload 4, 2) := by decide +kernel
theorem dX7_start_59 : decode cX7_start 59 = .ok (.iload 4, 2) := by decide +kernel
theorem dX7_start_61 : decode cX7_start 61 = .ok (.ifCond .ne 7, 3) := by decide +kernel
theorem dX7_start_64 : decode cX7_start 64 = .ok (.iconst 1, 1) := by decide +kernel
theorem dX7_start_65 : decode cX7_start 65 = .ok (.goto 4, 3) := by decide +kernel
theorem dX7_start_68 : decode cX7_start 68 = .ok (.iconst 2, 1) := by decide +kernel
theorem dX7_start_69 : decode cX7_start 69 = .ok (.iastore, 1) := by decide +kernel
theorem dX7_start_70 : decode cX7_start 70 = .ok (.aload_n 0, 1) := by decide +kernel
theorem dX7_start_71 : decode cX7_start 71 = .ok (.getfield 24, 3) := by decide +kernel
theorem dX7_start_74 : decode cX7_start 74 = .ok (.iload 4, 2) := by decide +kernel
theorem dX7_start_76 : decode cX7_start 76 = .ok (.iload 4, 2) := by decide +kernel
theorem dX7_start_78 : decode cX7_start 78 = .ok (.ifCond .ne 8, 3) := by decide +kernel
theorem dX7_start_81 : decode cX7_start 81 = .ok (.iload_n 1, 1) := by decide +kernel
theorem dX7_start_82 : decode cX7_start 82 = .ok (.i2l, 1) := by decide +kernel
theorem dX7_start_83 : decode cX7_start 83 = .ok (.goto 16, 3) := by decide +kernel
theorem dX7_start_86 : decode cX7_start 86 = .ok (.iload 4, 2) := by decide +kernel
theorem dX7_start_88 : decode cX7_start 88 = .ok (.iconst 1, 1) := by decide +kernel
theorem dX7_start_89 : decode cX7_start 89 = .ok (.if_icmp .ne 8, 3) := by decide +kernel
theorem dX7_start_92 : decode cX7_start 92 = .ok (.iload_n 2, 1) := by decide +kernel
theorem dX7_start_93 : decode cX7_start 93 = .ok (.i2l, 1) := by decide +kernel
theorem dX7_start_94 : decode cX7_start 94 = .ok (.goto 5, 3) := by decide +kernel
theorem dX7_start_97 : decode cX7_start 97 = .ok (.iload_n 3, 1) := by decide +kernel
theorem dX7_start_98 : decode cX7_start 98 = .ok (.i2l, 1) := by decide +kernel
theorem dX7_start_99 : decode cX7_start 99 = .ok (.lastore, 1) := by decide +kernel
theorem dX7_start_100 : decode cX7_start 100 = .ok (.iinc 4 1, 3) := by decide +kernel
theorem dX7_start_103 : decode cX7_start 103 = .ok (.goto (-56), 3) := by decide +kernel
theorem dX7_start_106 : decode cX7_start 106 = .ok (.aload_n 0, 1) := by decide +kernel
theorem dX7_start_107 : decode cX7_start 107 = .ok (.iconst 0, 1) := by decide +kernel
theorem dX7_start_108 : decode cX7_start 108 = .ok (.putfield 184, 3) := by decide +kernel
theorem dX7_start_111 : decode cX7_start 111 = .ok (.aload_n 0, 1) := by decide +kernel
theorem dX7_start_112 : decode cX7_start 112 = .ok (.iconst 0, 1) := by decide +kernel
theorem dX7_start_113 : decode cX7_start 113 = .ok (.putfield 181, 3) := by decide +kernel
theorem dX7_start_116 : decode cX7_start 116 = .ok (.return_, 1) := by decide +kernel
theorem dX7_failure_0 : decode cX7_failure 0 = .ok (.aload_n 0, 1) := by decide +kernel
theorem dX7_failure_1 : decode cX7_failure 1 = .ok (.iconst 0, 1) := by decide +kernel
theorem dX7_failure_2 : decode cX7_failure 2 = .ok (.putfield 33, 3) := by decide +kernel
theorem dX7_failure_5 : decode cX7_failure 5 = .ok (.aload_n 0, 1) := by decide +kernel
theorem dX7_failure_6 : decode cX7_failure 6 = .ok (.getfield 181, 3) := by decide +kernel
theorem dX7_failure_9 : decode cX7_failure 9 = .ok (.ireturn, 1) := by decide +kernel
set_option maxRecDepth 20000 in
theorem ggX7_register_X7_out : GoodIn wsX7_register wsX7_out := goodIn_r _ [6] (by decide +kernel) (by decide +kernel)
set_option maxRecDepth 20000 in
theorem gX7_register_X7_out : GoodIn wsX7_register (va_wsS RX7 187 yX7_out wsX7_out) := goodIn_app (goodIn_of _ (by decide +kernel)) ggX7_register_X7_out
set_option maxRecDepth 20000 in
theorem ggX7_register_X7_throwing : GoodIn wsX7_register wsX7_throwing := goodIn_r _ [10, 11, 12, 13, 14, 15, 16, 17, 18, 19, 20, 21, 22, 23, 24, 25, 26] (by decide +kernel) (by decide +kernel)
set_option maxRecDepth 20000 in
theorem gX7_register_X7_throwing : GoodIn wsX7_register (wsV RX7 191 RX7 yX7_throwing wsX7_throwing) := goodIn_app (goodIn_of _ (by decide +kernel)) ggX7_register_X7_throwing
theorem dX7_register_0 : decode cX7_register 0 = .ok (.aload_n 0, 1) := by decide +kernel
theorem dX7_register_1 : decode cX7_register 1 = .ok (.iload_n 1, 1) := by decide +kernel
theorem dX7_register_2 : decode cX7_register 2 = .ok (.iconst 0, 1) := by decide +kernel
theorem dX7_register_3 : decode cX7_register 3 = .ok (.iconst 2, 1) := by decide +kernel
theorem dX7_register_4 : decode cX7_register 4 = .ok (.invokestatic 187, 3) := by decide +kernel
theorem dX7_register_7 : decode cX7_register 7 = .ok (.iconst 0, 1) := by decide +kernel
theorem dX7_register_8 : decode cX7_register 8 = .ok (.invokevirtual 191, 3) := by decide +kernel
theorem dX7_register_11 : decode cX7_register 11 = .ok (.ifCond .eq 5, 3) := by decide +kernel
theorem dX7_register_14 : decode cX7_register 14 = .ok (.iconst 0, 1) := by decide +kernel
theorem dX7_register_15 : decode cX7_register 15 = .ok (.ireturn, 1) := by decide +kernel
theorem dX7_register_16 : decode cX7_register 16 = .ok (.iload_n 2, 1) := by decide +kernel
theorem dX7_register_17 : decode cX7_register 17 = .ok (.ifCond .eq 13, 3) := by decide +kernel
theorem dX7_register_20 : decode cX7_register 20 = .ok (.aload_n 0, 1) := by decide +kernel
theorem dX7_register_21 : decode cX7_register 21 = .ok (.getfield 24, 3) := by decide +kernel
theorem dX7_register_24 : decode cX7_register 24 = .ok (.iload_n 1, 1) := by decide +kernel
theorem dX7_register_25 : decode cX7_register 25 = .ok (.laload, 1) := by decide +kernel
theorem dX7_register_26 : decode cX7_register 26 = .ok (.l2i, 1) := by decide +kernel
theorem dX7_register_27 : decode cX7_register 27 = .ok (.goto 9, 3) := by decide +kernel
theorem dX7_register_30 : decode cX7_register 30 = .ok (.aload_n 0, 1) := by decide +kernel
theorem dX7_register_31 : decode cX7_register 31 = .ok (.getfield 21, 3) := by decide +kernel
theorem dX7_register_34 : decode cX7_register 34 = .ok (.iload_n 1, 1) := by decide +kernel
theorem dX7_register_35 : decode cX7_register 35 = .ok (.iaload, 1) := by decide +kernel
theorem dX7_register_36 : decode cX7_register 36 = .ok (.ireturn, 1) := by decide +kernel
set_option maxRecDepth 20000 in
theorem ggX7_hidden_X7_out : GoodIn wsX7_hidden wsX7_out := goodIn_r _ [5] (by decide +kernel) (by decide +kernel)
set_option maxRecDepth 20000 in
theorem gX7_hidden_X7_out : GoodIn wsX7_hidden (va_wsS RX7 187 yX7_out wsX7_out) := goodIn_app (goodIn_of _ (by decide +kernel)) ggX7_hidden_X7_out
set_option maxRecDepth 20000 in
theorem ggX7_hidden_X7_throwing : GoodIn wsX7_hidden wsX7_throwing := goodIn_r _ [9, 10, 11, 12, 13, 14, 15, 16, 17, 18, 19, 20, 21, 22, 23, 24, 25] (by decide +kernel) (by decide +kernel)
set_option maxRecDepth 20000 in
theorem gX7_hidden_X7_throwing : GoodIn wsX7_hidden (wsV RX7 191 RX7 yX7_throwing wsX7_throwing) := goodIn_app (goodIn_of _ (by decide +kernel)) ggX7_hidden_X7_throwing
theorem dX7_hidden_0 : decode cX7_hidden 0 = .ok (.iload_n 1, 1) := by decide +kernel
theorem dX7_hidden_1 : decode cX7_hidden 1 = .ok (.iconst 1, 1) := by decide +kernel
theorem dX7_hidden_2 : decode cX7_hidden 2 = .ok (.iconst 5, 1) := by decide +kernel
theorem dX7_hidden_3 : decode cX7_hidden 3 = .ok (.invokestatic 187, 3) := by decide +kernel
theorem dX7_hidden_6 : decode cX7_hidden 6 = .ok (.ifCond .ne 13, 3) := by decide +kernel
theorem dX7_hidden_9 : decode cX7_hidden 9 = .ok (.iload_n 2, 1) := by decide +kernel
theorem dX7_hidden_10 : decode cX7_hidden 10 = .ok (.iconst 0, 1) := by decide +kernel
theorem dX7_hidden_11 : decode cX7_hidden 11 = .ok (.bipush 63, 2) := by decide +kernel
theorem dX7_hidden_13 : decode cX7_hidden 13 = .ok (.invokestatic 187, 3) := by decide +kernel
theorem dX7_hidden_16 : decode cX7_hidden 16 = .ok (.ifCond .eq 7, 3) := by decide +kernel
theorem dX7_hidden_19 : decode cX7_hidden 19 = .ok (.iconst 1, 1) := by decide +kernel
theorem dX7_hidden_20 : decode cX7_hidden 20 = .ok (.goto 4, 3) := by decide +kernel

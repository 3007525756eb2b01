theorem dX7_hidden_23 : decode cX7_hidden 23 = .ok (.iconst 0, 1) := by decide +kernel
theorem dX7_hidden_24 : decode cX7_hidden 24 = .ok (.istore_n 3, 1) := by decide +kernel
theorem dX7_hidden_25 : decode cX7_hidden 25 = .ok (.aload_n 0, 1) := by decide +kernel
theorem dX7_hidden_26 : decode cX7_hidden 26 = .ok (.iload_n 3, 1) := by decide +kernel
theorem dX7_hidden_27 : decode cX7_hidden 27 = .ok (.iload_n 3, 1) := by decide +kernel
theorem dX7_hidden_28 : decode cX7_hidden 28 = .ok (.ifCond .ne 21, 3) := by decide +kernel
theorem dX7_hidden_31 : decode cX7_hidden 31 = .ok (.aload_n 0, 1) := by decide +kernel
theorem dX7_hidden_32 : decode cX7_hidden 32 = .ok (.getfield 7, 3) := by decide +kernel
theorem dX7_hidden_35 : decode cX7_hidden 35 = .ok (.bipush 64, 2) := by decide +kernel
theorem dX7_hidden_37 : decode cX7_hidden 37 = .ok (.iload_n 1, 1) := by decide +kernel
theorem dX7_hidden_38 : decode cX7_hidden 38 = .ok (.imul, 1) := by decide +kernel
theorem dX7_hidden_39 : decode cX7_hidden 39 = .ok (.iload_n 2, 1) := by decide +kernel
theorem dX7_hidden_40 : decode cX7_hidden 40 = .ok (.iadd, 1) := by decide +kernel
theorem dX7_hidden_41 : decode cX7_hidden 41 = .ok (.baload, 1) := by decide +kernel
theorem dX7_hidden_42 : decode cX7_hidden 42 = .ok (.ifCond .ne 7, 3) := by decide +kernel
theorem dX7_hidden_45 : decode cX7_hidden 45 = .ok (.iconst 1, 1) := by decide +kernel
theorem dX7_hidden_46 : decode cX7_hidden 46 = .ok (.goto 4, 3) := by decide +kernel
theorem dX7_hidden_49 : decode cX7_hidden 49 = .ok (.iconst 0, 1) := by decide +kernel
theorem dX7_hidden_50 : decode cX7_hidden 50 = .ok (.invokevirtual 191, 3) := by decide +kernel
theorem dX7_hidden_53 : decode cX7_hidden 53 = .ok (.ireturn, 1) := by decide +kernel
set_option maxRecDepth 20000 in
theorem ggX7_segment_X7_hidden : GoodIn wsX7_segment wsX7_hidden := goodIn_r _ [6, 7, 8, 9, 5, 10, 11, 12, 13, 14, 15, 16, 17, 18, 19, 20, 21, 22, 23, 24, 25, 26, 27, 28, 29, 30] (by decide +kernel) (by decide +kernel)
set_option maxRecDepth 20000 in
theorem gX7_segment_X7_hidden : GoodIn wsX7_segment (wsV RX7 203 RX7 yX7_hidden wsX7_hidden) := goodIn_app (goodIn_of _ (by decide +kernel)) ggX7_segment_X7_hidden
theorem dX7_segment_0 : decode cX7_segment 0 = .ok (.aload_n 0, 1) := by decide +kernel
theorem dX7_segment_1 : decode cX7_segment 1 = .ok (.iload_n 1, 1) := by decide +kernel
theorem dX7_segment_2 : decode cX7_segment 2 = .ok (.iload_n 2, 1) := by decide +kernel
theorem dX7_segment_3 : decode cX7_segment 3 = .ok (.invokevirtual 203, 3) := by decide +kernel
theorem dX7_segment_6 : decode cX7_segment 6 = .ok (.ifCond .eq 7, 3) := by decide +kernel
theorem dX7_segment_9 : decode cX7_segment 9 = .ok (.iconst 0, 1) := by decide +kernel
theorem dX7_segment_10 : decode cX7_segment 10 = .ok (.goto 14, 3) := by decide +kernel
theorem dX7_segment_13 : decode cX7_segment 13 = .ok (.aload_n 0, 1) := by decide +kernel
theorem dX7_segment_14 : decode cX7_segment 14 = .ok (.getfield 13, 3) := by decide +kernel
theorem dX7_segment_17 : decode cX7_segment 17 = .ok (.bipush 64, 2) := by decide +kernel
theorem dX7_segment_19 : decode cX7_segment 19 = .ok (.iload_n 1, 1) := by decide +kernel
theorem dX7_segment_20 : decode cX7_segment 20 = .ok (.imul, 1) := by decide +kernel
theorem dX7_segment_21 : decode cX7_segment 21 = .ok (.iload_n 2, 1) := by decide +kernel
theorem dX7_segment_22 : decode cX7_segment 22 = .ok (.iadd, 1) := by decide +kernel
theorem dX7_segment_23 : decode cX7_segment 23 = .ok (.iaload, 1) := by decide +kernel
theorem dX7_segment_24 : decode cX7_segment 24 = .ok (.ireturn, 1) := by decide +kernel
set_option maxRecDepth 20000 in
theorem ggX7_value_X7_hidden : GoodIn wsX7_value wsX7_hidden := goodIn_r _ [6, 7, 8, 9, 5, 10, 11, 12, 13, 14, 15, 16, 17, 18, 19, 20, 21, 22, 23, 24, 25, 26, 27, 28, 29, 30] (by decide +kernel) (by decide +kernel)
set_option maxRecDepth 20000 in
theorem gX7_value_X7_hidden : GoodIn wsX7_value (wsV RX7 203 RX7 yX7_hidden wsX7_hidden) := goodIn_app (goodIn_of _ (by decide +kernel)) ggX7_value_X7_hidden
theorem dX7_value_0 : decode cX7_value 0 = .ok (.aload_n 0, 1) := by decide +kernel
theorem dX7_value_1 : decode cX7_value 1 = .ok (.iload_n 1, 1) := by decide +kernel
theorem dX7_value_2 : decode cX7_value 2 = .ok (.iload_n 2, 1) := by decide +kernel
theorem dX7_value_3 : decode cX7_value 3 = .ok (.invokevirtual 203, 3) := by decide +kernel
theorem dX7_value_6 : decode cX7_value 6 = .ok (.ifCond .eq 7, 3) := by decide +kernel
theorem dX7_value_9 : decode cX7_value 9 = .ok (.lconst 0, 1) := by decide +kernel
theorem dX7_value_10 : decode cX7_value 10 = .ok (.goto 14, 3) := by decide +kernel
theorem dX7_value_13 : decode cX7_value 13 = .ok (.aload_n 0, 1) := by decide +kernel
theorem dX7_value_14 : decode cX7_value 14 = .ok (.getfield 17, 3) := by decide +kernel
theorem dX7_value_17 : decode cX7_value 17 = .ok (.bipush 64, 2) := by decide +kernel
theorem dX7_value_19 : decode cX7_value 19 = .ok (.iload_n 1, 1) := by decide +kernel
theorem dX7_value_20 : decode cX7_value 20 = .ok (.imul, 1) := by decide +kernel
theorem dX7_value_21 : decode cX7_value 21 = .ok (.iload_n 2, 1) := by decide +kernel
theorem dX7_value_22 : decode cX7_value 22 = .ok (.iadd, 1) := by decide +kernel
theorem dX7_value_23 : decode cX7_value 23 = .ok (.laload, 1) := by decide +kernel
theorem dX7_value_24 : decode cX7_value 24 = .ok (.lreturn, 1) := by decide +kernel
theorem dX7_rows_0 : decode cX7_rows 0 = .ok (.aload_n 0, 1) := by decide +kernel
theorem dX7_rows_1 : decode cX7_rows 1 = .ok (.iconst 0, 1) := by decide +kernel
theorem dX7_rows_2 : decode cX7_rows 2 = .ok (.putfield 33, 3) := by decide +kernel
theorem dX7_rows_5 : decode cX7_rows 5 = .ok (.aload_n 0, 1) := by decide +kernel
theorem dX7_rows_6 : decode cX7_rows 6 = .ok (.getfield 184, 3) := by decide +kernel
theorem dX7_rows_9 : decode cX7_rows 9 = .ok (.ireturn, 1) := by decide +kernel
theorem dX7_beginOf_0 : decode cX7_beginOf 0 = .ok (.iconst 1, 1) := by decide +kernel
theorem dX7_beginOf_1 : decode cX7_beginOf 1 = .ok (.istore_n 2, 1) := by decide +kernel
theorem dX7_beginOf_2 : decode cX7_beginOf 2 = .ok (.iconst 1, 1) := by decide +kernel
theorem dX7_beginOf_3 : decode cX7_beginOf 3 = .ok (.istore_n 3, 1) := by decide +kernel
theorem dX7_beginOf_4 : decode cX7_beginOf 4 = .ok (.iload_n 3, 1) := by decide +kernel
theorem dX7_beginOf_5 : decode cX7_beginOf 5 = .ok (.iload_n 1, 1) := by decide +kernel
theorem dX7_beginOf_6 : decode cX7_beginOf 6 = .ok (.if_icmp .ge 59, 3) := by decide +kernel
theorem dX7_beginOf_9 : decode cX7_beginOf 9 = .ok (.iconst 0, 1) := by decide +kernel
theorem dX7_beginOf_10 : decode cX7_beginOf 10 = .ok (.istore 4, 2) := by decide +kernel
theorem dX7_beginOf_12 : decode cX7_beginOf 12 = .ok (.iconst 0, 1) := by decide +kernel
theorem dX7_beginOf_13 : decode cX7_beginOf 13 = .ok (.istore 5, 2) := by decide +kernel
theorem dX7_beginOf_15 : decode cX7_beginOf 15 = .ok (.iload 5, 2) := by decide +kernel
theorem dX7_beginOf_17 : decode cX7_beginOf 17 = .ok (.bipush 64, 2) := by decide +kernel
theorem dX7_beginOf_19 : decode cX7_beginOf 19 = .ok (.if_icmp .ge 35, 3) := by decide +kernel
theorem dX7_beginOf_22 : decode cX7_beginOf 22 = .ok (.aload_n 0, 1) := by decide +kernel
theorem dX7_beginOf_23 : decode cX7_beginOf 23 = .ok (.getfield 7, 3) := by decide +kernel
theorem dX7_beginOf_26 : decode cX7_beginOf 26 = .ok (.bipush 64, 2) := by decide +kernel
theorem dX7_beginOf_28 : decode cX7_beginOf 28 = .ok (.iload_n 3, 1) := by decide +kernel
theorem dX7_beginOf_29 : decode cX7_beginOf 29 = .ok (.imul, 1) := by decide +kernel
theorem dX7_beginOf_30 : decode cX7_beginOf 30 = .ok (.iload 5, 2) := by decide +kernel
theorem dX7_beginOf_32 : decode cX7_beginOf 32 = .ok (.iadd, 1) := by decide +kernel
theorem dX7_beginOf_33 : decode cX7_beginOf 33 = .ok (.baload, 1) := by decide +kernel
theorem dX7_beginOf_34 : decode cX7_beginOf 34 = .ok (.ifCond .eq 10, 3) := by decide +kernel
theorem dX7_beginOf_37 : decode cX7_beginOf 37 = .ok (.iload 5, 2) := by decide +kernel
theorem dX7_beginOf_39 : decode cX7_beginOf 39 = .ok (.iconst 1, 1) := by decide +kernel
theorem dX7_beginOf_40 : decode cX7_beginOf 40 = .ok (.iadd, 1) := by decide +kernel
theorem dX7_beginOf_41 : decode cX7_beginOf 41 = .ok (.goto 5, 3) := by decide +kernel
theorem dX7_beginOf_44 : decode cX7_beginOf 44 = .ok (.iload 4, 2) := by decide +kernel
theorem dX7_beginOf_46 : decode cX7_beginOf 46 = .ok (.istore 4, 2) := by decide +kernel
theorem dX7_beginOf_48 : decode cX7_beginOf 48 = .ok (.iinc 5 1, 3) := by decide +kernel
theorem dX7_beginOf_51 : decode cX7_beginOf 51 = .ok (.goto (-36), 3) := by decide +kernel
theorem dX7_beginOf_54 : decode cX7_beginOf 54 = .ok (.iload_n 2, 1) := by decide +kernel
theorem dX7_beginOf_55 : decode cX7_beginOf 55 = .ok (.iload 4, 2) := by decide +kernel
theorem dX7_beginOf_57 : decode cX7_beginOf 57 = .ok (.iadd, 1) := by decide +kernel
theorem dX7_beginOf_58 : decode cX7_beginOf 58 = .ok (.istore_n 2, 1) := by decide +kernel
theorem dX7_beginOf_59 : decode cX7_beginOf 59 = .ok (.iinc 3 1, 3) := by decide +kernel
theorem dX7_beginOf_62 : decode cX7_beginOf 62 = .ok (.goto (-58), 3) := by decide +kernel
theorem dX7_beginOf_65 : decode cX7_beginOf 65 = .ok (.iload_n 2, 1) := by decide +kernel
theorem dX7_beginOf_66 : decode cX7_beginOf 66 = .ok (.ireturn, 1) := by decide +kernel
set_option maxRecDepth 20000 in
theorem ggX7_moved_X7_beginOf : GoodIn wsX7_moved wsX7_beginOf := goodIn_r _ [5, 6, 11, 12, 13, 14, 15, 16, 17, 18, 19, 20, 21, 22, 23, 24, 25] (by decide +kernel) (by decide +kernel)
set_option maxRecDepth 20000 in
theorem gX7_moved_X7_beginOf : GoodIn wsX7_moved (wsV RX7 207 RX7 yX7_beginOf wsX7_beginOf) := goodIn_app (goodIn_of _ (by decide +kernel)) ggX7_moved_X7_beginOf
set_option maxRecDepth 20000 in
theorem ggX7_moved_X7_modulo : GoodIn wsX7_moved wsX7_modulo := goodIn_r _ [9, 10] (by decide +kernel) (by decide +kernel)
set_option maxRecDepth 20000 in
theorem gX7_moved_X7_modulo : GoodIn wsX7_moved (va_wsS RX7 39 yX7_modulo wsX7_modulo) := goodIn_app (goodIn_of _ (by decide +kernel)) ggX7_moved_X7_modulo
theorem dX7_moved_0 : decode cX7_moved 0 = .ok (.iload_n 1, 1) := by decide +kernel
theorem dX7_moved_1 : decode cX7_moved 1 = .ok (.ifCond .ne 7, 3) := by decide +kernel
theorem dX7_moved_4 : decode cX7_moved 4 = .ok (.lload_n 2, 1) := by decide +kernel
theorem dX7_moved_5 : decode cX7_moved 5 = .ok (.goto 14, 3) := by decide +kernel
theorem dX7_moved_8 : decode cX7_moved 8 = .ok (.aload_n 0, 1) := by decide +kernel
theorem dX7_moved_9 : decode cX7_moved 9 = .ok (.iload_n 1, 1) := by decide +kernel
theorem dX7_moved_10 : decode cX7_moved 10 = .ok (.invokevirtual 207, 3) := by decide +kernel
theorem dX7_moved_13 : decode cX7_moved 13 = .ok (.i2l, 1) := by decide +kernel
theorem dX7_moved_14 : decode cX7_moved 14 = .ok (.lload_n 2, 1) := by decide +kernel
theorem dX7_moved_15 : decode cX7_moved 15 = .ok (.ladd, 1) := by decide +kernel
theorem dX7_moved_16 : decode cX7_moved 16 = .ok (.invokestatic 39, 3) := by decide +kernel
theorem dX7_moved_19 : decode cX7_moved 19 = .ok (.lreturn, 1) := by decide +kernel
set_option maxRecDepth 20000 in
theorem ggX7_traced_X7_out : GoodIn wsX7_traced wsX7_out := goodIn_r _ [7] (by decide +kernel) (by decide +kernel)
set_option maxRecDepth 20000 in
theorem gX7_traced_X7_out : GoodIn wsX7_traced (va_wsS RX7 187 yX7_out wsX7_out) := goodIn_app (goodIn_of _ (by decide +kernel)) ggX7_traced_X7_out
set_option maxRecDepth 20000 in
theorem ggX7_traced_X7_throwing : GoodIn wsX7_traced wsX7_throwing := goodIn_r _ [11, 12, 26, 27, 28, 29, 30, 31, 32, 33, 34, 35, 36, 37, 38, 39, 40] (by decide +kernel) (by decide +kernel)
set_option maxRecDepth 20000 in
theorem gX7_traced_X7_throwing : GoodIn wsX7_traced (wsV RX7 191 RX7 yX7_throwing wsX7_throwing) := goodIn_app (goodIn_of _ (by decide +kernel)) ggX7_traced_X7_throwing
set_option maxRecDepth 20000 in
theorem ggX7_traced_X7_moved : GoodIn wsX7_traced wsX7_moved := goodIn_r _ [16, 17, 18, 19, 6, 20, 21, 22, 23, 24, 25, 26, 27, 28, 29, 30, 31, 32, 33, 34, 35, 36, 37, 38, 39, 40] (by decide +kernel) (by decide +kernel)
set_option maxRecDepth 20000 in
theorem gX7_traced_X7_moved : GoodIn wsX7_traced (wsV RX7 211 RX7 yX7_moved wsX7_moved) := goodIn_app (goodIn_of _ (by decide +kernel)) ggX7_traced_X7_moved
theorem dX7_traced_0 : decode cX7_traced 0 = .ok (.aload_n 0, 1) := by decide +kernel
theorem dX7_traced_1 : decode cX7_traced 1 = .ok (.iload_n 2, 1) := by decide +kernel
theorem dX7_traced_2 : decode cX7_traced 2 = .ok (.iconst 0, 1) := by decide +kernel
theorem dX7_traced_3 : decode cX7_traced 3 = .ok (.iconst 2, 1) := by decide +kernel
theorem dX7_traced_4 : decode cX7_traced 4 = .ok (.invokestatic 187, 3) := by decide +kernel
theorem dX7_traced_7 : decode cX7_traced 7 = .ok (.iload_n 1, 1) := by decide +kernel
theorem dX7_traced_8 : decode cX7_traced 8 = .ok (.iconst 0, 1) := by decide +kernel
theorem dX7_traced_9 : decode cX7_traced 9 = .ok (.aload_n 0, 1) := by decide +kernel
theorem dX7_traced_10 : decode cX7_traced 10 = .ok (.getfield 184, 3) := by decide +kernel
theorem dX7_traced_13 : decode cX7_traced 13 = .ok (.iconst 1, 1) := by decide +kernel
theorem dX7_traced_14 : decode cX7_traced 14 = .ok (.isub, 1) := by decide +kernel
theorem dX7_traced_15 : decode cX7_traced 15 = .ok (.invokestatic 187, 3) := by decide +kernel
theorem dX7_traced_18 : decode cX7_traced 18 = .ok (.invokevirtual 191, 3) := by decide +kernel
theorem dX7_traced_21 : decode cX7_traced 21 = .ok (.ifCond .eq 5, 3) := by decide +kernel
theorem dX7_traced_24 : decode cX7_traced 24 = .ok (.lconst 0, 1) := by decide +kernel
theorem dX7_traced_25 : decode cX7_traced 25 = .ok (.lreturn, 1) := by decide +kernel
theorem dX7_traced_26 : decode cX7_traced 26 = .ok (.aload_n 0, 1) := by decide +kernel
theorem dX7_traced_27 : decode cX7_traced 27 = .ok (.aload_n 0, 1) := by decide +kernel
theorem dX7_traced_28 : decode cX7_traced 28 = .ok (.getfield 27, 3) := by decide +kernel
theorem dX7_traced_31 : decode cX7_traced 31 = .ok (.iconst 3, 1) := by decide +kernel
theorem dX7_traced_32 : decode cX7_traced 32 = .ok (.iload_n 1, 1) := by decide +kernel
theorem dX7_traced_33 : decode cX7_traced 33 = .ok (.imul, 1) := by decide +kernel
theorem dX7_traced_34 : decode cX7_traced 34 = .ok (.iload_n 2, 1) := by decide +kernel
theorem dX7_traced_35 : decode cX7_traced 35 = .ok (.iadd, 1) := by decide +kernel
theorem dX7_traced_36 : decode cX7_traced 36 = .ok (.iaload, 1) := by decide +kernel
theorem dX7_traced_37 : decode cX7_traced 37 = .ok (.aload_n 0, 1) := by decide +kernel
theorem dX7_traced_38 : decode cX7_traced 38 = .ok (.getfield 30, 3) := by decide +kernel
theorem dX7_traced_41 : decode cX7_traced 41 = .ok (.iconst 3, 1) := by decide +kernel
theorem dX7_traced_42 : decode cX7_traced 42 = .ok (.iload_n 1, 1) := by decide +kernel
theorem dX7_traced_43 : decode cX7_traced 43 = .ok (.imul, 1) := by decide +kernel
theorem dX7_traced_44 : decode cX7_traced 44 = .ok (.iload_n 2, 1) := by decide +kernel
theorem dX7_traced_45 : decode cX7_traced 45 = .ok (.iadd, 1) := by decide +kernel
theorem dX7_traced_46 : decode cX7_traced 46 = .ok (.laload, 1) := by decide +kernel
theorem dX7_traced_47 : decode cX7_traced 47 = .ok (.invokevirtual 211, 3) := by decide +kernel
theorem dX7_traced_50 : decode cX7_traced 50 = .ok (.lreturn, 1) := by decide +kernel
set_option maxRecDepth 20000 in
theorem ggX7_begins_X7_out : GoodIn wsX7_begins wsX7_out := goodIn_r _ [4] (by decide +kernel) (by decide +kernel)
set_option maxRecDepth 20000 in
theorem gX7_begins_X7_out : GoodIn wsX7_begins (va_wsS RX7 187 yX7_out wsX7_out) := goodIn_app (goodIn_of _ (by decide +kernel)) ggX7_begins_X7_out
set_option maxRecDepth 20000 in
theorem ggX7_begins_X7_throwing : GoodIn wsX7_begins wsX7_throwing := goodIn_r _ [8, 9, 15, 16, 17, 18, 19, 20, 21, 22, 23, 24, 25, 26, 27, 28, 29] (by decide +kernel) (by decide +kernel)
set_option maxRecDepth 20000 in
theorem gX7_begins_X7_throwing : GoodIn wsX7_begins (wsV RX7 191 RX7 yX7_throwing wsX7_throwing) := goodIn_app (goodIn_of _ (by decide +kernel)) ggX7_begins_X7_throwing
set_option maxRecDepth 20000 in
theorem ggX7_begins_X7_beginOf : GoodIn wsX7_begins wsX7_beginOf := goodIn_r _ [13, 14, 15, 16, 17, 18, 19, 20, 21, 22, 23, 24, 25, 26, 27, 28, 29] (by decide +kernel) (by decide +kernel)
set_option maxRecDepth 20000 in
theorem gX7_begins_X7_beginOf : GoodIn wsX7_begins (wsV RX7 207 RX7 yX7_beginOf wsX7_beginOf) := goodIn_app (goodIn_of _ (by decide +kernel)) ggX7_begins_X7_beginOf
theorem dX7_begins_0 : decode cX7_begins 0 = .ok (.aload_n 0, 1) := by decide +kernel
theorem dX7_begins_1 : decode cX7_begins 1 = .ok (.iload_n 1, 1) := by decide +kernel
theorem dX7_begins_2 : decode cX7_begins 2 = .ok (.iconst 1, 1) := by decide +kernel
theorem dX7_begins_3 : decode cX7_begins 3 = .ok (.bipush 6, 2) := by decide +kernel
theorem dX7_begins_5 : decode cX7_begins 5 = .ok (.invokestatic 187, 3) := by decide +kernel
theorem dX7_begins_8 : decode cX7_begins 8 = .ok (.iconst 0, 1) := by decide +kernel
theorem dX7_begins_9 : decode cX7_begins 9 = .ok (.invokevirtual 191, 3) := by decide +kernel
theorem dX7_begins_12 : decode cX7_begins 12 = .ok (.ifCond .eq 7, 3) := by decide +kernel
theorem dX7_begins_15 : decode cX7_begins 15 = .ok (.iconst 0, 1) := by decide +kernel
theorem dX7_begins_16 : decode cX7_begins 16 = .ok (.goto 8, 3) := by decide +kernel
theorem dX7_begins_19 : decode cX7_begins 19 = .ok (.aload_n 0, 1) := by decide +kernel
theorem dX7_begins_20 : decode cX7_begins 20 = .ok (.iload_n 1, 1) := by decide +kernel
theorem dX7_begins_21 : decode cX7_begins 21 = .ok (.invokevirtual 207, 3) := by decide +kernel
theorem dX7_begins_24 : decode cX7_begins 24 = .ok (.ireturn, 1) := by decide +kernel
set_option maxRecDepth 20000 in
theorem ggX7_relocated_X7_beginOf : GoodIn wsX7_relocated wsX7_beginOf := goodIn_r _ [8, 1, 25, 26, 27, 28, 29, 30, 31, 32, 33, 34, 35, 36, 37, 38, 39] (by decide +kernel) (by decide +kernel)
set_option maxRecDepth 20000 in
theorem gX7_relocated_X7_beginOf : GoodIn wsX7_relocated (wsV RX7 207 RX7 yX7_beginOf wsX7_beginOf) := goodIn_app (goodIn_of _ (by decide +kernel)) ggX7_relocated_X7_beginOf
set_option maxRecDepth 20000 in
theorem ggX7_relocated_X7_out : GoodIn wsX7_relocated wsX7_out := goodIn_r _ [11] (by decide +kernel) (by decide +kernel)
set_option maxRecDepth 20000 in
theorem gX7_relocated_X7_out : GoodIn wsX7_relocated (va_wsS RX7 187 yX7_out wsX7_out) := goodIn_app (goodIn_of _ (by decide +kernel)) ggX7_relocated_X7_out
set_option maxRecDepth 20000 in
theorem ggX7_relocated_X7_throwing : GoodIn wsX7_relocated wsX7_throwing := goodIn_r _ [15, 16, 25, 26, 27, 28, 29, 30, 31, 32, 33, 34, 35, 36, 37, 38, 39] (by decide +kernel) (by decide +kernel)
set_option maxRecDepth 20000 in
theorem gX7_relocated_X7_throwing : GoodIn wsX7_relocated (wsV RX7 191 RX7 yX7_throwing wsX7_throwing) := goodIn_app (goodIn_of _ (by decide +kernel)) ggX7_relocated_X7_throwing
set_option maxRecDepth 20000 in
theorem ggX7_relocated_X7_moved : GoodIn wsX7_relocated wsX7_moved := goodIn_r _ [20, 4, 5, 6, 7, 8, 1, 21, 22, 23, 24, 25, 26, 27, 28, 29, 30, 31, 32, 33, 34, 35, 36, 37, 38, 39] (by decide +kernel) (by decide +kernel)
set_option maxRecDepth 20000 in
theorem gX7_relocated_X7_moved : GoodIn wsX7_relocated (wsV RX7 211 RX7 yX7_moved wsX7_moved) := goodIn_app (goodIn_of _ (by decide +kernel)) ggX7_relocated_X7_moved
theorem dX7_relocated_0 : decode cX7_relocated 0 = .ok (.aload_n 0, 1) := by decide +kernel
theorem dX7_relocated_1 : decode cX7_relocated 1 = .ok (.iload_n 1, 1) := by decide +kernel
theorem dX7_relocated_2 : decode cX7_relocated 2 = .ok (.iconst 1, 1) := by decide +kernel
theorem dX7_relocated_3 : decode cX7_relocated 3 = .ok (.aload_n 0, 1) := by decide +kernel
theorem dX7_relocated_4 : decode cX7_relocated 4 = .ok (.bipush 6, 2) := by decide +kernel
theorem dX7_relocated_6 : decode cX7_relocated 6 = .ok (.invokevirtual 207, 3) := by decide +kernel
theorem dX7_relocated_9 : decode cX7_relocated 9 = .ok (.iconst 1, 1) := by decide +kernel
theorem dX7_relocated_10 : decode cX7_relocated 10 = .ok (.isub, 1) := by decide +kernel
theorem dX7_relocated_11 : decode cX7_relocated 11 = .ok (.invokestatic 187, 3) := by decide +kernel
theorem dX7_relocated_14 : decode cX7_relocated 14 = .ok (.iconst 0, 1) := by decide +kernel
theorem dX7_relocated_15 : decode cX7_relocated 15 = .ok (.invokevirtual 191, 3) := by decide +kernel
theorem dX7_relocated_18 : decode cX7_relocated 18 = .ok (.ifCond .eq 5, 3) := by decide +kernel
theorem dX7_relocated_21 : decode cX7_relocated 21 = .ok (.lconst 0, 1) := by decide +kernel
theorem dX7_relocated_22 : decode cX7_relocated 22 = .ok (.lreturn, 1) := by decide +kernel
theorem dX7_relocated_23 : decode cX7_relocated 23 = .ok (.iconst 1, 1) := by decide +kernel
theorem dX7_relocated_24 : decode cX7_relocated 24 = .ok (.istore_n 2, 1) := by decide +kernel
theorem dX7_relocated_25 : decode cX7_relocated 25 = .ok (.aload_n 0, 1) := by decide +kernel
theorem dX7_relocated_26 : decode cX7_relocated 26 = .ok (.iload_n 2, 1) := by decide +kernel
theorem dX7_relocated_27 : decode cX7_relocated 27 = .ok (.iconst 1, 1) := by decide +kernel
theorem dX7_relocated_28 : decode cX7_relocated 28 = .ok (.iadd, 1) := by decide +kernel
theorem dX7_relocated_29 : decode cX7_relocated 29 = .ok (.invokevirtual 207, 3) := by decide +kernel
theorem dX7_relocated_32 : decode cX7_relocated 32 = .ok (.iload_n 1, 1) := by decide +kernel
theorem dX7_relocated_33 : decode cX7_relocated 33 = .ok (.if_icmp .gt 9, 3) := by decide +kernel
theorem dX7_relocated_36 : decode cX7_relocated 36 = .ok (.iinc 2 1, 3) := by decide +kernel
theorem dX7_relocated_39 : decode cX7_relocated 39 = .ok (.goto (-14), 3) := by decide +kernel
theorem dX7_relocated_42 : decode cX7_relocated 42 = .ok (.bipush 64, 2) := by decide +kernel
theorem dX7_relocated_44 : decode cX7_relocated 44 = .ok (.iload_n 2, 1) := by decide +kernel
theorem dX7_relocated_45 : decode cX7_relocated 45 = .ok (.imul, 1) := by decide +kernel
theorem dX7_relocated_46 : decode cX7_relocated 46 = .ok (.iload_n 1, 1) := by decide +kernel
theorem dX7_relocated_47 : decode cX7_relocated 47 = .ok (.iadd, 1) := by decide +kernel
theorem dX7_relocated_48 : decode cX7_relocated 48 = .ok (.aload_n 0, 1) := by decide +kernel
theorem dX7_relocated_49 : decode cX7_relocated 49 = .ok (.iload_n 2, 1) := by decide +kernel
theorem dX7_relocated_50 : decode cX7_relocated 50 = .ok (.invokevirtual 207, 3) := by decide +kernel
theorem dX7_relocated_53 : decode cX7_relocated 53 = .ok (.isub, 1) := by decide +kernel
theorem dX7_relocated_54 : decode cX7_relocated 54 = .ok (.istore_n 3, 1) := by decide +kernel
theorem dX7_relocated_55 : decode cX7_relocated 55 = .ok (.aload_n 0, 1) := by decide +kernel
theorem dX7_relocated_56 : decode cX7_relocated 56 = .ok (.getfield 7, 3) := by decide +kernel
theorem dX7_relocated_59 : decode cX7_relocated 59 = .ok (.iload_n 3, 1) := by decide +kernel
theorem dX7_relocated_60 : decode cX7_relocated 60 = .ok (.baload, 1) := by decide +kernel
theorem dX7_relocated_61 : decode cX7_relocated 61 = .ok (.ifCond .eq 22, 3) := by decide +kernel
theorem dX7_relocated_64 : decode cX7_relocated 64 = .ok (.aload_n 0, 1) := by decide +kernel
theorem dX7_relocated_65 : decode cX7_relocated 65 = .ok (.aload_n 0, 1) := by decide +kernel
theorem dX7_relocated_66 : decode cX7_relocated 66 = .ok (.getfield 13, 3) := by decide +kernel
theorem dX7_relocated_69 : decode cX7_relocated 69 = .ok (.iload_n 3, 1) := by decide +kernel
theorem dX7_relocated_70 : decode cX7_relocated 70 = .ok (.iaload, 1) := by decide +kernel
theorem dX7_relocated_71 : decode cX7_relocated 71 = .ok (.aload_n 0, 1) := by decide +kernel
theorem dX7_relocated_72 : decode cX7_relocated 72 = .ok (.getfield 17, 3) := by decide +kernel
theorem dX7_relocated_75 : decode cX7_relocated 75 = .ok (.iload_n 3, 1) := by decide +kernel
theorem dX7_relocated_76 : decode cX7_relocated 76 = .ok (.laload, 1) := by decide +kernel
theorem dX7_relocated_77 : decode cX7_relocated 77 = .ok (.invokevirtual 211, 3) := by decide +kernel
theorem dX7_relocated_80 : decode cX7_relocated 80 = .ok (.goto 4, 3) := by decide +kernel
theorem dX7_relocated_83 : decode cX7_relocated 83 = .ok (.lconst 0, 1) := by decide +kernel
theorem dX7_relocated_84 : decode cX7_relocated 84 = .ok (.lreturn, 1) := by decide +kernel
set_option maxRecDepth 20000 in
theorem ggX7_reckon_X7_out : GoodIn wsX7_reckon wsX7_out := goodIn_r _ [4] (by decide +kernel) (by decide +kernel)
set_option maxRecDepth 20000 in
theorem gX7_reckon_X7_out : GoodIn wsX7_reckon (va_wsS RX7 187 yX7_out wsX7_out) := goodIn_app (goodIn_of _ (by decide +kernel)) ggX7_reckon_X7_out
set_option maxRecDepth 20000 in
theorem ggX7_reckon_X7_modulo : GoodIn wsX7_reckon wsX7_modulo := goodIn_r _ [7, 8] (by decide +kernel) (by decide +kernel)
set_option maxRecDepth 20000 in
theorem gX7_reckon_X7_modulo : GoodIn wsX7_reckon (va_wsS RX7 39 yX7_modulo wsX7_modulo) := goodIn_app (goodIn_of _ (by decide +kernel)) ggX7_reckon_X7_modulo
set_option maxRecDepth 20000 in
theorem ggX7_reckon_X7_throwing : GoodIn wsX7_reckon wsX7_throwing := goodIn_r _ [12, 13, 23, 24, 25, 26, 27, 28, 29, 30, 31, 32, 33, 34, 35, 36, 37] (by decide +kernel) (by decide +kernel)
set_option maxRecDepth 20000 in
theorem gX7_reckon_X7_throwing : GoodIn wsX7_reckon (wsV RX7 191 RX7 yX7_throwing wsX7_throwing) := goodIn_app (goodIn_of _ (by decide +kernel)) ggX7_reckon_X7_throwing
set_option maxRecDepth 20000 in
theorem ggX7_reckon_X7_operate : GoodIn wsX7_reckon wsX7_operate := goodIn_r _ [16, 5, 6, 3, 7, 8, 17, 18, 19, 20, 21, 22] (by decide +kernel) (by decide +kernel)
set_option maxRecDepth 20000 in
theorem gX7_reckon_X7_operate : GoodIn wsX7_reckon (va_wsS RX7 74 yX7_operate wsX7_operate) := goodIn_app (goodIn_of _ (by decide +kernel)) ggX7_reckon_X7_operate
theorem dX7_reckon_0 : decode cX7_reckon 0 = .ok (.iload_n 1, 1) := by decide +kernel
theorem dX7_reckon_1 : decode cX7_reckon 1 = .ok (.iconst 0, 1) := by decide +kernel
theorem dX7_reckon_2 : decode cX7_reckon 2 = .ok (.iconst 3, 1) := by decide +kernel
theorem dX7_reckon_3 : decode cX7_reckon 3 = .ok (.invokestatic 187, 3) := by decide +kernel
theorem dX7_reckon_6 : decode cX7_reckon 6 = .ok (.istore 6, 2) := by decide +kernel
theorem dX7_reckon_8 : decode cX7_reckon 8 = .ok (.aload_n 0, 1) := by decide +kernel
theorem dX7_reckon_9 : decode cX7_reckon 9 = .ok (.iload 6, 2) := by decide +kernel
theorem dX7_reckon_11 : decode cX7_reckon 11 = .ok (.iload_n 1, 1) := by decide +kernel
theorem dX7_reckon_12 : decode cX7_reckon 12 = .ok (.iconst 3, 1) := by decide +kernel
theorem dX7_reckon_13 : decode cX7_reckon 13 = .ok (.if_icmp .ne 17, 3) := by decide +kernel
theorem dX7_reckon_16 : decode cX7_reckon 16 = .ok (.lload 4, 2) := by decide +kernel
theorem dX7_reckon_18 : decode cX7_reckon 18 = .ok (.invokestatic 39, 3) := by decide +kernel
theorem dX7_reckon_21 : decode cX7_reckon 21 = .ok (.lconst 0, 1) := by decide +kernel
theorem dX7_reckon_22 : decode cX7_reckon 22 = .ok (.lcmp, 1) := by decide +kernel
theorem dX7_reckon_23 : decode cX7_reckon 23 = .ok (.ifCond .ne 7, 3) := by decide +kernel
theorem dX7_reckon_26 : decode cX7_reckon 26 = .ok (.iconst 1, 1) := by decide +kernel
theorem dX7_reckon_27 : decode cX7_reckon 27 = .ok (.goto 4, 3) := by decide +kernel
theorem dX7_reckon_30 : decode cX7_reckon 30 = .ok (.iconst 0, 1) := by decide +kernel
theorem dX7_reckon_31 : decode cX7_reckon 31 = .ok (.invokevirtual 191, 3) := by decide +kernel
theorem dX7_reckon_34 : decode cX7_reckon 34 = .ok (.ifCond .eq 5, 3) := by decide +kernel
theorem dX7_reckon_37 : decode cX7_reckon 37 = .ok (.lconst 0, 1) := by decide +kernel
theorem dX7_reckon_38 : decode cX7_reckon 38 = .ok (.lreturn, 1) := by decide +kernel
theorem dX7_reckon_39 : decode cX7_reckon 39 = .ok (.iload_n 1, 1) := by decide +kernel
theorem dX7_reckon_40 : decode cX7_reckon 40 = .ok (.lload_n 2, 1) := by decide +kernel
theorem dX7_reckon_41 : decode cX7_reckon 41 = .ok (.invokestatic 39, 3) := by decide +kernel
theorem dX7_reckon_44 : decode cX7_reckon 44 = .ok (.lload 4, 2) := by decide +kernel
theorem dX7_reckon_46 : decode cX7_reckon 46 = .ok (.invokestatic 39, 3) := by decide +kernel
theorem dX7_reckon_49 : decode cX7_reckon 49 = .ok (.invokestatic 74, 3) := by decide +kernel
theorem dX7_reckon_52 : decode cX7_reckon 52 = .ok (.lreturn, 1) := by decide +kernel

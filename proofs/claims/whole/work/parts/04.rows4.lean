set_option maxRecDepth 20000 in
theorem gX7_result_X7_times : GoodIn wsX7_result (wsV RX7 148 RX7 yX7_times wsX7_times) := goodIn_app (goodIn_of _ (by decide +kernel)) ggX7_result_X7_times
theorem dX7_result_0 : decode cX7_result 0 = .ok (.aload_n 0, 1) := by decide +kernel
theorem dX7_result_1 : decode cX7_result 1 = .ok (.getfield 114, 3) := by decide +kernel
theorem dX7_result_4 : decode cX7_result 4 = .ok (.ifCond .gt 39, 3) := by decide +kernel
theorem dX7_result_7 : decode cX7_result 7 = .ok (.aload_n 0, 1) := by decide +kernel
theorem dX7_result_8 : decode cX7_result 8 = .ok (.bipush 44, 2) := by decide +kernel
theorem dX7_result_10 : decode cX7_result 10 = .ok (.invokevirtual 134, 3) := by decide +kernel
theorem dX7_result_13 : decode cX7_result 13 = .ok (.ifCond .ne 31, 3) := by decide +kernel
theorem dX7_result_16 : decode cX7_result 16 = .ok (.aload_n 0, 1) := by decide +kernel
theorem dX7_result_17 : decode cX7_result 17 = .ok (.bipush 37, 2) := by decide +kernel
theorem dX7_result_19 : decode cX7_result 19 = .ok (.invokevirtual 134, 3) := by decide +kernel
theorem dX7_result_22 : decode cX7_result 22 = .ok (.ifCond .ne 22, 3) := by decide +kernel
theorem dX7_result_25 : decode cX7_result 25 = .ok (.aload_n 0, 1) := by decide +kernel
theorem dX7_result_26 : decode cX7_result 26 = .ok (.bipush 38, 2) := by decide +kernel
theorem dX7_result_28 : decode cX7_result 28 = .ok (.invokevirtual 134, 3) := by decide +kernel
theorem dX7_result_31 : decode cX7_result 31 = .ok (.ifCond .ne 13, 3) := by decide +kernel
theorem dX7_result_34 : decode cX7_result 34 = .ok (.aload_n 0, 1) := by decide +kernel
theorem dX7_result_35 : decode cX7_result 35 = .ok (.bipush 40, 2) := by decide +kernel
theorem dX7_result_37 : decode cX7_result 37 = .ok (.invokevirtual 134, 3) := by decide +kernel
theorem dX7_result_40 : decode cX7_result 40 = .ok (.ifCond .ne 4, 3) := by decide +kernel
theorem dX7_result_43 : decode cX7_result 43 = .ok (.return_, 1) := by decide +kernel
theorem dX7_result_44 : decode cX7_result 44 = .ok (.aload_n 0, 1) := by decide +kernel
theorem dX7_result_45 : decode cX7_result 45 = .ok (.bipush 35, 2) := by decide +kernel
theorem dX7_result_47 : decode cX7_result 47 = .ok (.invokevirtual 134, 3) := by decide +kernel
theorem dX7_result_50 : decode cX7_result 50 = .ok (.ifCond .ne 12, 3) := by decide +kernel
theorem dX7_result_53 : decode cX7_result 53 = .ok (.aload_n 0, 1) := by decide +kernel
theorem dX7_result_54 : decode cX7_result 54 = .ok (.bipush 36, 2) := by decide +kernel
theorem dX7_result_56 : decode cX7_result 56 = .ok (.invokevirtual 134, 3) := by decide +kernel
theorem dX7_result_59 : decode cX7_result 59 = .ok (.ifCond .eq 7, 3) := by decide +kernel
theorem dX7_result_62 : decode cX7_result 62 = .ok (.iconst 1, 1) := by decide +kernel
theorem dX7_result_63 : decode cX7_result 63 = .ok (.goto 4, 3) := by decide +kernel
theorem dX7_result_66 : decode cX7_result 66 = .ok (.iconst 0, 1) := by decide +kernel
theorem dX7_result_67 : decode cX7_result 67 = .ok (.istore_n 1, 1) := by decide +kernel
theorem dX7_result_68 : decode cX7_result 68 = .ok (.iload_n 1, 1) := by decide +kernel
theorem dX7_result_69 : decode cX7_result 69 = .ok (.ifCond .eq 14, 3) := by decide +kernel
theorem dX7_result_72 : decode cX7_result 72 = .ok (.aload_n 0, 1) := by decide +kernel
theorem dX7_result_73 : decode cX7_result 73 = .ok (.iconst 4, 1) := by decide +kernel
theorem dX7_result_74 : decode cX7_result 74 = .ok (.invokevirtual 138, 3) := by decide +kernel
theorem dX7_result_77 : decode cX7_result 77 = .ok (.aload_n 0, 1) := by decide +kernel
theorem dX7_result_78 : decode cX7_result 78 = .ok (.bipush 10, 2) := by decide +kernel
theorem dX7_result_80 : decode cX7_result 80 = .ok (.invokevirtual 131, 3) := by decide +kernel
theorem dX7_result_83 : decode cX7_result 83 = .ok (.aload_n 0, 1) := by decide +kernel
theorem dX7_result_84 : decode cX7_result 84 = .ok (.iconst 5, 1) := by decide +kernel
theorem dX7_result_85 : decode cX7_result 85 = .ok (.invokevirtual 138, 3) := by decide +kernel
theorem dX7_result_88 : decode cX7_result 88 = .ok (.aload_n 0, 1) := by decide +kernel
theorem dX7_result_89 : decode cX7_result 89 = .ok (.iload_n 1, 1) := by decide +kernel
theorem dX7_result_90 : decode cX7_result 90 = .ok (.ifCond .eq 8, 3) := by decide +kernel
theorem dX7_result_93 : decode cX7_result 93 = .ok (.bipush 11, 2) := by decide +kernel
theorem dX7_result_95 : decode cX7_result 95 = .ok (.goto 5, 3) := by decide +kernel
theorem dX7_result_98 : decode cX7_result 98 = .ok (.bipush 6, 2) := by decide +kernel
theorem dX7_result_100 : decode cX7_result 100 = .ok (.invokevirtual 131, 3) := by decide +kernel
theorem dX7_result_103 : decode cX7_result 103 = .ok (.iload_n 1, 1) := by decide +kernel
theorem dX7_result_104 : decode cX7_result 104 = .ok (.ifCond .eq 10, 3) := by decide +kernel
theorem dX7_result_107 : decode cX7_result 107 = .ok (.aload_n 0, 1) := by decide +kernel
theorem dX7_result_108 : decode cX7_result 108 = .ok (.getfield 114, 3) := by decide +kernel
theorem dX7_result_111 : decode cX7_result 111 = .ok (.ifCond .le 4, 3) := by decide +kernel
theorem dX7_result_114 : decode cX7_result 114 = .ok (.return_, 1) := by decide +kernel
theorem dX7_result_115 : decode cX7_result 115 = .ok (.aload_n 0, 1) := by decide +kernel
theorem dX7_result_116 : decode cX7_result 116 = .ok (.bipush 35, 2) := by decide +kernel
theorem dX7_result_118 : decode cX7_result 118 = .ok (.invokevirtual 134, 3) := by decide +kernel
theorem dX7_result_121 : decode cX7_result 121 = .ok (.ifCond .eq 14, 3) := by decide +kernel
theorem dX7_result_124 : decode cX7_result 124 = .ok (.aload_n 0, 1) := by decide +kernel
theorem dX7_result_125 : decode cX7_result 125 = .ok (.bipush 10, 2) := by decide +kernel
theorem dX7_result_127 : decode cX7_result 127 = .ok (.bipush 11, 2) := by decide +kernel
theorem dX7_result_129 : decode cX7_result 129 = .ok (.invokevirtual 155, 3) := by decide +kernel
theorem dX7_result_132 : decode cX7_result 132 = .ok (.goto 12, 3) := by decide +kernel
theorem dX7_result_135 : decode cX7_result 135 = .ok (.aload_n 0, 1) := by decide +kernel
theorem dX7_result_136 : decode cX7_result 136 = .ok (.bipush 10, 2) := by decide +kernel
theorem dX7_result_138 : decode cX7_result 138 = .ok (.bipush 11, 2) := by decide +kernel
theorem dX7_result_140 : decode cX7_result 140 = .ok (.iconst 0, 1) := by decide +kernel
theorem dX7_result_141 : decode cX7_result 141 = .ok (.invokevirtual 148, 3) := by decide +kernel
theorem dX7_result_144 : decode cX7_result 144 = .ok (.aload_n 0, 1) := by decide +kernel
theorem dX7_result_145 : decode cX7_result 145 = .ok (.bipush 6, 2) := by decide +kernel
theorem dX7_result_147 : decode cX7_result 147 = .ok (.invokevirtual 131, 3) := by decide +kernel
theorem dX7_result_150 : decode cX7_result 150 = .ok (.return_, 1) := by decide +kernel
set_option maxRecDepth 20000 in
theorem ggX7_jump_X7_further : GoodIn wsX7_jump wsX7_further := goodIn_r _ [10, 2, 3, 5, 11, 12, 13, 14, 15, 16, 9, 17, 4, 76, 77, 78, 79, 80, 81, 82, 83, 84, 85, 86, 87, 88, 89, 90] (by decide +kernel) (by decide +kernel)
set_option maxRecDepth 20000 in
theorem gX7_jump_X7_further : GoodIn wsX7_jump (wsV RX7 71 RX7 yX7_further wsX7_further) := goodIn_app (goodIn_of _ (by decide +kernel)) ggX7_jump_X7_further
set_option maxRecDepth 20000 in
theorem ggX7_jump_X7_keep : GoodIn wsX7_jump wsX7_keep := goodIn_r _ [21, 2, 4, 3, 5, 76, 77, 78, 79, 80, 81, 82, 83, 84, 85, 86, 87, 88, 89, 90] (by decide +kernel) (by decide +kernel)
set_option maxRecDepth 20000 in
theorem gX7_jump_X7_keep : GoodIn wsX7_jump (wsV RX7 128 RX7 yX7_keep wsX7_keep) := goodIn_app (goodIn_of _ (by decide +kernel)) ggX7_jump_X7_keep
set_option maxRecDepth 20000 in
theorem ggX7_jump_X7_flag : GoodIn wsX7_jump wsX7_flag := goodIn_r _ [25, 26, 76, 77, 78, 79, 80, 81, 82, 83, 84, 85, 86, 87, 88, 89, 90] (by decide +kernel) (by decide +kernel)
set_option maxRecDepth 20000 in
theorem gX7_jump_X7_flag : GoodIn wsX7_jump (wsV RX7 134 RX7 yX7_flag wsX7_flag) := goodIn_app (goodIn_of _ (by decide +kernel)) ggX7_jump_X7_flag
set_option maxRecDepth 20000 in
theorem ggX7_jump_X7_give : GoodIn wsX7_jump wsX7_give := goodIn_r _ [17, 13, 4, 5, 76, 77, 78, 79, 80, 81, 82, 83, 84, 85, 86, 87, 88, 89, 90] (by decide +kernel) (by decide +kernel)
set_option maxRecDepth 20000 in
theorem gX7_jump_X7_give : GoodIn wsX7_jump (wsV RX7 61 RX7 yX7_give wsX7_give) := goodIn_app (goodIn_of _ (by decide +kernel)) ggX7_jump_X7_give
set_option maxRecDepth 20000 in
theorem ggX7_jump_X7_place : GoodIn wsX7_jump wsX7_place := goodIn_r _ [30, 2, 31, 32, 33, 9, 34, 1, 13, 35, 36, 37, 38, 18, 19, 20, 21, 4, 3, 5, 76, 77, 78, 79, 80, 81, 82, 83, 84, 85, 86, 87, 88, 89, 90] (by decide +kernel) (by decide +kernel)
set_option maxRecDepth 20000 in
theorem gX7_jump_X7_place : GoodIn wsX7_jump (wsV RX7 141 RX7 yX7_place wsX7_place) := goodIn_app (goodIn_of _ (by decide +kernel)) ggX7_jump_X7_place
set_option maxRecDepth 20000 in
theorem ggX7_jump_X7_plus : GoodIn wsX7_jump wsX7_plus := goodIn_r _ [42, 2, 3, 13, 43, 44, 9, 45, 46, 47, 48, 49, 50, 51, 52, 53, 54, 55, 14, 15, 16, 17, 4, 5, 56, 57, 58, 59, 12, 60, 6, 7, 8, 10, 11, 76, 77, 78, 79, 80, 81, 82, 83, 84, 85, 86, 87, 88, 89, 90] (by decide +kernel) (by decide +kernel)
set_option maxRecDepth 20000 in
theorem gX7_jump_X7_plus : GoodIn wsX7_jump (wsV RX7 155 RX7 yX7_plus wsX7_plus) := goodIn_app (goodIn_of _ (by decide +kernel)) ggX7_jump_X7_plus
set_option maxRecDepth 20000 in
theorem ggX7_jump_X7_needed : GoodIn wsX7_jump wsX7_needed := goodIn_r _ [64, 1, 13, 65, 66, 67, 9, 68, 3, 2, 69, 70, 4, 71, 5, 72, 73, 74, 75, 35, 36, 37, 38, 76, 77, 78, 79, 80, 81, 82, 83, 84, 85, 86, 87, 88, 89, 90] (by decide +kernel) (by decide +kernel)
set_option maxRecDepth 20000 in
theorem gX7_jump_X7_needed : GoodIn wsX7_jump (wsV RX7 138 RX7 yX7_needed wsX7_needed) := goodIn_app (goodIn_of _ (by decide +kernel)) ggX7_jump_X7_needed
set_option maxRecDepth 20000 in
theorem ggX7_jump_X7_sure : GoodIn wsX7_jump wsX7_sure := goodIn_r _ [34, 1, 13, 35, 36, 37, 9, 38, 18, 19, 20, 21, 2, 4, 3, 5, 76, 77, 78, 79, 80, 81, 82, 83, 84, 85, 86, 87, 88, 89, 90] (by decide +kernel) (by decide +kernel)
set_option maxRecDepth 20000 in
theorem gX7_jump_X7_sure : GoodIn wsX7_jump (wsV RX7 131 RX7 yX7_sure wsX7_sure) := goodIn_app (goodIn_of _ (by decide +kernel)) ggX7_jump_X7_sure
theorem dX7_jump_0 : decode cX7_jump 0 = .ok (.aload_n 0, 1) := by decide +kernel
theorem dX7_jump_1 : decode cX7_jump 1 = .ok (.getfield 114, 3) := by decide +kernel
theorem dX7_jump_4 : decode cX7_jump 4 = .ok (.ifCond .le 4, 3) := by decide +kernel
theorem dX7_jump_7 : decode cX7_jump 7 = .ok (.return_, 1) := by decide +kernel
theorem dX7_jump_8 : decode cX7_jump 8 = .ok (.aload_n 0, 1) := by decide +kernel
theorem dX7_jump_9 : decode cX7_jump 9 = .ok (.iconst 0, 1) := by decide +kernel
theorem dX7_jump_10 : decode cX7_jump 10 = .ok (.iload_n 1, 1) := by decide +kernel
theorem dX7_jump_11 : decode cX7_jump 11 = .ok (.i2l, 1) := by decide +kernel
theorem dX7_jump_12 : decode cX7_jump 12 = .ok (.invokevirtual 71, 3) := by decide +kernel
theorem dX7_jump_15 : decode cX7_jump 15 = .ok (.aload_n 0, 1) := by decide +kernel
theorem dX7_jump_16 : decode cX7_jump 16 = .ok (.bipush 7, 2) := by decide +kernel
theorem dX7_jump_18 : decode cX7_jump 18 = .ok (.invokevirtual 128, 3) := by decide +kernel
theorem dX7_jump_21 : decode cX7_jump 21 = .ok (.aload_n 0, 1) := by decide +kernel
theorem dX7_jump_22 : decode cX7_jump 22 = .ok (.bipush 37, 2) := by decide +kernel
theorem dX7_jump_24 : decode cX7_jump 24 = .ok (.invokevirtual 134, 3) := by decide +kernel
theorem dX7_jump_27 : decode cX7_jump 27 = .ok (.ifCond .eq 27, 3) := by decide +kernel
theorem dX7_jump_30 : decode cX7_jump 30 = .ok (.aload_n 0, 1) := by decide +kernel
theorem dX7_jump_31 : decode cX7_jump 31 = .ok (.aload_n 0, 1) := by decide +kernel
theorem dX7_jump_32 : decode cX7_jump 32 = .ok (.getfield 21, 3) := by decide +kernel
theorem dX7_jump_35 : decode cX7_jump 35 = .ok (.bipush 6, 2) := by decide +kernel
theorem dX7_jump_37 : decode cX7_jump 37 = .ok (.iaload, 1) := by decide +kernel
theorem dX7_jump_38 : decode cX7_jump 38 = .ok (.aload_n 0, 1) := by decide +kernel
theorem dX7_jump_39 : decode cX7_jump 39 = .ok (.getfield 24, 3) := by decide +kernel
theorem dX7_jump_42 : decode cX7_jump 42 = .ok (.bipush 6, 2) := by decide +kernel
theorem dX7_jump_44 : decode cX7_jump 44 = .ok (.laload, 1) := by decide +kernel
theorem dX7_jump_45 : decode cX7_jump 45 = .ok (.invokevirtual 61, 3) := by decide +kernel
theorem dX7_jump_48 : decode cX7_jump 48 = .ok (.aload_n 0, 1) := by decide +kernel
theorem dX7_jump_49 : decode cX7_jump 49 = .ok (.bipush 7, 2) := by decide +kernel
theorem dX7_jump_51 : decode cX7_jump 51 = .ok (.invokevirtual 141, 3) := by decide +kernel
theorem dX7_jump_54 : decode cX7_jump 54 = .ok (.aload_n 0, 1) := by decide +kernel
theorem dX7_jump_55 : decode cX7_jump 55 = .ok (.bipush 38, 2) := by decide +kernel
theorem dX7_jump_57 : decode cX7_jump 57 = .ok (.invokevirtual 134, 3) := by decide +kernel
theorem dX7_jump_60 : decode cX7_jump 60 = .ok (.ifCond .eq 16, 3) := by decide +kernel
theorem dX7_jump_63 : decode cX7_jump 63 = .ok (.aload_n 0, 1) := by decide +kernel
theorem dX7_jump_64 : decode cX7_jump 64 = .ok (.iconst 0, 1) := by decide +kernel
theorem dX7_jump_65 : decode cX7_jump 65 = .ok (.bipush 6, 2) := by decide +kernel
theorem dX7_jump_67 : decode cX7_jump 67 = .ok (.invokevirtual 155, 3) := by decide +kernel
theorem dX7_jump_70 : decode cX7_jump 70 = .ok (.aload_n 0, 1) := by decide +kernel
theorem dX7_jump_71 : decode cX7_jump 71 = .ok (.bipush 7, 2) := by decide +kernel
theorem dX7_jump_73 : decode cX7_jump 73 = .ok (.invokevirtual 141, 3) := by decide +kernel
theorem dX7_jump_76 : decode cX7_jump 76 = .ok (.aload_n 0, 1) := by decide +kernel
theorem dX7_jump_77 : decode cX7_jump 77 = .ok (.bipush 39, 2) := by decide +kernel
theorem dX7_jump_79 : decode cX7_jump 79 = .ok (.invokevirtual 134, 3) := by decide +kernel
theorem dX7_jump_82 : decode cX7_jump 82 = .ok (.ifCond .ne 4, 3) := by decide +kernel
theorem dX7_jump_85 : decode cX7_jump 85 = .ok (.return_, 1) := by decide +kernel
theorem dX7_jump_86 : decode cX7_jump 86 = .ok (.aload_n 0, 1) := by decide +kernel
theorem dX7_jump_87 : decode cX7_jump 87 = .ok (.iconst 3, 1) := by decide +kernel
theorem dX7_jump_88 : decode cX7_jump 88 = .ok (.invokevirtual 138, 3) := by decide +kernel
theorem dX7_jump_91 : decode cX7_jump 91 = .ok (.aload_n 0, 1) := by decide +kernel
theorem dX7_jump_92 : decode cX7_jump 92 = .ok (.getfield 114, 3) := by decide +kernel
theorem dX7_jump_95 : decode cX7_jump 95 = .ok (.ifCond .gt 19, 3) := by decide +kernel
theorem dX7_jump_98 : decode cX7_jump 98 = .ok (.aload_n 0, 1) := by decide +kernel
theorem dX7_jump_99 : decode cX7_jump 99 = .ok (.getfield 50, 3) := by decide +kernel
theorem dX7_jump_102 : decode cX7_jump 102 = .ok (.ifCond .ne 13, 3) := by decide +kernel
theorem dX7_jump_105 : decode cX7_jump 105 = .ok (.aload_n 0, 1) := by decide +kernel
theorem dX7_jump_106 : decode cX7_jump 106 = .ok (.getfield 53, 3) := by decide +kernel
theorem dX7_jump_109 : decode cX7_jump 109 = .ok (.lconst 0, 1) := by decide +kernel
theorem dX7_jump_110 : decode cX7_jump 110 = .ok (.lcmp, 1) := by decide +kernel
theorem dX7_jump_111 : decode cX7_jump 111 = .ok (.ifCond .ne 4, 3) := by decide +kernel
theorem dX7_jump_114 : decode cX7_jump 114 = .ok (.return_, 1) := by decide +kernel
theorem dX7_jump_115 : decode cX7_jump 115 = .ok (.aload_n 0, 1) := by decide +kernel
theorem dX7_jump_116 : decode cX7_jump 116 = .ok (.iconst 5, 1) := by decide +kernel
theorem dX7_jump_117 : decode cX7_jump 117 = .ok (.invokevirtual 138, 3) := by decide +kernel
theorem dX7_jump_120 : decode cX7_jump 120 = .ok (.aload_n 0, 1) := by decide +kernel
theorem dX7_jump_121 : decode cX7_jump 121 = .ok (.bipush 10, 2) := by decide +kernel
theorem dX7_jump_123 : decode cX7_jump 123 = .ok (.invokevirtual 131, 3) := by decide +kernel
theorem dX7_jump_126 : decode cX7_jump 126 = .ok (.aload_n 0, 1) := by decide +kernel
theorem dX7_jump_127 : decode cX7_jump 127 = .ok (.getfield 114, 3) := by decide +kernel
theorem dX7_jump_130 : decode cX7_jump 130 = .ok (.ifCond .le 4, 3) := by decide +kernel
theorem dX7_jump_133 : decode cX7_jump 133 = .ok (.return_, 1) := by decide +kernel
theorem dX7_jump_134 : decode cX7_jump 134 = .ok (.aload_n 0, 1) := by decide +kernel
theorem dX7_jump_135 : decode cX7_jump 135 = .ok (.iconst 0, 1) := by decide +kernel
theorem dX7_jump_136 : decode cX7_jump 136 = .ok (.bipush 10, 2) := by decide +kernel
theorem dX7_jump_138 : decode cX7_jump 138 = .ok (.invokevirtual 155, 3) := by decide +kernel
theorem dX7_jump_141 : decode cX7_jump 141 = .ok (.aload_n 0, 1) := by decide +kernel
theorem dX7_jump_142 : decode cX7_jump 142 = .ok (.bipush 7, 2) := by decide +kernel
theorem dX7_jump_144 : decode cX7_jump 144 = .ok (.invokevirtual 141, 3) := by decide +kernel
theorem dX7_jump_147 : decode cX7_jump 147 = .ok (.return_, 1) := by decide +kernel
set_option maxRecDepth 20000 in
theorem ggX7_move_X7_give : GoodIn wsX7_move wsX7_give := goodIn_r _ [9, 10, 11, 12, 77, 78, 79, 80, 81, 82, 83, 84, 85, 86, 87, 88, 89, 90, 91] (by decide +kernel) (by decide +kernel)
set_option maxRecDepth 20000 in
theorem gX7_move_X7_give : GoodIn wsX7_move (wsV RX7 61 RX7 yX7_give wsX7_give) := goodIn_app (goodIn_of _ (by decide +kernel)) ggX7_move_X7_give
set_option maxRecDepth 20000 in
theorem ggX7_move_X7_flag : GoodIn wsX7_move wsX7_flag := goodIn_r _ [16, 17, 77, 78, 79, 80, 81, 82, 83, 84, 85, 86, 87, 88, 89, 90, 91] (by decide +kernel) (by decide +kernel)
set_option maxRecDepth 20000 in
theorem gX7_move_X7_flag : GoodIn wsX7_move (wsV RX7 134 RX7 yX7_flag wsX7_flag) := goodIn_app (goodIn_of _ (by decide +kernel)) ggX7_move_X7_flag
set_option maxRecDepth 20000 in
theorem ggX7_move_X7_plus : GoodIn wsX7_move wsX7_plus := goodIn_r _ [21, 2, 3, 10, 22, 23, 8, 24, 25, 26, 27, 28, 29, 30, 31, 32, 33, 34, 5, 6, 7, 9, 11, 12, 35, 36, 37, 38, 39, 40, 41, 42, 43, 44, 45, 77, 78, 79, 80, 81, 82, 83, 84, 85, 86, 87, 88, 89, 90, 91] (by decide +kernel) (by decide +kernel)
set_option maxRecDepth 20000 in
theorem gX7_move_X7_plus : GoodIn wsX7_move (wsV RX7 155 RX7 yX7_plus wsX7_plus) := goodIn_app (goodIn_of _ (by decide +kernel)) ggX7_move_X7_plus
set_option maxRecDepth 20000 in
theorem ggX7_move_X7_further : GoodIn wsX7_move wsX7_further := goodIn_r _ [44, 2, 3, 12, 45, 39, 10, 5, 6, 7, 8, 9, 11, 77, 78, 79, 80, 81, 82, 83, 84, 85, 86, 87, 88, 89, 90, 91] (by decide +kernel) (by decide +kernel)
set_option maxRecDepth 20000 in
theorem gX7_move_X7_further : GoodIn wsX7_move (wsV RX7 71 RX7 yX7_further wsX7_further) := goodIn_app (goodIn_of _ (by decide +kernel)) ggX7_move_X7_further
set_option maxRecDepth 20000 in
theorem ggX7_move_X7_place : GoodIn wsX7_move wsX7_place := goodIn_r _ [49, 2, 50, 51, 52, 8, 53, 1, 10, 54, 55, 56, 57, 58, 59, 60, 61, 11, 3, 12, 77, 78, 79, 80, 81, 82, 83, 84, 85, 86, 87, 88, 89, 90, 91] (by decide +kernel) (by decide +kernel)
set_option maxRecDepth 20000 in
theorem gX7_move_X7_place : GoodIn wsX7_move (wsV RX7 141 RX7 yX7_place wsX7_place) := goodIn_app (goodIn_of _ (by decide +kernel)) ggX7_move_X7_place
set_option maxRecDepth 20000 in
theorem ggX7_move_X7_needed : GoodIn wsX7_move wsX7_needed := goodIn_r _ [65, 1, 10, 66, 67, 68, 8, 69, 3, 2, 70, 71, 11, 72, 12, 73, 74, 75, 76, 54, 55, 56, 57, 77, 78, 79, 80, 81, 82, 83, 84, 85, 86, 87, 88, 89, 90, 91] (by decide +kernel) (by decide +kernel)
set_option maxRecDepth 20000 in
theorem gX7_move_X7_needed : GoodIn wsX7_move (wsV RX7 138 RX7 yX7_needed wsX7_needed) := goodIn_app (goodIn_of _ (by decide +kernel)) ggX7_move_X7_needed
theorem dX7_move_0 : decode cX7_move 0 = .ok (.aload_n 0, 1) := by decide +kernel
theorem dX7_move_1 : decode cX7_move 1 = .ok (.getfield 114, 3) := by decide +kernel
theorem dX7_move_4 : decode cX7_move 4 = .ok (.ifCond .le 4, 3) := by decide +kernel
theorem dX7_move_7 : decode cX7_move 7 = .ok (.return_, 1) := by decide +kernel
theorem dX7_move_8 : decode cX7_move 8 = .ok (.aload_n 0, 1) := by decide +kernel
theorem dX7_move_9 : decode cX7_move 9 = .ok (.aload_n 0, 1) := by decide +kernel
theorem dX7_move_10 : decode cX7_move 10 = .ok (.getfield 21, 3) := by decide +kernel
theorem dX7_move_13 : decode cX7_move 13 = .ok (.iconst 1, 1) := by decide +kernel
theorem dX7_move_14 : decode cX7_move 14 = .ok (.iaload, 1) := by decide +kernel
theorem dX7_move_15 : decode cX7_move 15 = .ok (.aload_n 0, 1) := by decide +kernel
theorem dX7_move_16 : decode cX7_move 16 = .ok (.getfield 24, 3) := by decide +kernel
theorem dX7_move_19 : decode cX7_move 19 = .ok (.iconst 1, 1) := by decide +kernel
theorem dX7_move_20 : decode cX7_move 20 = .ok (.laload, 1) := by decide +kernel
theorem dX7_move_21 : decode cX7_move 21 = .ok (.invokevirtual 61, 3) := by decide +kernel
theorem dX7_move_24 : decode cX7_move 24 = .ok (.aload_n 0, 1) := by decide +kernel
theorem dX7_move_25 : decode cX7_move 25 = .ok (.bipush 40, 2) := by decide +kernel
theorem dX7_move_27 : decode cX7_move 27 = .ok (.invokevirtual 134, 3) := by decide +kernel
theorem dX7_move_30 : decode cX7_move 30 = .ok (.ifCond .eq 10, 3) := by decide +kernel
theorem dX7_move_33 : decode cX7_move 33 = .ok (.aload_n 0, 1) := by decide +kernel
theorem dX7_move_34 : decode cX7_move 34 = .ok (.iconst 1, 1) := by decide +kernel
theorem dX7_move_35 : decode cX7_move 35 = .ok (.bipush 6, 2) := by decide +kernel
theorem dX7_move_37 : decode cX7_move 37 = .ok (.invokevirtual 155, 3) := by decide +kernel
theorem dX7_move_40 : decode cX7_move 40 = .ok (.aload_n 0, 1) := by decide +kernel
theorem dX7_move_41 : decode cX7_move 41 = .ok (.bipush 41, 2) := by decide +kernel
theorem dX7_move_43 : decode cX7_move 43 = .ok (.invokevirtual 134, 3) := by decide +kernel
theorem dX7_move_46 : decode cX7_move 46 = .ok (.ifCond .eq 9, 3) := by decide +kernel
theorem dX7_move_49 : decode cX7_move 49 = .ok (.aload_n 0, 1) := by decide +kernel
theorem dX7_move_50 : decode cX7_move 50 = .ok (.iconst 1, 1) := by decide +kernel
theorem dX7_move_51 : decode cX7_move 51 = .ok (.lconst 1, 1) := by decide +kernel
theorem dX7_move_52 : decode cX7_move 52 = .ok (.invokevirtual 71, 3) := by decide +kernel
theorem dX7_move_55 : decode cX7_move 55 = .ok (.aload_n 0, 1) := by decide +kernel
theorem dX7_move_56 : decode cX7_move 56 = .ok (.bipush 42, 2) := by decide +kernel
theorem dX7_move_58 : decode cX7_move 58 = .ok (.invokevirtual 134, 3) := by decide +kernel
theorem dX7_move_61 : decode cX7_move 61 = .ok (.ifCond .eq 11, 3) := by decide +kernel
theorem dX7_move_64 : decode cX7_move 64 = .ok (.aload_n 0, 1) := by decide +kernel
theorem dX7_move_65 : decode cX7_move 65 = .ok (.iconst 1, 1) := by decide +kernel
theorem dX7_move_66 : decode cX7_move 66 = .ok (.ldc2_w 158, 3) := by decide +kernel
theorem dX7_move_69 : decode cX7_move 69 = .ok (.invokevirtual 71, 3) := by decide +kernel
theorem dX7_move_72 : decode cX7_move 72 = .ok (.aload_n 0, 1) := by decide +kernel
theorem dX7_move_73 : decode cX7_move 73 = .ok (.bipush 8, 2) := by decide +kernel
theorem dX7_move_75 : decode cX7_move 75 = .ok (.invokevirtual 141, 3) := by decide +kernel
theorem dX7_move_78 : decode cX7_move 78 = .ok (.aload_n 0, 1) := by decide +kernel
theorem dX7_move_79 : decode cX7_move 79 = .ok (.getfield 114, 3) := by decide +kernel
theorem dX7_move_82 : decode cX7_move 82 = .ok (.ifCond .le 4, 3) := by decide +kernel
theorem dX7_move_85 : decode cX7_move 85 = .ok (.return_, 1) := by decide +kernel
theorem dX7_move_86 : decode cX7_move 86 = .ok (.aload_n 0, 1) := by decide +kernel
theorem dX7_move_87 : decode cX7_move 87 = .ok (.aload_n 0, 1) := by decide +kernel
theorem dX7_move_88 : decode cX7_move 88 = .ok (.getfield 21, 3) := by decide +kernel
theorem dX7_move_91 : decode cX7_move 91 = .ok (.iconst 2, 1) := by decide +kernel
theorem dX7_move_92 : decode cX7_move 92 = .ok (.iaload, 1) := by decide +kernel
theorem dX7_move_93 : decode cX7_move 93 = .ok (.aload_n 0, 1) := by decide +kernel
theorem dX7_move_94 : decode cX7_move 94 = .ok (.getfield 24, 3) := by decide +kernel
theorem dX7_move_97 : decode cX7_move 97 = .ok (.iconst 2, 1) := by decide +kernel
theorem dX7_move_98 : decode cX7_move 98 = .ok (.laload, 1) := by decide +kernel
theorem dX7_move_99 : decode cX7_move 99 = .ok (.invokevirtual 61, 3) := by decide +kernel
theorem dX7_move_102 : decode cX7_move 102 = .ok (.aload_n 0, 1) := by decide +kernel
theorem dX7_move_103 : decode cX7_move 103 = .ok (.bipush 42, 2) := by decide +kernel
theorem dX7_move_105 : decode cX7_move 105 = .ok (.invokevirtual 134, 3) := by decide +kernel
theorem dX7_move_108 : decode cX7_move 108 = .ok (.ifCond .eq 21, 3) := by decide +kernel
theorem dX7_move_111 : decode cX7_move 111 = .ok (.aload_n 0, 1) := by decide +kernel
theorem dX7_move_112 : decode cX7_move 112 = .ok (.aload_n 0, 1) := by decide +kernel
theorem dX7_move_113 : decode cX7_move 113 = .ok (.getfield 21, 3) := by decide +kernel
theorem dX7_move_116 : decode cX7_move 116 = .ok (.bipush 8, 2) := by decide +kernel
theorem dX7_move_118 : decode cX7_move 118 = .ok (.iaload, 1) := by decide +kernel
theorem dX7_move_119 : decode cX7_move 119 = .ok (.aload_n 0, 1) := by decide +kernel
theorem dX7_move_120 : decode cX7_move 120 = .ok (.getfield 24, 3) := by decide +kernel
theorem dX7_move_123 : decode cX7_move 123 = .ok (.bipush 8, 2) := by decide +kernel
theorem dX7_move_125 : decode cX7_move 125 = .ok (.laload, 1) := by decide +kernel
theorem dX7_move_126 : decode cX7_move 126 = .ok (.invokevirtual 61, 3) := by decide +kernel
theorem dX7_move_129 : decode cX7_move 129 = .ok (.aload_n 0, 1) := by decide +kernel
theorem dX7_move_130 : decode cX7_move 130 = .ok (.bipush 43, 2) := by decide +kernel
theorem dX7_move_132 : decode cX7_move 132 = .ok (.invokevirtual 134, 3) := by decide +kernel
theorem dX7_move_135 : decode cX7_move 135 = .ok (.ifCond .eq 8, 3) := by decide +kernel
theorem dX7_move_138 : decode cX7_move 138 = .ok (.aload_n 0, 1) := by decide +kernel
theorem dX7_move_139 : decode cX7_move 139 = .ok (.iconst 3, 1) := by decide +kernel
theorem dX7_move_140 : decode cX7_move 140 = .ok (.invokevirtual 138, 3) := by decide +kernel
theorem dX7_move_143 : decode cX7_move 143 = .ok (.aload_n 0, 1) := by decide +kernel
theorem dX7_move_144 : decode cX7_move 144 = .ok (.bipush 9, 2) := by decide +kernel
theorem dX7_move_146 : decode cX7_move 146 = .ok (.invokevirtual 141, 3) := by decide +kernel
theorem dX7_move_149 : decode cX7_move 149 = .ok (.return_, 1) := by decide +kernel
set_option maxRecDepth 20000 in
theorem ggX7_places_X7_needed : GoodIn wsX7_places wsX7_needed := goodIn_r _ [10, 1, 11, 12, 13, 14, 9, 15, 16, 17, 18, 19, 4, 20, 2, 21, 22, 23, 24, 25, 26, 27, 28, 81, 82, 83, 84, 85, 86, 87, 88, 89, 90, 91, 92, 93, 94, 95] (by decide +kernel) (by decide +kernel)
set_option maxRecDepth 20000 in
theorem gX7_places_X7_needed : GoodIn wsX7_places (wsV RX7 138 RX7 yX7_needed wsX7_needed) := goodIn_app (goodIn_of _ (by decide +kernel)) ggX7_places_X7_needed
set_option maxRecDepth 20000 in
theorem ggX7_places_X7_isBad : GoodIn wsX7_places wsX7_isBad := goodIn_r _ [31, 32, 33, 9, 34, 35, 36, 37, 38] (by decide +kernel) (by decide +kernel)
set_option maxRecDepth 20000 in
theorem gX7_places_X7_isBad : GoodIn wsX7_places (va_wsS RX7 160 yX7_isBad wsX7_isBad) := goodIn_app (goodIn_of _ (by decide +kernel)) ggX7_places_X7_isBad
set_option maxRecDepth 20000 in
theorem ggX7_places_X7_trouble : GoodIn wsX7_places wsX7_trouble := goodIn_r _ [28, 1, 81, 82, 83, 84, 85, 86, 87, 88, 89, 90, 91, 92, 93, 94, 95] (by decide +kernel) (by decide +kernel)
set_option maxRecDepth 20000 in
theorem gX7_places_X7_trouble : GoodIn wsX7_places (wsV RX7 121 RX7 yX7_trouble wsX7_trouble) := goodIn_app (goodIn_of _ (by decide +kernel)) ggX7_places_X7_trouble
set_option maxRecDepth 20000 in
theorem ggX7_places_X7_flag : GoodIn wsX7_places wsX7_flag := goodIn_r _ [42, 3, 81, 82, 83, 84, 85, 86, 87, 88, 89, 90, 91, 92, 93, 94, 95] (by decide +kernel) (by decide +kernel)
set_option maxRecDepth 20000 in
theorem gX7_places_X7_flag : GoodIn wsX7_places (wsV RX7 134 RX7 yX7_flag wsX7_flag) := goodIn_app (goodIn_of _ (by decide +kernel)) ggX7_places_X7_flag
set_option maxRecDepth 20000 in
theorem ggX7_places_X7_offset : GoodIn wsX7_places wsX7_offset := goodIn_r _ [37, 38] (by decide +kernel) (by decide +kernel)
set_option maxRecDepth 20000 in
theorem gX7_places_X7_offset : GoodIn wsX7_places (va_wsS RX7 110 yX7_offset wsX7_offset) := goodIn_app (goodIn_of _ (by decide +kernel)) ggX7_places_X7_offset
set_option maxRecDepth 20000 in
theorem ggX7_places_X7_further : GoodIn wsX7_places wsX7_further := goodIn_r _ [46, 17, 16, 2, 47, 48, 11, 49, 50, 51, 9, 52, 4, 81, 82, 83, 84, 85, 86, 87, 88, 89, 90, 91, 92, 93, 94, 95] (by decide +kernel) (by decide +kernel)
set_option maxRecDepth 20000 in
theorem gX7_places_X7_further : GoodIn wsX7_places (wsV RX7 71 RX7 yX7_further wsX7_further) := goodIn_app (goodIn_of _ (by decide +kernel)) ggX7_places_X7_further
set_option maxRecDepth 20000 in
theorem ggX7_places_X7_sure : GoodIn wsX7_places wsX7_sure := goodIn_r _ [56, 1, 11, 25, 26, 27, 9, 28, 57, 58, 59, 60, 17, 4, 16, 2, 81, 82, 83, 84, 85, 86, 87, 88, 89, 90, 91, 92, 93, 94, 95] (by decide +kernel) (by decide +kernel)
set_option maxRecDepth 20000 in
theorem gX7_places_X7_sure : GoodIn wsX7_places (wsV RX7 131 RX7 yX7_sure wsX7_sure) := goodIn_app (goodIn_of _ (by decide +kernel)) ggX7_places_X7_sure
set_option maxRecDepth 20000 in
theorem ggX7_places_X7_store : GoodIn wsX7_places wsX7_store := goodIn_r _ [64, 1, 17, 16, 65, 66, 67, 9, 68, 18, 19, 20, 21, 22, 23, 24, 69, 70, 71, 72, 73, 74, 75, 76, 77, 78, 79, 80, 25, 26, 27, 28, 81, 82, 83, 84, 85, 86, 87, 88, 89, 90, 91, 92, 93, 94, 95] (by decide +kernel) (by decide +kernel)
set_option maxRecDepth 20000 in
theorem gX7_places_X7_store : GoodIn wsX7_places (wsV RX7 152 RX7 yX7_store wsX7_store) := goodIn_app (goodIn_of _ (by decide +kernel)) ggX7_places_X7_store
theorem dX7_places_0 : decode cX7_places 0 = .ok (.aload_n 0, 1) := by decide +kernel
theorem dX7_places_1 : decode cX7_places 1 = .ok (.iconst 0, 1) := by decide +kernel
theorem dX7_places_2 : decode cX7_places 2 = .ok (.invokevirtual 138, 3) := by decide +kernel
theorem dX7_places_5 : decode cX7_places 5 = .ok (.aload_n 0, 1) := by decide +kernel
theorem dX7_places_6 : decode cX7_places 6 = .ok (.getfield 114, 3) := by decide +kernel
theorem dX7_places_9 : decode cX7_places 9 = .ok (.ifCond .le 4, 3) := by decide +kernel
theorem dX7_places_12 : decode cX7_places 12 = .ok (.return_, 1) := by decide +kernel
theorem dX7_places_13 : decode cX7_places 13 = .ok (.aload_n 0, 1) := by decide +kernel
theorem dX7_places_14 : decode cX7_places 14 = .ok (.aload_n 0, 1) := by decide +kernel
theorem dX7_places_15 : decode cX7_places 15 = .ok (.getfield 53, 3) := by decide +kernel
theorem dX7_places_18 : decode cX7_places 18 = .ok (.putfield 103, 3) := by decide +kernel
theorem dX7_places_21 : decode cX7_places 21 = .ok (.aload_n 0, 1) := by decide +kernel
theorem dX7_places_22 : decode cX7_places 22 = .ok (.aload_n 0, 1) := by decide +kernel
theorem dX7_places_23 : decode cX7_places 23 = .ok (.getfield 50, 3) := by decide +kernel
theorem dX7_places_26 : decode cX7_places 26 = .ok (.ifCond .ne 13, 3) := by decide +kernel
theorem dX7_places_29 : decode cX7_places 29 = .ok (.aload_n 0, 1) := by decide +kernel
theorem dX7_places_30 : decode cX7_places 30 = .ok (.getfield 53, 3) := by decide +kernel
theorem dX7_places_33 : decode cX7_places 33 = .ok (.invokestatic 160, 3) := by decide +kernel
theorem dX7_places_36 : decode cX7_places 36 = .ok (.ifCond .eq 7, 3) := by decide +kernel
theorem dX7_places_39 : decode cX7_places 39 = .ok (.iconst 1, 1) := by decide +kernel
theorem dX7_places_40 : decode cX7_places 40 = .ok (.goto 4, 3) := by decide +kernel
theorem dX7_places_43 : decode cX7_places 43 = .ok (.iconst 0, 1) := by decide +kernel
theorem dX7_places_44 : decode cX7_places 44 = .ok (.iconst 3, 1) := by decide +kernel
theorem dX7_places_45 : decode cX7_places 45 = .ok (.invokevirtual 121, 3) := by decide +kernel
theorem dX7_places_48 : decode cX7_places 48 = .ok (.aload_n 0, 1) := by decide +kernel
theorem dX7_places_49 : decode cX7_places 49 = .ok (.getfield 114, 3) := by decide +kernel
theorem dX7_places_52 : decode cX7_places 52 = .ok (.ifCond .le 4, 3) := by decide +kernel
theorem dX7_places_55 : decode cX7_places 55 = .ok (.return_, 1) := by decide +kernel
theorem dX7_places_56 : decode cX7_places 56 = .ok (.aload_n 0, 1) := by decide +kernel
theorem dX7_places_57 : decode cX7_places 57 = .ok (.aload_n 0, 1) := by decide +kernel
theorem dX7_places_58 : decode cX7_places 58 = .ok (.bipush 30, 2) := by decide +kernel
theorem dX7_places_60 : decode cX7_places 60 = .ok (.invokevirtual 134, 3) := by decide +kernel
theorem dX7_places_63 : decode cX7_places 63 = .ok (.ifCond .eq 7, 3) := by decide +kernel
theorem dX7_places_66 : decode cX7_places 66 = .ok (.iconst 2, 1) := by decide +kernel
theorem dX7_places_67 : decode cX7_places 67 = .ok (.goto 4, 3) := by decide +kernel
theorem dX7_places_70 : decode cX7_places 70 = .ok (.iconst 1, 1) := by decide +kernel
theorem dX7_places_71 : decode cX7_places 71 = .ok (.aload_n 0, 1) := by decide +kernel
theorem dX7_places_72 : decode cX7_places 72 = .ok (.getfield 103, 3) := by decide +kernel
theorem dX7_places_75 : decode cX7_places 75 = .ok (.iconst 0, 1) := by decide +kernel
theorem dX7_places_76 : decode cX7_places 76 = .ok (.invokestatic 110, 3) := by decide +kernel
theorem dX7_places_79 : decode cX7_places 79 = .ok (.i2l, 1) := by decide +kernel
theorem dX7_places_80 : decode cX7_places 80 = .ok (.invokevirtual 71, 3) := by decide +kernel
theorem dX7_places_83 : decode cX7_places 83 = .ok (.aload_n 0, 1) := by decide +kernel
theorem dX7_places_84 : decode cX7_places 84 = .ok (.iconst 3, 1) := by decide +kernel
theorem dX7_places_85 : decode cX7_places 85 = .ok (.invokevirtual 131, 3) := by decide +kernel
theorem dX7_places_88 : decode cX7_places 88 = .ok (.aload_n 0, 1) := by decide +kernel
theorem dX7_places_89 : decode cX7_places 89 = .ok (.aload_n 0, 1) := by decide +kernel
theorem dX7_places_90 : decode cX7_places 90 = .ok (.bipush 31, 2) := by decide +kernel
theorem dX7_places_92 : decode cX7_places 92 = .ok (.invokevirtual 134, 3) := by decide +kernel
theorem dX7_places_95 : decode cX7_places 95 = .ok (.ifCond .eq 7, 3) := by decide +kernel
theorem dX7_places_98 : decode cX7_places 98 = .ok (.iconst 2, 1) := by decide +kernel
theorem dX7_places_99 : decode cX7_places 99 = .ok (.goto 4, 3) := by decide +kernel
theorem dX7_places_102 : decode cX7_places 102 = .ok (.iconst 1, 1) := by decide +kernel
theorem dX7_places_103 : decode cX7_places 103 = .ok (.aload_n 0, 1) := by decide +kernel
theorem dX7_places_104 : decode cX7_places 104 = .ok (.getfield 103, 3) := by decide +kernel
theorem dX7_places_107 : decode cX7_places 107 = .ok (.iconst 1, 1) := by decide +kernel
theorem dX7_places_108 : decode cX7_places 108 = .ok (.invokestatic 110, 3) := by decide +kernel
theorem dX7_places_111 : decode cX7_places 111 = .ok (.i2l, 1) := by decide +kernel
theorem dX7_places_112 : decode cX7_places 112 = .ok (.invokevirtual 71, 3) := by decide +kernel
theorem dX7_places_115 : decode cX7_places 115 = .ok (.aload_n 0, 1) := by decide +kernel
theorem dX7_places_116 : decode cX7_places 116 = .ok (.iconst 4, 1) := by decide +kernel
theorem dX7_places_117 : decode cX7_places 117 = .ok (.invokevirtual 131, 3) := by decide +kernel
theorem dX7_places_120 : decode cX7_places 120 = .ok (.aload_n 0, 1) := by decide +kernel
theorem dX7_places_121 : decode cX7_places 121 = .ok (.iconst 0, 1) := by decide +kernel
theorem dX7_places_122 : decode cX7_places 122 = .ok (.aload_n 0, 1) := by decide +kernel
theorem dX7_places_123 : decode cX7_places 123 = .ok (.bipush 32, 2) := by decide +kernel
theorem dX7_places_125 : decode cX7_places 125 = .ok (.invokevirtual 134, 3) := by decide +kernel
theorem dX7_places_128 : decode cX7_places 128 = .ok (.ifCond .eq 9, 3) := by decide +kernel
theorem dX7_places_131 : decode cX7_places 131 = .ok (.ldc2_w 158, 3) := by decide +kernel
theorem dX7_places_134 : decode cX7_places 134 = .ok (.goto 4, 3) := by decide +kernel
theorem dX7_places_137 : decode cX7_places 137 = .ok (.lconst 1, 1) := by decide +kernel
theorem dX7_places_138 : decode cX7_places 138 = .ok (.invokevirtual 71, 3) := by decide +kernel
theorem dX7_places_141 : decode cX7_places 141 = .ok (.aload_n 0, 1) := by decide +kernel
theorem dX7_places_142 : decode cX7_places 142 = .ok (.bipush 7, 2) := by decide +kernel
theorem dX7_places_144 : decode cX7_places 144 = .ok (.invokevirtual 131, 3) := by decide +kernel
theorem dX7_places_147 : decode cX7_places 147 = .ok (.aload_n 0, 1) := by decide +kernel
theorem dX7_places_148 : decode cX7_places 148 = .ok (.bipush 42, 2) := by decide +kernel
theorem dX7_places_150 : decode cX7_places 150 = .ok (.invokevirtual 134, 3) := by decide +kernel
theorem dX7_places_153 : decode cX7_places 153 = .ok (.ifCond .ne 4, 3) := by decide +kernel
theorem dX7_places_156 : decode cX7_places 156 = .ok (.return_, 1) := by decide +kernel
theorem dX7_places_157 : decode cX7_places 157 = .ok (.aload_n 0, 1) := by decide +kernel
theorem dX7_places_158 : decode cX7_places 158 = .ok (.iconst 3, 1) := by decide +kernel
theorem dX7_places_159 : decode cX7_places 159 = .ok (.iconst 2, 1) := by decide +kernel
theorem dX7_places_160 : decode cX7_places 160 = .ok (.invokevirtual 152, 3) := by decide +kernel
theorem dX7_places_163 : decode cX7_places 163 = .ok (.aload_n 0, 1) := by decide +kernel
theorem dX7_places_164 : decode cX7_places 164 = .ok (.iconst 4, 1) := by decide +kernel
theorem dX7_places_165 : decode cX7_places 165 = .ok (.bipush 7, 2) := by decide +kernel
theorem dX7_places_167 : decode cX7_places 167 = .ok (.invokevirtual 152, 3) := by decide +kernel
theorem dX7_places_170 : decode cX7_places 170 = .ok (.return_, 1) := by decide +kernel
set_option maxRecDepth 20000 in
theorem ggX7_step_X7_places : GoodIn wsX7_step wsX7_places := goodIn_r _ [12, 1, 13, 14, 15, 16, 17, 18, 19, 11, 20, 21, 22, 23, 24, 25, 7, 5, 26, 27, 28, 29, 30, 31, 32, 33, 34, 35, 36, 37, 38, 39, 40, 41, 42, 43, 44, 45, 46, 47, 48, 49, 50, 51, 52, 53, 54, 55, 56, 57, 58, 59, 60, 61, 62, 63, 64, 65, 66, 67, 68, 69, 70, 71, 72, 73, 74, 75, 76, 77, 78, 79, 80, 81, 82, 83, 84, 85, 86, 87, 88, 143, 144, 145, 146, 147, 148, 149, 150, 151, 152, 153, 154, 155, 156, 157] (by decide +kernel) (by decide +kernel)
set_option maxRecDepth 20000 in
theorem gX7_step_X7_places : GoodIn wsX7_step (wsV RX7 163 RX7 yX7_places wsX7_places) := goodIn_app (goodIn_of _ (by decide +kernel)) ggX7_step_X7_places
set_option maxRecDepth 20000 in
theorem ggX7_step_X7_placeOfOp1 : GoodIn wsX7_step wsX7_placeOfOp1 := goodIn_r _ [92, 14, 1, 47, 48, 49, 11, 50, 43, 44, 45, 46, 51, 52, 53, 54, 5, 7, 13, 55, 56, 21, 57, 58, 59, 60, 15, 17, 18, 19, 20, 22, 23, 24, 25, 26, 27, 28, 29, 30, 31, 32, 33, 34, 35, 36, 93, 94, 95, 96, 61, 62, 63, 64, 65, 66, 67, 68, 143, 144, 145, 146, 147, 148, 149, 150, 151, 152, 153, 154, 155, 156, 157] (by decide +kernel) (by decide +kernel)
set_option maxRecDepth 20000 in
theorem gX7_step_X7_placeOfOp1 : GoodIn wsX7_step (wsV RX7 166 RX7 yX7_placeOfOp1 wsX7_placeOfOp1) := goodIn_app (goodIn_of _ (by decide +kernel)) ggX7_step_X7_placeOfOp1
set_option maxRecDepth 20000 in
theorem ggX7_step_X7_deduce : GoodIn wsX7_step wsX7_deduce := goodIn_r _ [100, 1, 21, 5, 7, 47, 48, 49, 11, 50, 14, 22, 23, 24, 25, 26, 27, 15, 28, 13, 29, 30, 31, 32, 65, 66, 67, 68, 101, 102, 103, 104, 105, 106, 107, 108, 109, 110, 111, 112, 113, 114, 115, 116, 117, 57, 58, 59, 60, 118, 119, 120, 121, 56, 122, 51, 52, 53, 54, 55, 123, 124, 125, 126, 61, 62, 63, 64, 33, 34, 35, 36, 69, 70, 71, 72, 73, 74, 75, 76, 77, 78, 79, 80, 81, 82, 83, 84, 85, 86, 87, 88, 143, 144, 145, 146, 147, 148, 149, 150, 151, 152, 153, 154, 155, 156, 157] (by decide +kernel) (by decide +kernel)
set_option maxRecDepth 20000 in
theorem gX7_step_X7_deduce : GoodIn wsX7_step (wsV RX7 169 RX7 yX7_deduce wsX7_deduce) := goodIn_app (goodIn_of _ (by decide +kernel)) ggX7_step_X7_deduce
set_option maxRecDepth 20000 in
theorem ggX7_step_X7_result : GoodIn wsX7_step wsX7_result := goodIn_r _ [130, 1, 47, 48, 49, 11, 50, 14, 17, 18, 19, 20, 21, 22, 23, 24, 25, 7, 5, 26, 27, 15, 28, 13, 29, 30, 31, 32, 33, 34, 35, 36, 61, 62, 63, 64, 65, 66, 67, 68, 131, 132, 133, 134, 105, 106, 107, 108, 109, 110, 111, 112, 113, 114, 115, 116, 117, 57, 58, 59, 60, 118, 119, 120, 121, 56, 122, 51, 52, 53, 54, 55, 123, 124, 125, 126, 143, 144, 145, 146, 147, 148, 149, 150, 151, 152, 153, 154, 155, 156, 157] (by decide +kernel) (by decide +kernel)
set_option maxRecDepth 20000 in
theorem gX7_step_X7_result : GoodIn wsX7_step (wsV RX7 172 RX7 yX7_result wsX7_result) := goodIn_app (goodIn_of _ (by decide +kernel)) ggX7_step_X7_result
set_option maxRecDepth 20000 in
theorem ggX7_step_X7_flag : GoodIn wsX7_step wsX7_flag := goodIn_r _ [50, 14, 143, 144, 145, 146, 147, 148, 149, 150, 151, 152, 153, 154, 155, 156, 157] (by decide +kernel) (by decide +kernel)
set_option maxRecDepth 20000 in
theorem gX7_step_X7_flag : GoodIn wsX7_step (wsV RX7 134 RX7 yX7_flag wsX7_flag) := goodIn_app (goodIn_of _ (by decide +kernel)) ggX7_step_X7_flag
set_option maxRecDepth 20000 in
theorem ggX7_step_X7_store : GoodIn wsX7_step wsX7_store := goodIn_r _ [72, 1, 5, 7, 73, 74, 75, 11, 76, 26, 27, 28, 29, 30, 31, 32, 77, 78, 79, 80, 81, 82, 83, 84, 85, 86, 87, 88, 33, 34, 35, 36, 143, 144, 145, 146, 147, 148, 149, 150, 151, 152, 153, 154, 155, 156, 157] (by decide +kernel) (by decide +kernel)
set_option maxRecDepth 20000 in
theorem gX7_step_X7_store : GoodIn wsX7_step (wsV RX7 152 RX7 yX7_store wsX7_store) := goodIn_app (goodIn_of _ (by decide +kernel)) ggX7_step_X7_store
set_option maxRecDepth 20000 in
theorem ggX7_step_X7_jump : GoodIn wsX7_step wsX7_jump := goodIn_r _ [138, 1, 5, 7, 15, 13, 51, 52, 53, 11, 54, 55, 56, 21, 57, 58, 59, 60, 65, 66, 67, 68, 47, 48, 49, 50, 14, 93, 94, 95, 96, 61, 62, 63, 64, 33, 34, 35, 36, 131, 132, 133, 134, 105, 106, 107, 108, 109, 110, 111, 112, 113, 114, 115, 116, 117, 118, 119, 120, 121, 122, 17, 18, 19, 20, 22, 23, 24, 25, 26, 27, 28, 29, 30, 31, 32, 143, 144, 145, 146, 147, 148, 149, 150, 151, 152, 153, 154, 155, 156, 157] (by decide +kernel) (by decide +kernel)
set_option maxRecDepth 20000 in
theorem gX7_step_X7_jump : GoodIn wsX7_step (wsV RX7 175 RX7 yX7_jump wsX7_jump) := goodIn_app (goodIn_of _ (by decide +kernel)) ggX7_step_X7_jump
set_option maxRecDepth 20000 in
theorem ggX7_step_X7_move : GoodIn wsX7_step wsX7_move := goodIn_r _ [142, 1, 5, 7, 16, 57, 58, 59, 11, 60, 21, 15, 13, 47, 48, 49, 50, 14, 131, 132, 133, 134, 105, 106, 107, 108, 109, 110, 111, 112, 113, 114, 115, 116, 117, 118, 119, 120, 121, 56, 122, 51, 52, 53, 54, 55, 93, 94, 95, 96, 61, 62, 63, 64, 33, 34, 35, 36, 65, 66, 67, 68, 17, 18, 19, 20, 22, 23, 24, 25, 26, 27, 28, 29, 30, 31, 32, 143, 144, 145, 146, 147, 148, 149, 150, 151, 152, 153, 154, 155, 156, 157] (by decide +kernel) (by decide +kernel)
set_option maxRecDepth 20000 in
theorem gX7_step_X7_move : GoodIn wsX7_step (wsV RX7 178 RX7 yX7_move wsX7_move) := goodIn_app (goodIn_of _ (by decide +kernel)) ggX7_step_X7_move
theorem dX7_step_0 : decode cX7_step 0 = .ok (.aload_n 0, 1) := by decide +kernel
theorem dX7_step_1 : decode cX7_step 1 = .ok (.iconst 0, 1) := by decide +kernel
theorem dX7_step_2 : decode cX7_step 2 = .ok (.putfield 114, 3) := by decide +kernel
theorem dX7_step_5 : decode cX7_step 5 = .ok (.aload_n 0, 1) := by decide +kernel
theorem dX7_step_6 : decode cX7_step 6 = .ok (.invokevirtual 163, 3) := by decide +kernel
theorem dX7_step_9 : decode cX7_step 9 = .ok (.aload_n 0, 1) := by decide +kernel
theorem dX7_step_10 : decode cX7_step 10 = .ok (.getfield 114, 3) := by decide +kernel
theorem dX7_step_13 : decode cX7_step 13 = .ok (.ifCond .ne 7, 3) := by decide +kernel
theorem dX7_step_16 : decode cX7_step 16 = .ok (.aload_n 0, 1) := by decide +kernel
theorem dX7_step_17 : decode cX7_step 17 = .ok (.invokevirtual 166, 3) := by decide +kernel
theorem dX7_step_20 : decode cX7_step 20 = .ok (.aload_n 0, 1) := by decide +kernel
theorem dX7_step_21 : decode cX7_step 21 = .ok (.invokevirtual 169, 3) := by decide +kernel
theorem dX7_step_24 : decode cX7_step 24 = .ok (.aload_n 0, 1) := by decide +kernel
theorem dX7_step_25 : decode cX7_step 25 = .ok (.invokevirtual 172, 3) := by decide +kernel
theorem dX7_step_28 : decode cX7_step 28 = .ok (.aload_n 0, 1) := by decide +kernel
theorem dX7_step_29 : decode cX7_step 29 = .ok (.getfield 114, 3) := by decide +kernel
theorem dX7_step_32 : decode cX7_step 32 = .ok (.ifCond .ne 19, 3) := by decide +kernel
theorem dX7_step_35 : decode cX7_step 35 = .ok (.aload_n 0, 1) := by decide +kernel
theorem dX7_step_36 : decode cX7_step 36 = .ok (.bipush 44, 2) := by decide +kernel
theorem dX7_step_38 : decode cX7_step 38 = .ok (.invokevirtual 134, 3) := by decide +kernel
theorem dX7_step_41 : decode cX7_step 41 = .ok (.ifCond .eq 10, 3) := by decide +kernel
theorem dX7_step_44 : decode cX7_step 44 = .ok (.aload_n 0, 1) := by decide +kernel
theorem dX7_step_45 : decode cX7_step 45 = .ok (.iconst 3, 1) := by decide +kernel
theorem dX7_step_46 : decode cX7_step 46 = .ok (.bipush 6, 2) := by decide +kernel
theorem dX7_step_48 : decode cX7_step 48 = .ok (.invokevirtual 152, 3) := by decide +kernel
theorem dX7_step_51 : decode cX7_step 51 = .ok (.aload_n 0, 1) := by decide +kernel
theorem dX7_step_52 : decode cX7_step 52 = .ok (.aload_n 0, 1) := by decide +kernel
theorem dX7_step_53 : decode cX7_step 53 = .ok (.bipush 32, 2) := by decide +kernel
theorem dX7_step_55 : decode cX7_step 55 = .ok (.invokevirtual 134, 3) := by decide +kernel
theorem dX7_step_58 : decode cX7_step 58 = .ok (.ifCond .eq 7, 3) := by decide +kernel
theorem dX7_step_61 : decode cX7_step 61 = .ok (.iconst 2, 1) := by decide +kernel
theorem dX7_step_62 : decode cX7_step 62 = .ok (.goto 4, 3) := by decide +kernel
theorem dX7_step_65 : decode cX7_step 65 = .ok (.iconst 1, 1) := by decide +kernel
theorem dX7_step_66 : decode cX7_step 66 = .ok (.invokevirtual 175, 3) := by decide +kernel
theorem dX7_step_69 : decode cX7_step 69 = .ok (.aload_n 0, 1) := by decide +kernel
theorem dX7_step_70 : decode cX7_step 70 = .ok (.invokevirtual 178, 3) := by decide +kernel
theorem dX7_step_73 : decode cX7_step 73 = .ok (.aload_n 0, 1) := by decide +kernel
theorem dX7_step_74 : decode cX7_step 74 = .ok (.aload_n 0, 1) := by decide +kernel
theorem dX7_step_75 : decode cX7_step 75 = .ok (.getfield 114, 3) := by decide +kernel
theorem dX7_step_78 : decode cX7_step 78 = .ok (.putfield 181, 3) := by decide +kernel
theorem dX7_step_81 : decode cX7_step 81 = .ok (.aload_n 0, 1) := by decide +kernel
theorem dX7_step_82 : decode cX7_step 82 = .ok (.getfield 114, 3) := by decide +kernel
theorem dX7_step_85 : decode cX7_step 85 = .ok (.ifCond .le 5, 3) := by decide +kernel
theorem dX7_step_88 : decode cX7_step 88 = .ok (.iconst 0, 1) := by decide +kernel
theorem dX7_step_89 : decode cX7_step 89 = .ok (.ireturn, 1) := by decide +kernel
theorem dX7_step_90 : decode cX7_step 90 = .ok (.iconst 0, 1) := by decide +kernel
theorem dX7_step_91 : decode cX7_step 91 = .ok (.istore_n 1, 1) := by decide +kernel
theorem dX7_step_92 : decode cX7_step 92 = .ok (.iload_n 1, 1) := by decide +kernel
theorem dX7_step_93 : decode cX7_step 93 = .ok (.iconst 3, 1) := by decide +kernel
theorem dX7_step_94 : decode cX7_step 94 = .ok (.if_icmp .ge 77, 3) := by decide +kernel
theorem dX7_step_97 : decode cX7_step 97 = .ok (.aload_n 0, 1) := by decide +kernel
theorem dX7_step_98 : decode cX7_step 98 = .ok (.getfield 27, 3) := by decide +kernel
theorem dX7_step_101 : decode cX7_step 101 = .ok (.iconst 3, 1) := by decide +kernel
theorem dX7_step_102 : decode cX7_step 102 = .ok (.aload_n 0, 1) := by decide +kernel
theorem dX7_step_103 : decode cX7_step 103 = .ok (.getfield 184, 3) := by decide +kernel
theorem dX7_step_106 : decode cX7_step 106 = .ok (.imul, 1) := by decide +kernel
theorem dX7_step_107 : decode cX7_step 107 = .ok (.iload_n 1, 1) := by decide +kernel
theorem dX7_step_108 : decode cX7_step 108 = .ok (.iadd, 1) := by decide +kernel
theorem dX7_step_109 : decode cX7_step 109 = .ok (.aload_n 0, 1) := by decide +kernel
theorem dX7_step_110 : decode cX7_step 110 = .ok (.getfield 21, 3) := by decide +kernel
theorem dX7_step_113 : decode cX7_step 113 = .ok (.iload_n 1, 1) := by decide +kernel
theorem dX7_step_114 : decode cX7_step 114 = .ok (.iaload, 1) := by decide +kernel
theorem dX7_step_115 : decode cX7_step 115 = .ok (.iastore, 1) := by decide +kernel
theorem dX7_step_116 : decode cX7_step 116 = .ok (.aload_n 0, 1) := by decide +kernel
theorem dX7_step_117 : decode cX7_step 117 = .ok (.getfield 30, 3) := by decide +kernel
theorem dX7_step_120 : decode cX7_step 120 = .ok (.iconst 3, 1) := by decide +kernel
theorem dX7_step_121 : decode cX7_step 121 = .ok (.aload_n 0, 1) := by decide +kernel
theorem dX7_step_122 : decode cX7_step 122 = .ok (.getfield 184, 3) := by decide +kernel
theorem dX7_step_125 : decode cX7_step 125 = .ok (.imul, 1) := by decide +kernel
theorem dX7_step_126 : decode cX7_step 126 = .ok (.iload_n 1, 1) := by decide +kernel
theorem dX7_step_127 : decode cX7_step 127 = .ok (.iadd, 1) := by decide +kernel
theorem dX7_step_128 : decode cX7_step 128 = .ok (.aload_n 0, 1) := by decide +kernel
theorem dX7_step_129 : decode cX7_step 129 = .ok (.getfield 24, 3) := by decide +kernel
theorem dX7_step_132 : decode cX7_step 132 = .ok (.iload_n 1, 1) := by decide +kernel
theorem dX7_step_133 : decode cX7_step 133 = .ok (.laload, 1) := by decide +kernel
theorem dX7_step_134 : decode cX7_step 134 = .ok (.lastore, 1) := by decide +kernel
theorem dX7_step_135 : decode cX7_step 135 = .ok (.aload_n 0, 1) := by decide +kernel
theorem dX7_step_136 : decode cX7_step 136 = .ok (.getfield 21, 3) := by decide +kernel
theorem dX7_step_139 : decode cX7_step 139 = .ok (.iload_n 1, 1) := by decide +kernel
theorem dX7_step_140 : decode cX7_step 140 = .ok (.aload_n 0, 1) := by decide +kernel
theorem dX7_step_141 : decode cX7_step 141 = .ok (.getfield 21, 3) := by decide +kernel
theorem dX7_step_144 : decode cX7_step 144 = .ok (.bipush 7, 2) := by decide +kernel
theorem dX7_step_146 : decode cX7_step 146 = .ok (.iload_n 1, 1) := by decide +kernel
theorem dX7_step_147 : decode cX7_step 147 = .ok (.iadd, 1) := by decide +kernel
theorem dX7_step_148 : decode cX7_step 148 = .ok (.iaload, 1) := by decide +kernel
theorem dX7_step_149 : decode cX7_step 149 = .ok (.iastore, 1) := by decide +kernel
theorem dX7_step_150 : decode cX7_step 150 = .ok (.aload_n 0, 1) := by decide +kernel
theorem dX7_step_151 : decode cX7_step 151 = .ok (.getfield 24, 3) := by decide +kernel
theorem dX7_step_154 : decode cX7_step 154 = .ok (.iload_n 1, 1) := by decide +kernel
theorem dX7_step_155 : decode cX7_step 155 = .ok (.aload_n 0, 1) := by decide +kernel
theorem dX7_step_156 : decode cX7_step 156 = .ok (.getfield 24, 3) := by decide +kernel
theorem dX7_step_159 : decode cX7_step 159 = .ok (.bipush 7, 2) := by decide +kernel
theorem dX7_step_161 : decode cX7_step 161 = .ok (.iload_n 1, 1) := by decide +kernel
theorem dX7_step_162 : decode cX7_step 162 = .ok (.iadd, 1) := by decide +kernel
theorem dX7_step_163 : decode cX7_step 163 = .ok (.laload, 1) := by decide +kernel
theorem dX7_step_164 : decode cX7_step 164 = .ok (.lastore, 1) := by decide +kernel
theorem dX7_step_165 : decode cX7_step 165 = .ok (.iinc 1 1, 3) := by decide +kernel
theorem dX7_step_168 : decode cX7_step 168 = .ok (.goto (-76), 3) := by decide +kernel
theorem dX7_step_171 : decode cX7_step 171 = .ok (.aload_n 0, 1) := by decide +kernel
theorem dX7_step_172 : decode cX7_step 172 = .ok (.dup, 1) := by decide +kernel
theorem dX7_step_173 : decode cX7_step 173 = .ok (.getfield 184, 3) := by decide +kernel
theorem dX7_step_176 : decode cX7_step 176 = .ok (.iconst 1, 1) := by decide +kernel
theorem dX7_step_177 : decode cX7_step 177 = .ok (.iadd, 1) := by decide +kernel
theorem dX7_step_178 : decode cX7_step 178 = .ok (.putfield 184, 3) := by decide +kernel
theorem dX7_step_181 : decode cX7_step 181 = .ok (.iconst 1, 1) := by decide +kernel
theorem dX7_step_182 : decode cX7_step 182 = .ok (.ireturn, 1) := by decide +kernel
set_option maxRecDepth 20000 in
theorem ggX7_run_X7_out : GoodIn wsX7_run wsX7_out := goodIn_r _ [5] (by decide +kernel) (by decide +kernel)
set_option maxRecDepth 20000 in
theorem gX7_run_X7_out : GoodIn wsX7_run (va_wsS RX7 187 yX7_out wsX7_out) := goodIn_app (goodIn_of _ (by decide +kernel)) ggX7_run_X7_out
set_option maxRecDepth 20000 in
theorem ggX7_run_X7_throwing : GoodIn wsX7_run wsX7_throwing := goodIn_r _ [9, 10, 155, 156, 157, 158, 159, 160, 161, 162, 163, 164, 165, 166, 167, 168, 169] (by decide +kernel) (by decide +kernel)
set_option maxRecDepth 20000 in
theorem gX7_run_X7_throwing : GoodIn wsX7_run (wsV RX7 191 RX7 yX7_throwing wsX7_throwing) := goodIn_app (goodIn_of _ (by decide +kernel)) ggX7_run_X7_throwing
set_option maxRecDepth 20000 in
theorem ggX7_run_X7_step : GoodIn wsX7_run wsX7_step := goodIn_r _ [14, 15, 16, 17, 1, 18, 19, 20, 21, 22, 23, 4, 24, 25, 26, 27, 28, 29, 30, 31, 32, 33, 34, 35, 36, 37, 38, 39, 40, 41, 42, 43, 44, 45, 46, 47, 48, 49, 50, 51, 52, 53, 54, 55, 56, 57, 58, 59, 60, 61, 62, 63, 64, 65, 66, 67, 68, 69, 70, 71, 72, 73, 74, 75, 76, 77, 78, 79, 80, 81, 82, 83, 84, 85, 86, 87, 88, 89, 90, 91, 92, 93, 94, 95, 96, 97, 98, 99, 100, 101, 102, 103, 104, 105, 106, 107, 108, 109, 110, 111, 112, 113, 114, 115, 116, 117, 118, 119, 120, 121, 122, 123, 124, 125, 126, 127, 128, 129, 130, 131, 132, 133, 134, 135, 136, 137, 138, 139, 140, 141, 142, 143, 144, 145, 146, 147, 148, 149, 150, 151, 152, 153, 154, 155, 156, 157, 158, 159, 160, 161, 162, 163, 164, 165, 166, 167, 168, 169] (by decide +kernel) (by decide +kernel)
set_option maxRecDepth 20000 in
theorem gX7_run_X7_step : GoodIn wsX7_run (wsV RX7 195 RX7 yX7_step wsX7_step) := goodIn_app (goodIn_of _ (by decide +kernel)) ggX7_run_X7_step
theorem dX7_run_0 : decode cX7_run 0 = .ok (.aload_n 0, 1) := by decide +kernel
theorem dX7_run_1 : decode cX7_run 1 = .ok (.iload_n 1, 1) := by decide +kernel
theorem dX7_run_2 : decode cX7_run 2 = .ok (.iconst 1, 1) := by decide +kernel
theorem dX7_run_3 : decode cX7_run 3 = .ok (.bipush 100, 2) := by decide +kernel
theorem dX7_run_5 : decode cX7_run 5 = .ok (.invokestatic 187, 3) := by decide +kernel
theorem dX7_run_8 : decode cX7_run 8 = .ok (.iconst 0, 1) := by decide +kernel
theorem dX7_run_9 : decode cX7_run 9 = .ok (.invokevirtual 191, 3) := by decide +kernel
theorem dX7_run_12 : decode cX7_run 12 = .ok (.ifCond .eq 5, 3) := by decide +kernel
theorem dX7_run_15 : decode cX7_run 15 = .ok (.iconst 0, 1) := by decide +kernel
theorem dX7_run_16 : decode cX7_run 16 = .ok (.ireturn, 1) := by decide +kernel
theorem dX7_run_17 : decode cX7_run 17 = .ok (.iconst 0, 1) := by decide +kernel
theorem dX7_run_18 : decode cX7_run 18 = .ok (.istore_n 2, 1) := by decide +kernel
theorem dX7_run_19 : decode cX7_run 19 = .ok (.iload_n 2, 1) := by decide +kernel
theorem dX7_run_20 : decode cX7_run 20 = .ok (.iload_n 1, 1) := by decide +kernel
theorem dX7_run_21 : decode cX7_run 21 = .ok (.if_icmp .ge 25, 3) := by decide +kernel
theorem dX7_run_24 : decode cX7_run 24 = .ok (.aload_n 0, 1) := by decide +kernel
theorem dX7_run_25 : decode cX7_run 25 = .ok (.getfield 184, 3) := by decide +kernel
theorem dX7_run_28 : decode cX7_run 28 = .ok (.bipush 64, 2) := by decide +kernel
theorem dX7_run_30 : decode cX7_run 30 = .ok (.if_icmp .ge 16, 3) := by decide +kernel
theorem dX7_run_33 : decode cX7_run 33 = .ok (.aload_n 0, 1) := by decide +kernel
theorem dX7_run_34 : decode cX7_run 34 = .ok (.invokevirtual 195, 3) := by decide +kernel
theorem dX7_run_37 : decode cX7_run 37 = .ok (.ifCond .eq 9, 3) := by decide +kernel
theorem dX7_run_40 : decode cX7_run 40 = .ok (.iinc 2 1, 3) := by decide +kernel
theorem dX7_run_43 : decode cX7_run 43 = .ok (.goto (-24), 3) := by decide +kernel
theorem dX7_run_46 : decode cX7_run 46 = .ok (.iload_n 2, 1) := by decide +kernel
theorem dX7_run_47 : decode cX7_run 47 = .ok (.ireturn, 1) := by decide +kernel
set_option maxRecDepth 20000 in
theorem ggX7_encode_X7_out : GoodIn wsX7_encode wsX7_out := goodIn_r _ [6] (by decide +kernel) (by decide +kernel)
set_option maxRecDepth 20000 in
theorem gX7_encode_X7_out : GoodIn wsX7_encode (va_wsS RX7 187 yX7_out wsX7_out) := goodIn_app (goodIn_of _ (by decide +kernel)) ggX7_encode_X7_out
set_option maxRecDepth 20000 in
theorem ggX7_encode_X7_throwing : GoodIn wsX7_encode wsX7_throwing := goodIn_r _ [10, 11, 12, 13, 14, 15, 16, 17, 18, 19, 20, 21, 22, 23, 24, 25, 26] (by decide +kernel) (by decide +kernel)
set_option maxRecDepth 20000 in
theorem gX7_encode_X7_throwing : GoodIn wsX7_encode (wsV RX7 191 RX7 yX7_throwing wsX7_throwing) := goodIn_app (goodIn_of _ (by decide +kernel)) ggX7_encode_X7_throwing
theorem dX7_encode_0 : decode cX7_encode 0 = .ok (.aload_n 0, 1) := by decide +kernel
theorem dX7_encode_1 : decode cX7_encode 1 = .ok (.iload_n 1, 1) := by decide +kernel
theorem dX7_encode_2 : decode cX7_encode 2 = .ok (.sipush (-512), 3) := by decide +kernel
theorem dX7_encode_5 : decode cX7_encode 5 = .ok (.sipush 511, 3) := by decide +kernel
theorem dX7_encode_8 : decode cX7_encode 8 = .ok (.invokestatic 187, 3) := by decide +kernel
theorem dX7_encode_11 : decode cX7_encode 11 = .ok (.ifCond .ne 41, 3) := by decide +kernel
theorem dX7_encode_14 : decode cX7_encode 14 = .ok (.iload_n 2, 1) := by decide +kernel
theorem dX7_encode_15 : decode cX7_encode 15 = .ok (.sipush (-512), 3) := by decide +kernel
theorem dX7_encode_18 : decode cX7_encode 18 = .ok (.sipush 511, 3) := by decide +kernel
theorem dX7_encode_21 : decode cX7_encode 21 = .ok (.invokestatic 187, 3) := by decide +kernel
theorem dX7_encode_24 : decode cX7_encode 24 = .ok (.ifCond .ne 28, 3) := by decide +kernel
theorem dX7_encode_27 : decode cX7_encode 27 = .ok (.iload_n 3, 1) := by decide +kernel
theorem dX7_encode_28 : decode cX7_encode 28 = .ok (.sipush (-512), 3) := by decide +kernel
theorem dX7_encode_31 : decode cX7_encode 31 = .ok (.sipush 511, 3) := by decide +kernel
theorem dX7_encode_34 : decode cX7_encode 34 = .ok (.invokestatic 187, 3) := by decide +kernel
theorem dX7_encode_37 : decode cX7_encode 37 = .ok (.ifCond .ne 15, 3) := by decide +kernel
theorem dX7_encode_40 : decode cX7_encode 40 = .ok (.iload 4, 2) := by decide +kernel
theorem dX7_encode_42 : decode cX7_encode 42 = .ok (.iconst 0, 1) := by decide +kernel
theorem dX7_encode_43 : decode cX7_encode 43 = .ok (.sipush 32767, 3) := by decide +kernel
theorem dX7_encode_46 : decode cX7_encode 46 = .ok (.invokestatic 187, 3) := by decide +kernel
theorem dX7_encode_49 : decode cX7_encode 49 = .ok (.ifCond .eq 7, 3) := by decide +kernel
theorem dX7_encode_52 : decode cX7_encode 52 = .ok (.iconst 1, 1) := by decide +kernel
theorem dX7_encode_53 : decode cX7_encode 53 = .ok (.goto 4, 3) := by decide +kernel
theorem dX7_encode_56 : decode cX7_encode 56 = .ok (.iconst 0, 1) := by decide +kernel
theorem dX7_encode_57 : decode cX7_encode 57 = .ok (.iconst 0, 1) := by decide +kernel
theorem dX7_encode_58 : decode cX7_encode 58 = .ok (.invokevirtual 191, 3) := by decide +kernel
theorem dX7_encode_61 : decode cX7_encode 61 = .ok (.ifCond .eq 5, 3) := by decide +kernel
theorem dX7_encode_64 : decode cX7_encode 64 = .ok (.lconst 0, 1) := by decide +kernel
theorem dX7_encode_65 : decode cX7_encode 65 = .ok (.lreturn, 1) := by decide +kernel
theorem dX7_encode_66 : decode cX7_encode 66 = .ok (.iload 4, 2) := by decide +kernel
theorem dX7_encode_68 : decode cX7_encode 68 = .ok (.i2l, 1) := by decide +kernel
theorem dX7_encode_69 : decode cX7_encode 69 = .ok (.ldc2_w 199, 3) := by decide +kernel
theorem dX7_encode_72 : decode cX7_encode 72 = .ok (.lmul, 1) := by decide +kernel
theorem dX7_encode_73 : decode cX7_encode 73 = .ok (.iload_n 3, 1) := by decide +kernel
theorem dX7_encode_74 : decode cX7_encode 74 = .ok (.i2l, 1) := by decide +kernel
theorem dX7_encode_75 : decode cX7_encode 75 = .ok (.ladd, 1) := by decide +kernel
theorem dX7_encode_76 : decode cX7_encode 76 = .ok (.ldc2_w 201, 3) := by decide +kernel
theorem dX7_encode_79 : decode cX7_encode 79 = .ok (.ladd, 1) := by decide +kernel
theorem dX7_encode_80 : decode cX7_encode 80 = .ok (.ldc2_w 199, 3) := by decide +kernel
theorem dX7_encode_83 : decode cX7_encode 83 = .ok (.lmul, 1) := by decide +kernel
theorem dX7_encode_84 : decode cX7_encode 84 = .ok (.iload_n 2, 1) := by decide +kernel
theorem dX7_encode_85 : decode cX7_encode 85 = .ok (.i2l, 1) := by decide +kernel
theorem dX7_encode_86 : decode cX7_encode 86 = .ok (.ladd, 1) := by decide +kernel
theorem dX7_encode_87 : decode cX7_encode 87 = .ok (.ldc2_w 201, 3) := by decide +kernel
theorem dX7_encode_90 : decode cX7_encode 90 = .ok (.ladd, 1) := by decide +kernel
theorem dX7_encode_91 : decode cX7_encode 91 = .ok (.ldc2_w 199, 3) := by decide +kernel
theorem dX7_encode_94 : decode cX7_encode 94 = .ok (.lmul, 1) := by decide +kernel
theorem dX7_encode_95 : decode cX7_encode 95 = .ok (.iload_n 1, 1) := by decide +kernel
theorem dX7_encode_96 : decode cX7_encode 96 = .ok (.i2l, 1) := by decide +kernel
theorem dX7_encode_97 : decode cX7_encode 97 = .ok (.ladd, 1) := by decide +kernel
theorem dX7_encode_98 : decode cX7_encode 98 = .ok (.ldc2_w 201, 3) := by decide +kernel
theorem dX7_encode_101 : decode cX7_encode 101 = .ok (.ladd, 1) := by decide +kernel
theorem dX7_encode_102 : decode cX7_encode 102 = .ok (.lreturn, 1) := by decide +kernel
set_option maxRecDepth 20000 in
theorem ggX7_decode_X7_out : GoodIn wsX7_decode wsX7_out := goodIn_r _ [4] (by decide +kernel) (by decide +kernel)
set_option maxRecDepth 20000 in
theorem gX7_decode_X7_out : GoodIn wsX7_decode (va_wsS RX7 187 yX7_out wsX7_out) := goodIn_app (goodIn_of _ (by decide +kernel)) ggX7_decode_X7_out
set_option maxRecDepth 20000 in
theorem ggX7_decode_X7_isBad : GoodIn wsX7_decode wsX7_isBad := goodIn_r _ [7, 8, 9, 3, 10, 11, 12, 13, 14] (by decide +kernel) (by decide +kernel)
set_option maxRecDepth 20000 in
theorem gX7_decode_X7_isBad : GoodIn wsX7_decode (va_wsS RX7 160 yX7_isBad wsX7_isBad) := goodIn_app (goodIn_of _ (by decide +kernel)) ggX7_decode_X7_isBad
set_option maxRecDepth 20000 in
theorem ggX7_decode_X7_throwing : GoodIn wsX7_decode wsX7_throwing := goodIn_r _ [18, 19, 20, 21, 22, 23, 24, 25, 26, 27, 28, 29, 30, 31, 32, 33, 34] (by decide +kernel) (by decide +kernel)
set_option maxRecDepth 20000 in
theorem gX7_decode_X7_throwing : GoodIn wsX7_decode (wsV RX7 191 RX7 yX7_throwing wsX7_throwing) := goodIn_app (goodIn_of _ (by decide +kernel)) ggX7_decode_X7_throwing
set_option maxRecDepth 20000 in
theorem ggX7_decode_X7_offset : GoodIn wsX7_decode wsX7_offset := goodIn_r _ [13, 14] (by decide +kernel) (by decide +kernel)
set_option maxRecDepth 20000 in
theorem gX7_decode_X7_offset : GoodIn wsX7_decode (va_wsS RX7 110 yX7_offset wsX7_offset) := goodIn_app (goodIn_of _ (by decide +kernel)) ggX7_decode_X7_offset
set_option maxRecDepth 20000 in
theorem ggX7_decode_X7_many : GoodIn wsX7_decode wsX7_many := goodIn_r _ [10] (by decide +kernel) (by decide +kernel)
set_option maxRecDepth 20000 in
theorem gX7_decode_X7_many : GoodIn wsX7_decode (va_wsS RX7 106 yX7_many wsX7_many) := goodIn_app (goodIn_of _ (by decide +kernel)) ggX7_decode_X7_many
theorem dX7_decode_0 : decode cX7_decode 0 = .ok (.aload_n 0, 1) := by decide +kernel
theorem dX7_decode_1 : decode cX7_decode 1 = .ok (.iload_n 3, 1) := by decide +kernel
theorem dX7_decode_2 : decode cX7_decode 2 = .ok (.iconst 0, 1) := by decide +kernel
theorem dX7_decode_3 : decode cX7_decode 3 = .ok (.iconst 4, 1) := by decide +kernel
theorem dX7_decode_4 : decode cX7_decode 4 = .ok (.invokestatic 187, 3) := by decide +kernel
theorem dX7_decode_7 : decode cX7_decode 7 = .ok (.lload_n 1, 1) := by decide +kernel
theorem dX7_decode_8 : decode cX7_decode 8 = .ok (.invokestatic 160, 3) := by decide +kernel
theorem dX7_decode_11 : decode cX7_decode 11 = .ok (.invokevirtual 191, 3) := by decide +kernel
theorem dX7_decode_14 : decode cX7_decode 14 = .ok (.ifCond .eq 5, 3) := by decide +kernel
theorem dX7_decode_17 : decode cX7_decode 17 = .ok (.iconst 0, 1) := by decide +kernel
theorem dX7_decode_18 : decode cX7_decode 18 = .ok (.ireturn, 1) := by decide +kernel
theorem dX7_decode_19 : decode cX7_decode 19 = .ok (.iload_n 3, 1) := by decide +kernel
theorem dX7_decode_20 : decode cX7_decode 20 = .ok (.iconst 3, 1) := by decide +kernel
theorem dX7_decode_21 : decode cX7_decode 21 = .ok (.if_icmp .ge 9, 3) := by decide +kernel
theorem dX7_decode_24 : decode cX7_decode 24 = .ok (.lload_n 1, 1) := by decide +kernel
theorem dX7_decode_25 : decode cX7_decode 25 = .ok (.iload_n 3, 1) := by decide +kernel
theorem dX7_decode_26 : decode cX7_decode 26 = .ok (.invokestatic 110, 3) := by decide +kernel
theorem dX7_decode_29 : decode cX7_decode 29 = .ok (.ireturn, 1) := by decide +kernel
theorem dX7_decode_30 : decode cX7_decode 30 = .ok (.iload_n 3, 1) := by decide +kernel
theorem dX7_decode_31 : decode cX7_decode 31 = .ok (.iconst 3, 1) := by decide +kernel
theorem dX7_decode_32 : decode cX7_decode 32 = .ok (.if_icmp .ne 11, 3) := by decide +kernel
theorem dX7_decode_35 : decode cX7_decode 35 = .ok (.lload_n 1, 1) := by decide +kernel
theorem dX7_decode_36 : decode cX7_decode 36 = .ok (.bipush 30, 2) := by decide +kernel
theorem dX7_decode_38 : decode cX7_decode 38 = .ok (.lshr, 1) := by decide +kernel
theorem dX7_decode_39 : decode cX7_decode 39 = .ok (.l2i, 1) := by decide +kernel
theorem dX7_decode_40 : decode cX7_decode 40 = .ok (.goto 13, 3) := by decide +kernel
theorem dX7_decode_43 : decode cX7_decode 43 = .ok (.iconst 1, 1) := by decide +kernel
theorem dX7_decode_44 : decode cX7_decode 44 = .ok (.lload_n 1, 1) := by decide +kernel
theorem dX7_decode_45 : decode cX7_decode 45 = .ok (.bipush 32, 2) := by decide +kernel
theorem dX7_decode_47 : decode cX7_decode 47 = .ok (.bipush 32, 2) := by decide +kernel
theorem dX7_decode_49 : decode cX7_decode 49 = .ok (.invokestatic 106, 3) := by decide +kernel
theorem dX7_decode_52 : decode cX7_decode 52 = .ok (.iadd, 1) := by decide +kernel
theorem dX7_decode_53 : decode cX7_decode 53 = .ok (.ireturn, 1) := by decide +kernel
set_option maxRecDepth 20000 in
theorem ggX7_number_X7_out : GoodIn wsX7_number wsX7_out := goodIn_r _ [4] (by decide +kernel) (by decide +kernel)
set_option maxRecDepth 20000 in
theorem gX7_number_X7_out : GoodIn wsX7_number (va_wsS RX7 187 yX7_out wsX7_out) := goodIn_app (goodIn_of _ (by decide +kernel)) ggX7_number_X7_out
set_option maxRecDepth 20000 in
theorem ggX7_number_X7_modulo : GoodIn wsX7_number wsX7_modulo := goodIn_r _ [7, 8] (by decide +kernel) (by decide +kernel)
set_option maxRecDepth 20000 in
theorem gX7_number_X7_modulo : GoodIn wsX7_number (va_wsS RX7 39 yX7_modulo wsX7_modulo) := goodIn_app (goodIn_of _ (by decide +kernel)) ggX7_number_X7_modulo
set_option maxRecDepth 20000 in
theorem ggX7_number_X7_written : GoodIn wsX7_number wsX7_written := goodIn_r _ [12, 13, 14, 15, 16, 17, 3, 18, 19, 20, 21, 22, 23, 24, 25, 26, 27, 28, 29, 30, 31, 37, 38, 39, 40, 41, 42, 43, 44, 45, 46, 47, 48, 49, 50, 51] (by decide +kernel) (by decide +kernel)
set_option maxRecDepth 20000 in
theorem gX7_number_X7_written : GoodIn wsX7_number (wsV RX7 124 RX7 yX7_written wsX7_written) := goodIn_app (goodIn_of _ (by decide +kernel)) ggX7_number_X7_written
set_option maxRecDepth 20000 in
theorem ggX7_number_X7_throwing : GoodIn wsX7_number wsX7_throwing := goodIn_r _ [35, 36, 37, 38, 39, 40, 41, 42, 43, 44, 45, 46, 47, 48, 49, 50, 51] (by decide +kernel) (by decide +kernel)
set_option maxRecDepth 20000 in
theorem gX7_number_X7_throwing : GoodIn wsX7_number (wsV RX7 191 RX7 yX7_throwing wsX7_throwing) := goodIn_app (goodIn_of _ (by decide +kernel)) ggX7_number_X7_throwing
theorem dX7_number_0 : decode cX7_number 0 = .ok (.iload_n 1, 1) := by decide +kernel
theorem dX7_number_1 : decode cX7_number 1 = .ok (.iconst 1, 1) := by decide +kernel
theorem dX7_number_2 : decode cX7_number 2 = .ok (.iconst 5, 1) := by decide +kernel
theorem dX7_number_3 : decode cX7_number 3 = .ok (.invokestatic 187, 3) := by decide +kernel
theorem dX7_number_6 : decode cX7_number 6 = .ok (.ifCond .ne 13, 3) := by decide +kernel
theorem dX7_number_9 : decode cX7_number 9 = .ok (.iload_n 2, 1) := by decide +kernel
theorem dX7_number_10 : decode cX7_number 10 = .ok (.iconst 0, 1) := by decide +kernel
theorem dX7_number_11 : decode cX7_number 11 = .ok (.bipush 63, 2) := by decide +kernel
theorem dX7_number_13 : decode cX7_number 13 = .ok (.invokestatic 187, 3) := by decide +kernel
theorem dX7_number_16 : decode cX7_number 16 = .ok (.ifCond .eq 7, 3) := by decide +kernel
theorem dX7_number_19 : decode cX7_number 19 = .ok (.iconst 1, 1) := by decide +kernel
theorem dX7_number_20 : decode cX7_number 20 = .ok (.goto 4, 3) := by decide +kernel
theorem dX7_number_23 : decode cX7_number 23 = .ok (.iconst 0, 1) := by decide +kernel
theorem dX7_number_24 : decode cX7_number 24 = .ok (.istore 5, 2) := by decide +kernel
theorem dX7_number_26 : decode cX7_number 26 = .ok (.aload_n 0, 1) := by decide +kernel
theorem dX7_number_27 : decode cX7_number 27 = .ok (.iload 5, 2) := by decide +kernel
theorem dX7_number_29 : decode cX7_number 29 = .ok (.iload 5, 2) := by decide +kernel
theorem dX7_number_31 : decode cX7_number 31 = .ok (.ifCond .ne 22, 3) := by decide +kernel
theorem dX7_number_34 : decode cX7_number 34 = .ok (.aload_n 0, 1) := by decide +kernel
theorem dX7_number_35 : decode cX7_number 35 = .ok (.iload_n 1, 1) := by decide +kernel
theorem dX7_number_36 : decode cX7_number 36 = .ok (.iload_n 2, 1) := by decide +kernel
theorem dX7_number_37 : decode cX7_number 37 = .ok (.i2l, 1) := by decide +kernel
theorem dX7_number_38 : decode cX7_number 38 = .ok (.iconst 0, 1) := by decide +kernel
theorem dX7_number_39 : decode cX7_number 39 = .ok (.lload_n 3, 1) := by decide +kernel
theorem dX7_number_40 : decode cX7_number 40 = .ok (.invokestatic 39, 3) := by decide +kernel
theorem dX7_number_43 : decode cX7_number 43 = .ok (.invokevirtual 124, 3) := by decide +kernel
theorem dX7_number_46 : decode cX7_number 46 = .ok (.ifCond .ne 7, 3) := by decide +kernel
theorem dX7_number_49 : decode cX7_number 49 = .ok (.iconst 1, 1) := by decide +kernel
theorem dX7_number_50 : decode cX7_number 50 = .ok (.goto 4, 3) := by decide +kernel
theorem dX7_number_53 : decode cX7_number 53 = .ok (.iconst 0, 1) := by decide +kernel
theorem dX7_number_54 : decode cX7_number 54 = .ok (.invokevirtual 191, 3) := by decide +kernel
theorem dX7_number_57 : decode cX7_number 57 = .ok (.pop, 1) := by decide +kernel
theorem dX7_number_58 : decode cX7_number 58 = .ok (.return_, 1) := by decide +kernel
set_option maxRecDepth 20000 in
theorem ggX7_address_X7_out : GoodIn wsX7_address wsX7_out := goodIn_r _ [4] (by decide +kernel) (by decide +kernel)
set_option maxRecDepth 20000 in
theorem gX7_address_X7_out : GoodIn wsX7_address (va_wsS RX7 187 yX7_out wsX7_out) := goodIn_app (goodIn_of _ (by decide +kernel)) ggX7_address_X7_out
set_option maxRecDepth 20000 in
theorem ggX7_address_X7_written : GoodIn wsX7_address wsX7_written := goodIn_r _ [8, 9, 10, 11, 12, 13, 3, 14, 15, 16, 17, 18, 19, 20, 21, 22, 23, 24, 25, 26, 27, 33, 34, 35, 36, 37, 38, 39, 40, 41, 42, 43, 44, 45, 46, 47] (by decide +kernel) (by decide +kernel)
set_option maxRecDepth 20000 in
theorem gX7_address_X7_written : GoodIn wsX7_address (wsV RX7 124 RX7 yX7_written wsX7_written) := goodIn_app (goodIn_of _ (by decide +kernel)) ggX7_address_X7_written
set_option maxRecDepth 20000 in
theorem ggX7_address_X7_throwing : GoodIn wsX7_address wsX7_throwing := goodIn_r _ [31, 32, 33, 34, 35, 36, 37, 38, 39, 40, 41, 42, 43, 44, 45, 46, 47] (by decide +kernel) (by decide +kernel)
set_option maxRecDepth 20000 in
theorem gX7_address_X7_throwing : GoodIn wsX7_address (wsV RX7 191 RX7 yX7_throwing wsX7_throwing) := goodIn_app (goodIn_of _ (by decide +kernel)) ggX7_address_X7_throwing
theorem dX7_address_0 : decode cX7_address 0 = .ok (.iload_n 1, 1) := by decide +kernel
theorem dX7_address_1 : decode cX7_address 1 = .ok (.iconst 1, 1) := by decide +kernel
theorem dX7_address_2 : decode cX7_address 2 = .ok (.iconst 5, 1) := by decide +kernel
theorem dX7_address_3 : decode cX7_address 3 = .ok (.invokestatic 187, 3) := by decide +kernel
theorem dX7_address_6 : decode cX7_address 6 = .ok (.ifCond .ne 36, 3) := by decide +kernel
theorem dX7_address_9 : decode cX7_address 9 = .ok (.iload_n 2, 1) := by decide +kernel
theorem dX7_address_10 : decode cX7_address 10 = .ok (.iconst 0, 1) := by decide +kernel
theorem dX7_address_11 : decode cX7_address 11 = .ok (.bipush 63, 2) := by decide +kernel
theorem dX7_address_13 : decode cX7_address 13 = .ok (.invokestatic 187, 3) := by decide +kernel
theorem dX7_address_16 : decode cX7_address 16 = .ok (.ifCond .ne 26, 3) := by decide +kernel
theorem dX7_address_19 : decode cX7_address 19 = .ok (.iload_n 3, 1) := by decide +kernel
theorem dX7_address_20 : decode cX7_address 20 = .ok (.iconst 1, 1) := by decide +kernel
theorem dX7_address_21 : decode cX7_address 21 = .ok (.iconst 5, 1) := by decide +kernel
theorem dX7_address_22 : decode cX7_address 22 = .ok (.invokestatic 187, 3) := by decide +kernel
theorem dX7_address_25 : decode cX7_address 25 = .ok (.ifCond .ne 17, 3) := by decide +kernel
theorem dX7_address_28 : decode cX7_address 28 = .ok (.iload 4, 2) := by decide +kernel
theorem dX7_address_30 : decode cX7_address 30 = .ok (.sipush (-1000), 3) := by decide +kernel
theorem dX7_address_33 : decode cX7_address 33 = .ok (.sipush 1000, 3) := by decide +kernel
theorem dX7_address_36 : decode cX7_address 36 = .ok (.invokestatic 187, 3) := by decide +kernel
theorem dX7_address_39 : decode cX7_address 39 = .ok (.ifCond .eq 7, 3) := by decide +kernel
theorem dX7_address_42 : decode cX7_address 42 = .ok (.iconst 1, 1) := by decide +kernel
theorem dX7_address_43 : decode cX7_address 43 = .ok (.goto 4, 3) := by decide +kernel
theorem dX7_address_46 : decode cX7_address 46 = .ok (.iconst 0, 1) := by decide +kernel
theorem dX7_address_47 : decode cX7_address 47 = .ok (.istore 5, 2) := by decide +kernel
theorem dX7_address_49 : decode cX7_address 49 = .ok (.aload_n 0, 1) := by decide +kernel
theorem dX7_address_50 : decode cX7_address 50 = .ok (.iload 5, 2) := by decide +kernel
theorem dX7_address_52 : decode cX7_address 52 = .ok (.iload 5, 2) := by decide +kernel
theorem dX7_address_54 : decode cX7_address 54 = .ok (.ifCond .ne 21, 3) := by decide +kernel
theorem dX7_address_57 : decode cX7_address 57 = .ok (.aload_n 0, 1) := by decide +kernel
theorem dX7_address_58 : decode cX7_address 58 = .ok (.iload_n 1, 1) := by decide +kernel
theorem dX7_address_59 : decode cX7_address 59 = .ok (.iload_n 2, 1) := by decide +kernel
theorem dX7_address_60 : decode cX7_address 60 = .ok (.i2l, 1) := by decide +kernel
theorem dX7_address_61 : decode cX7_address 61 = .ok (.iload_n 3, 1) := by decide +kernel
theorem dX7_address_62 : decode cX7_address 62 = .ok (.iload 4, 2) := by decide +kernel
theorem dX7_address_64 : decode cX7_address 64 = .ok (.i2l, 1) := by decide +kernel
theorem dX7_address_65 : decode cX7_address 65 = .ok (.invokevirtual 124, 3) := by decide +kernel
theorem dX7_address_68 : decode cX7_address 68 = .ok (.ifCond .ne 7, 3) := by decide +kernel
theorem dX7_address_71 : decode cX7_address 71 = .ok (.iconst 1, 1) := by decide +kernel
theorem dX7_address_72 : decode cX7_address 72 = .ok (.goto 4, 3) := by decide +kernel
theorem dX7_address_75 : decode cX7_address 75 = .ok (.iconst 0, 1) := by decide +kernel
theorem dX7_address_76 : decode cX7_address 76 = .ok (.invokevirtual 191, 3) := by decide +kernel
theorem dX7_address_79 : decode cX7_address 79 = .ok (.pop, 1) := by decide +kernel
theorem dX7_address_80 : decode cX7_address 80 = .ok (.return_, 1) := by decide +kernel
set_option maxRecDepth 20000 in
theorem ggX7_start_X7_out : GoodIn wsX7_start wsX7_out := goodIn_r _ [8] (by decide +kernel) (by decide +kernel)
set_option maxRecDepth 20000 in
theorem gX7_start_X7_out : GoodIn wsX7_start (va_wsS RX7 187 yX7_out wsX7_out) := goodIn_app (goodIn_of _ (by decide +kernel)) ggX7_start_X7_out
set_option maxRecDepth 20000 in
theorem ggX7_start_X7_throwing : GoodIn wsX7_start wsX7_throwing := goodIn_r _ [12, 13, 14, 15, 16, 17, 18, 19, 20, 21, 22, 23, 24, 25, 26, 27, 28] (by decide +kernel) (by decide +kernel)
set_option maxRecDepth 20000 in
theorem gX7_start_X7_throwing : GoodIn wsX7_start (wsV RX7 191 RX7 yX7_throwing wsX7_throwing) := goodIn_app (goodIn_of _ (by decide +kernel)) ggX7_start_X7_throwing
theorem dX7_start_0 : decode cX7_start 0 = .ok (.aload_n 0, 1) := by decide +kernel
theorem dX7_start_1 : decode cX7_start 1 = .ok (.iload_n 1, 1) := by decide +kernel
theorem dX7_start_2 : decode cX7_start 2 = .ok (.iconst 0, 1) := by decide +kernel
theorem dX7_start_3 : decode cX7_start 3 = .ok (.bipush 63, 2) := by decide +kernel
theorem dX7_start_5 : decode cX7_start 5 = .ok (.invokestatic 187, 3) := by decide +kernel
theorem dX7_start_8 : decode cX7_start 8 = .ok (.ifCond .ne 23, 3) := by decide +kernel
theorem dX7_start_11 : decode cX7_start 11 = .ok (.iload_n 2, 1) := by decide +kernel
theorem dX7_start_12 : decode cX7_start 12 = .ok (.iconst 0, 1) := by decide +kernel
theorem dX7_start_13 : decode cX7_start 13 = .ok (.bipush 63, 2) := by decide +kernel
theorem dX7_start_15 : decode cX7_start 15 = .ok (.invokestatic 187, 3) := by decide +kernel
theorem dX7_start_18 : decode cX7_start 18 = .ok (.ifCond .ne 13, 3) := by decide +kernel
theorem dX7_start_21 : decode cX7_start 21 = .ok (.iload_n 3, 1) := by decide +kernel
theorem dX7_start_22 : decode cX7_start 22 = .ok (.iconst 0, 1) := by decide +kernel
theorem dX7_start_23 : decode cX7_start 23 = .ok (.bipush 63, 2) := by decide +kernel
theorem dX7_start_25 : decode cX7_start 25 = .ok (.invokestatic 187, 3) := by decide +kernel
theorem dX7_start_28 : decode cX7_start 28 = .ok (.ifCond .eq 7, 3) := by decide +kernel
theorem dX7_start_31 : decode cX7_start 31 = .ok (.iconst 1, 1) := by decide +kernel
theorem dX7_start_32 : decode cX7_start 32 = .ok (.goto 4, 3) := by decide +kernel
theorem dX7_start_35 : decode cX7_start 35 = .ok (.iconst 0, 1) := by decide +kernel
theorem dX7_start_36 : decode cX7_start 36 = .ok (.iconst 0, 1) := by decide +kernel
theorem dX7_start_37 : decode cX7_start 37 = .ok (.invokevirtual 191, 3) := by decide +kernel
theorem dX7_start_40 : decode cX7_start 40 = .ok (.ifCond .eq 4, 3) := by decide +kernel
theorem dX7_start_43 : decode cX7_start 43 = .ok (.return_, 1) := by decide +kernel
theorem dX7_start_44 : decode cX7_start 44 = .ok (.iconst 0, 1) := by decide +kernel
theorem dX7_start_45 : decode cX7_start 45 = .ok (.istore 4, 2) := by decide +kernel
theorem dX7_start_47 : decode cX7_start 47 = .ok (.iload 4, 2) := by decide +kernel
theorem dX7_start_49 : decode cX7_start 49 = .ok (.iconst 3, 1) := by decide +kernel
theorem dX7_start_50 : decode cX7_start 50 = .ok (.if_icmp .ge 56, 3) := by decide +kernel
theorem dX7_start_53 : decode cX7_start 53 = .ok (.aload_n 0, 1) := by decide +kernel
theorem dX7_start_54 : decode cX7_start 54 = .ok (.getfield 21, 3) := by decide +kernel
theorem dX7_start_57 : decode cX7_start 57 = .ok (.iload 4, 2) := by decide +kernel
theorem dX7_start_59 : decode cX7_start 59 = .ok (.iload 4, 2) := by decide +kernel
theorem dX7_start_61 : decode cX7_start 61 = .ok (.ifCond .ne 7, 3) := by decide +kernel
theorem dX7_start_64 : decode cX7_start 64 = .ok (.iconst 1, 1) := by decide +kernel
theorem dX7_start_65 : decode cX7_start 65 = .ok (.goto 4, 3) := by decide +kernel
theorem dX7_start_68 : decode cX7_start 68 = .ok (.iconst 2, 1) := by decide +kernel
theorem dX7_start_69 : decode cX7_start 69 = .ok (.iastore, 1) := by decide +kernel
theorem dX7_start_70 : decode cX7_start 70 = .ok (.aload_n 0, 1) := by decide +kernel
theorem dX7_start_71 : decode cX7_start 71 = .ok (.getfield 24, 3) := by decide +kernel
theorem dX7_start_74 : decode cX7_start 74 = .ok (.iload 4, 2) := by decide +kernel
theorem dX7_start_76 : decode cX7_start 76 = .ok (.iload 4, 2) := by decide +kernel
theorem dX7_start_78 : decode cX7_start 78 = .ok (.ifCond .ne 8, 3) := by decide +kernel
theorem dX7_start_81 : decode cX7_start 81 = .ok (.iload_n 1, 1) := by decide +kernel
theorem dX7_start_82 : decode cX7_start 82 = .ok (.i2l, 1) := by decide +kernel
theorem dX7_start_83 : decode cX7_start 83 = .ok (.goto 16, 3) := by decide +kernel
theorem dX7_start_86 : decode cX7_start 86 = .ok (.iload 4, 2) := by decide +kernel
theorem dX7_start_88 : decode cX7_start 88 = .ok (.iconst 1, 1) := by decide +kernel
theorem dX7_start_89 : decode cX7_start 89 = .ok (.if_icmp .ne 8, 3) := by decide +kernel
theorem dX7_start_92 : decode cX7_start 92 = .ok (.iload_n 2, 1) := by decide +kernel
theorem dX7_start_93 : decode cX7_start 93 = .ok (.i2l, 1) := by decide +kernel
theorem dX7_start_94 : decode cX7_start 94 = .ok (.goto 5, 3) := by decide +kernel
theorem dX7_start_97 : decode cX7_start 97 = .ok (.iload_n 3, 1) := by decide +kernel
theorem dX7_start_98 : decode cX7_start 98 = .ok (.i2l, 1) := by decide +kernel
theorem dX7_start_99 : decode cX7_start 99 = .ok (.lastore, 1) := by decide +kernel
theorem dX7_start_100 : decode cX7_start 100 = .ok (.iinc 4 1, 3) := by decide +kernel
theorem dX7_start_103 : decode cX7_start 103 = .ok (.goto (-56), 3) := by decide +kernel
theorem dX7_start_106 : decode cX7_start 106 = .ok (.aload_n 0, 1) := by decide +kernel
theorem dX7_start_107 : decode cX7_start 107 = .ok (.iconst 0, 1) := by decide +kernel
theorem dX7_start_108 : decode cX7_start 108 = .ok (.putfield 184, 3) := by decide +kernel
theorem dX7_start_111 : decode cX7_start 111 = .ok (.aload_n 0, 1) := by decide +kernel
theorem dX7_start_112 : decode cX7_start 112 = .ok (.iconst 0, 1) := by decide +kernel
theorem dX7_start_113 : decode cX7_start 113 = .ok (.putfield 181, 3) := by decide +kernel
theorem dX7_start_116 : decode cX7_start 116 = .ok (.return_, 1) := by decide +kernel
theorem dX7_failure_0 : decode cX7_failure 0 = .ok (.aload_n 0, 1) := by decide +kernel
theorem dX7_failure_1 : decode cX7_failure 1 = .ok (.iconst 0, 1) := by decide +kernel
theorem dX7_failure_2 : decode cX7_failure 2 = .ok (.putfield 33, 3) := by decide +kernel
theorem dX7_failure_5 : decode cX7_failure 5 = .ok (.aload_n 0, 1) := by decide +kernel
theorem dX7_failure_6 : decode cX7_failure 6 = .ok (.getfield 181, 3) := by decide +kernel
theorem dX7_failure_9 : decode cX7_failure 9 = .ok (.ireturn, 1) := by decide +kernel
set_option maxRecDepth 20000 in
theorem ggX7_register_X7_out : GoodIn wsX7_register wsX7_out := goodIn_r _ [6] (by decide +kernel) (by decide +kernel)
set_option maxRecDepth 20000 in
theorem gX7_register_X7_out : GoodIn wsX7_register (va_wsS RX7 187 yX7_out wsX7_out) := goodIn_app (goodIn_of _ (by decide +kernel)) ggX7_register_X7_out
set_option maxRecDepth 20000 in
theorem ggX7_register_X7_throwing : GoodIn wsX7_register wsX7_throwing := goodIn_r _ [10, 11, 12, 13, 14, 15, 16, 17, 18, 19, 20, 21, 22, 23, 24, 25, 26] (by decide +kernel) (by decide +kernel)
set_option maxRecDepth 20000 in
theorem gX7_register_X7_throwing : GoodIn wsX7_register (wsV RX7 191 RX7 yX7_throwing wsX7_throwing) := goodIn_app (goodIn_of _ (by decide +kernel)) ggX7_register_X7_throwing
theorem dX7_register_0 : decode cX7_register 0 = .ok (.aload_n 0, 1) := by decide +kernel
theorem dX7_register_1 : decode cX7_register 1 = .ok (.iload_n 1, 1) := by decide +kernel
theorem dX7_register_2 : decode cX7_register 2 = .ok (.iconst 0, 1) := by decide +kernel
theorem dX7_register_3 : decode cX7_register 3 = .ok (.iconst 2, 1) := by decide +kernel
theorem dX7_register_4 : decode cX7_register 4 = .ok (.invokestatic 187, 3) := by decide +kernel
theorem dX7_register_7 : decode cX7_register 7 = .ok (.iconst 0, 1) := by decide +kernel
theorem dX7_register_8 : decode cX7_register 8 = .ok (.invokevirtual 191, 3) := by decide +kernel
theorem dX7_register_11 : decode cX7_register 11 = .ok (.ifCond .eq 5, 3) := by decide +kernel
theorem dX7_register_14 : decode cX7_register 14 = .ok (.iconst 0, 1) := by decide +kernel
theorem dX7_register_15 : decode cX7_register 15 = .ok (.ireturn, 1) := by decide +kernel
theorem dX7_register_16 : decode cX7_register 16 = .ok (.iload_n 2, 1) := by decide +kernel
theorem dX7_register_17 : decode cX7_register 17 = .ok (.ifCond .eq 13, 3) := by decide +kernel
theorem dX7_register_20 : decode cX7_register 20 = .ok (.aload_n 0, 1) := by decide +kernel
theorem dX7_register_21 : decode cX7_register 21 = .ok (.getfield 24, 3) := by decide +kernel
theorem dX7_register_24 : decode cX7_register 24 = .ok (.iload_n 1, 1) := by decide +kernel
theorem dX7_register_25 : decode cX7_register 25 = .ok (.laload, 1) := by decide +kernel
theorem dX7_register_26 : decode cX7_register 26 = .ok (.l2i, 1) := by decide +kernel
theorem dX7_register_27 : decode cX7_register 27 = .ok (.goto 9, 3) := by decide +kernel
theorem dX7_register_30 : decode cX7_register 30 = .ok (.aload_n 0, 1) := by decide +kernel
theorem dX7_register_31 : decode cX7_register 31 = .ok (.getfield 21, 3) := by decide +kernel
theorem dX7_register_34 : decode cX7_register 34 = .ok (.iload_n 1, 1) := by decide +kernel
theorem dX7_register_35 : decode cX7_register 35 = .ok (.iaload, 1) := by decide +kernel
theorem dX7_register_36 : decode cX7_register 36 = .ok (.ireturn, 1) := by decide +kernel
set_option maxRecDepth 20000 in
theorem ggX7_hidden_X7_out : GoodIn wsX7_hidden wsX7_out := goodIn_r _ [5] (by decide +kernel) (by decide +kernel)
set_option maxRecDepth 20000 in
theorem gX7_hidden_X7_out : GoodIn wsX7_hidden (va_wsS RX7 187 yX7_out wsX7_out) := goodIn_app (goodIn_of _ (by decide +kernel)) ggX7_hidden_X7_out
set_option maxRecDepth 20000 in
theorem ggX7_hidden_X7_throwing : GoodIn wsX7_hidden wsX7_throwing := goodIn_r _ [9, 10, 11, 12, 13, 14, 15, 16, 17, 18, 19, 20, 21, 22, 23, 24, 25] (by decide +kernel) (by decide +kernel)
set_option maxRecDepth 20000 in
theorem gX7_hidden_X7_throwing : GoodIn wsX7_hidden (wsV RX7 191 RX7 yX7_throwing wsX7_throwing) := goodIn_app (goodIn_of _ (by decide +kernel)) ggX7_hidden_X7_throwing
theorem dX7_hidden_0 : decode cX7_hidden 0 = .ok (.iload_n 1, 1) := by decide +kernel
theorem dX7_hidden_1 : decode cX7_hidden 1 = .ok (.iconst 1, 1) := by decide +kernel
theorem dX7_hidden_2 : decode cX7_hidden 2 = .ok (.iconst 5, 1) := by decide +kernel
theorem dX7_hidden_3 : decode cX7_hidden 3 = .ok (.invokestatic 187, 3) := by decide +kernel
theorem dX7_hidden_6 : decode cX7_hidden 6 = .ok (.ifCond .ne 13, 3) := by decide +kernel
theorem dX7_hidden_9 : decode cX7_hidden 9 = .ok (.iload_n 2, 1) := by decide +kernel
theorem dX7_hidden_10 : decode cX7_hidden 10 = .ok (.iconst 0, 1) := by decide +kernel
theorem dX7_hidden_11 : decode cX7_hidden 11 = .ok (.bipush 63, 2) := by decide +kernel
theorem dX7_hidden_13 : decode cX7_hidden 13 = .ok (.invokestatic 187, 3) := by decide +kernel
theorem dX7_hidden_16 : decode cX7_hidden 16 = .ok (.ifCond .eq 7, 3) := by decide +kernel
theorem dX7_hidden_19 : decode cX7_hidden 19 = .ok (.iconst 1, 1) := by decide +kernel
theorem dX7_hidden_20 : decode cX7_hidden 20 = .ok (.goto 4, 3) := by decide +kernel
theorem dX7_hidden_23 : decode cX7_hidden 23 = .ok (.iconst 0, 1) := by decide +kernel
theorem dX7_hidden_24 : decode cX7_hidden 24 = .ok (.istore_n 3, 1) := by decide +kernel
theorem dX7_hidden_25 : decode cX7_hidden 25 = .ok (.aload_n 0, 1) := by decide +kernel
theorem dX7_hidden_26 : decode cX7_hidden 26 = .ok (.iload_n 3, 1) := by decide +kernel
theorem dX7_hidden_27 : decode cX7_hidden 27 = .ok (.iload_n 3, 1) := by decide +kernel
theorem dX7_hidden_28 : decode cX7_hidden 28 = .ok (.ifCond .ne 21, 3) := by decide +kernel
theorem dX7_hidden_31 : decode cX7_hidden 31 = .ok (.aload_n 0, 1) := by decide +kernel
theorem dX7_hidden_32 : decode cX7_hidden 32 = .ok (.getfield 7, 3) := by decide +kernel
theorem dX7_hidden_35 : decode cX7_hidden 35 = .ok (.bipush 64, 2) := by decide +kernel
theorem dX7_hidden_37 : decode cX7_hidden 37 = .ok (.iload_n 1, 1) := by decide +kernel
theorem dX7_hidden_38 : decode cX7_hidden 38 = .ok (.imul, 1) := by decide +kernel
theorem dX7_hidden_39 : decode cX7_hidden 39 = .ok (.iload_n 2, 1) := by decide +kernel
theorem dX7_hidden_40 : decode cX7_hidden 40 = .ok (.iadd, 1) := by decide +kernel
theorem dX7_hidden_41 : decode cX7_hidden 41 = .ok (.baload, 1) := by decide +kernel
theorem dX7_hidden_42 : decode cX7_hidden 42 = .ok (.ifCond .ne 7, 3) := by decide +kernel
theorem dX7_hidden_45 : decode cX7_hidden 45 = .ok (.iconst 1, 1) := by decide +kernel
theorem dX7_hidden_46 : decode cX7_hidden 46 = .ok (.goto 4, 3) := by decide +kernel
theorem dX7_hidden_49 : decode cX7_hidden 49 = .ok (.iconst 0, 1) := by decide +kernel
theorem dX7_hidden_50 : decode cX7_hidden 50 = .ok (.invokevirtual 191, 3) := by decide +kernel
theorem dX7_hidden_53 : decode cX7_hidden 53 = .ok (.ireturn, 1) := by decide +kernel
set_option maxRecDepth 20000 in
theorem ggX7_segment_X7_hidden : GoodIn wsX7_segment wsX7_hidden := goodIn_r _ [6, 7, 8, 9, 5, 10, 11, 12, 13, 14, 15, 16, 17, 18, 19, 20, 21, 22, 23, 24, 25, 26, 27, 28, 29, 30] (by decide +kernel) (by decide +kernel)
set_option maxRecDepth 20000 in
theorem gX7_segment_X7_hidden : GoodIn wsX7_segment (wsV RX7 203 RX7 yX7_hidden wsX7_hidden) := goodIn_app (goodIn_of _ (by decide +kernel)) ggX7_segment_X7_hidden
theorem dX7_segment_0 : decode cX7_segment 0 = .ok (.aload_n 0, 1) := by decide +kernel
theorem dX7_segment_1 : decode cX7_segment 1 = .ok (.iload_n 1, 1) := by decide +kernel
theorem dX7_segment_2 : decode cX7_segment 2 = .ok (.iload_n 2, 1) := by decide +kernel
theorem dX7_segment_3 : decode cX7_segment 3 = .ok (.invokevirtual 203, 3) := by decide +kernel
theorem dX7_segment_6 : decode cX7_segment 6 = .ok (.ifCond .eq 7, 3) := by decide +kernel
theorem dX7_segment_9 : decode cX7_segment 9 = .ok (.iconst 0, 1) := by decide +kernel
theorem dX7_segment_10 : decode cX7_segment 10 = .ok (.goto 14, 3) := by decide +kernel
theorem dX7_segment_13 : decode cX7_segment 13 = .ok (.aload_n 0, 1) := by decide +kernel
theorem dX7_segment_14 : decode cX7_segment 14 = .ok (.getfield 13, 3) := by decide +kernel
theorem dX7_segment_17 : decode cX7_segment 17 = .ok (.bipush 64, 2) := by decide +kernel
theorem dX7_segment_19 : decode cX7_segment 19 = .ok (.iload_n 1, 1) := by decide +kernel
theorem dX7_segment_20 : decode cX7_segment 20 = .ok (.imul, 1) := by decide +kernel
theorem dX7_segment_21 : decode cX7_segment 21 = .ok (.iload_n 2, 1) := by decide +kernel
theorem dX7_segment_22 : decode cX7_segment 22 = .ok (.iadd, 1) := by decide +kernel
theorem dX7_segment_23 : decode cX7_segment 23 = .ok (.iaload, 1) := by decide +kernel
theorem dX7_segment_24 : decode cX7_segment 24 = .ok (.ireturn, 1) := by decide +kernel
set_option maxRecDepth 20000 in
theorem ggX7_value_X7_hidden : GoodIn wsX7_value wsX7_hidden := goodIn_r _ [6, 7, 8, 9, 5, 10, 11, 12, 13, 14, 15, 16, 17, 18, 19, 20, 21, 22, 23, 24, 25, 26, 27, 28, 29, 30] (by decide +kernel) (by decide +kernel)
set_option maxRecDepth 20000 in
theorem gX7_value_X7_hidden : GoodIn wsX7_value (wsV RX7 203 RX7 yX7_hidden wsX7_hidden) := goodIn_app (goodIn_of _ (by decide +kernel)) ggX7_value_X7_hidden
theorem dX7_value_0 : decode cX7_value 0 = .ok (.aload_n 0, 1) := by decide +kernel
theorem dX7_value_1 : decode cX7_value 1 = .ok (.iload_n 1, 1) := by decide +kernel
theorem dX7_value_2 : decode cX7_value 2 = .ok (.iload_n 2, 1) := by decide +kernel
theorem dX7_value_3 : decode cX7_value 3 = .ok (.invokevirtual 203, 3) := by decide +kernel
theorem dX7_value_6 : decode cX7_value 6 = .ok (.ifCond .eq 7, 3) := by decide +kernel
theorem dX7_value_9 : decode cX7_value 9 = .ok (.lconst 0, 1) := by decide +kernel
theorem dX7_value_10 : decode cX7_value 10 = .ok (.goto 14, 3) := by decide +kernel
theorem dX7_value_13 : decode cX7_value 13 = .ok (.aload_n 0, 1) := by decide +kernel
theorem dX7_value_14 : decode cX7_value 14 = .ok (.getfield 17, 3) := by decide +kernel
theorem dX7_value_17 : decode cX7_value 17 = .ok (.bipush 64, 2) := by decide +kernel
theorem dX7_value_19 : decode cX7_value 19 = .ok (.iload_n 1, 1) := by decide +kernel
theorem dX7_value_20 : decode cX7_value 20 = .ok (.imul, 1) := by decide +kernel
theorem dX7_value_21 : decode cX7_value 21 = .ok (.iload_n 2, 1) := by decide +kernel
theorem dX7_value_22 : decode cX7_value 22 = .ok (.iadd, 1) := by decide +kernel
theorem dX7_value_23 : decode cX7_value 23 = .ok (.laload, 1) := by decide +kernel
theorem dX7_value_24 : decode cX7_value 24 = .ok (.lreturn, 1) := by decide +kernel
theorem dX7_rows_0 : decode cX7_rows 0 = .ok (.aload_n 0, 1) := by decide +kernel
theorem dX7_rows_1 : decode cX7_rows 1 = .ok (.iconst 0, 1) := by decide +kernel
theorem dX7_rows_2 : decode cX7_rows 2 = .ok (.putfield 33, 3) := by decide +kernel
theorem dX7_rows_5 : decode cX7_rows 5 = .ok (.aload_n 0, 1) := by decide +kernel
theorem dX7_rows_6 : decode cX7_rows 6 = .ok (.getfield 184, 3) := by decide +kernel
theorem dX7_rows_9 : decode cX7_rows 9 = .ok (.ireturn, 1) := by decide +kernel
theorem dX7_beginOf_0 : decode cX7_beginOf 0 = .ok (.iconst 1, 1) := by decide +kernel
theorem dX7_beginOf_1 : decode cX7_beginOf 1 = .ok (.istore_n 2, 1) := by decide +kernel
theorem dX7_beginOf_2 : decode cX7_beginOf 2 = .ok (.iconst 1, 1) := by decide +kernel
theorem dX7_beginOf_3 : decode cX7_beginOf 3 = .ok (.istore_n 3, 1) := by decide +kernel
theorem dX7_beginOf_4 : decode cX7_beginOf 4 = .ok (.iload_n 3, 1) := by decide +kernel
theorem dX7_beginOf_5 : decode cX7_beginOf 5 = .ok (.iload_n 1, 1) := by decide +kernel
theorem dX7_beginOf_6 : decode cX7_beginOf 6 = .ok (.if_icmp .ge 59, 3) := by decide +kernel
theorem dX7_beginOf_9 : decode cX7_beginOf 9 = .ok (.iconst 0, 1) := by decide +kernel
theorem dX7_beginOf_10 : decode cX7_beginOf 10 = .ok (.istore 4, 2) := by decide +kernel
theorem dX7_beginOf_12 : decode cX7_beginOf 12 = .ok (.iconst 0, 1) := by decide +kernel
theorem dX7_beginOf_13 : decode cX7_beginOf 13 = .ok (.istore 5, 2) := by decide +kernel
theorem dX7_beginOf_15 : decode cX7_beginOf 15 = .ok (.iload 5, 2) := by decide +kernel
theorem dX7_beginOf_17 : decode cX7_beginOf 17 = .ok (.bipush 64, 2) := by decide +kernel
theorem dX7_beginOf_19 : decode cX7_beginOf 19 = .ok (.if_icmp .ge 35, 3) := by decide +kernel
theorem dX7_beginOf_22 : decode cX7_beginOf 22 = .ok (.aload_n 0, 1) := by decide +kernel
theorem dX7_beginOf_23 : decode cX7_beginOf 23 = .ok (.getfield 7, 3) := by decide +kernel
theorem dX7_beginOf_26 : decode cX7_beginOf 26 = .ok (.bipush 64, 2) := by decide +kernel
theorem dX7_beginOf_28 : decode cX7_beginOf 28 = .ok (.iload_n 3, 1) := by decide +kernel
theorem dX7_beginOf_29 : decode cX7_beginOf 29 = .ok (.imul, 1) := by decide +kernel
theorem dX7_beginOf_30 : decode cX7_beginOf 30 = .ok (.iload 5, 2) := by decide +kernel
theorem dX7_beginOf_32 : decode cX7_beginOf 32 = .ok (.iadd, 1) := by decide +kernel
theorem dX7_beginOf_33 : decode cX7_beginOf 33 = .ok (.baload, 1) := by decide +kernel
theorem dX7_beginOf_34 : decode cX7_beginOf 34 = .ok (.ifCond .eq 10, 3) := by decide +kernel
theorem dX7_beginOf_37 : decode cX7_beginOf 37 = .ok (.iload 5, 2) := by decide +kernel
theorem dX7_beginOf_39 : decode cX7_beginOf 39 = .ok (.iconst 1, 1) := by decide +kernel
theorem dX7_beginOf_40 : decode cX7_beginOf 40 = .ok (.iadd, 1) := by decide +kernel
theorem dX7_beginOf_41 : decode cX7_beginOf 41 = .ok (.goto 5, 3) := by decide +kernel
theorem dX7_beginOf_44 : decode cX7_beginOf 44 = .ok (.iload 4, 2) := by decide +kernel
theorem dX7_beginOf_46 : decode cX7_beginOf 46 = .ok (.istore 4, 2) := by decide +kernel
theorem dX7_beginOf_48 : decode cX7_beginOf 48 = .ok (.iinc 5 1, 3) := by decide +kernel
theorem dX7_beginOf_51 : decode cX7_beginOf 51 = .ok (.goto (-36), 3) := by decide +kernel
theorem dX7_beginOf_54 : decode cX7_beginOf 54 = .ok (.iload_n 2, 1) := by decide +kernel
theorem dX7_beginOf_55 : decode cX7_beginOf 55 = .ok (.iload 4, 2) := by decide +kernel
theorem dX7_beginOf_57 : decode cX7_beginOf 57 = .ok (.iadd, 1) := by decide +kernel
theorem dX7_beginOf_58 : decode cX7_beginOf 58 = .ok (.istore_n 2, 1) := by decide +kernel
theorem dX7_beginOf_59 : decode cX7_beginOf 59 = .ok (.iinc 3 1, 3) := by decide +kernel
theorem dX7_beginOf_62 : decode cX7_beginOf 62 = .ok (.goto (-58), 3) := by decide +kernel
theorem dX7_beginOf_65 : decode cX7_beginOf 65 = .ok (.iload_n 2, 1) := by decide +kernel
theorem dX7_beginOf_66 : decode cX7_beginOf 66 = .ok (.ireturn, 1) := by decide +kernel
set_option maxRecDepth 20000 in
theorem ggX7_moved_X7_beginOf : GoodIn wsX7_moved wsX7_beginOf := goodIn_r _ [5, 6, 11, 12, 13, 14, 15, 16, 17, 18, 19, 20, 21, 22, 23, 24, 25] (by decide +kernel) (by decide +kernel)
set_option maxRecDepth 20000 in
theorem gX7_moved_X7_beginOf : GoodIn wsX7_moved (wsV RX7 207 RX7 yX7_beginOf wsX7_beginOf) := goodIn_app (goodIn_of _ (by decide +kernel)) ggX7_moved_X7_beginOf
set_option maxRecDepth 20000 in
theorem ggX7_moved_X7_modulo : GoodIn wsX7_moved wsX7_modulo := goodIn_r _ [9, 10] (by decide +kernel) (by decide +kernel)
set_option maxRecDepth 20000 in
theorem gX7_moved_X7_modulo : GoodIn wsX7_moved (va_wsS RX7 39 yX7_modulo wsX7_modulo) := goodIn_app (goodIn_of _ (by decide +kernel)) ggX7_moved_X7_modulo
theorem dX7_moved_0 : decode cX7_moved 0 = .ok (.iload_n 1, 1) := by decide +kernel
theorem dX7_moved_1 : decode cX7_moved 1 = .ok (.ifCond .ne 7, 3) := by decide +kernel
theorem dX7_moved_4 : decode cX7_moved 4 = .ok (.lload_n 2, 1) := by decide +kernel
theorem dX7_moved_5 : decode cX7_moved 5 = .ok (.goto 14, 3) := by decide +kernel
theorem dX7_moved_8 : decode cX7_moved 8 = .ok (.aload_n 0, 1) := by decide +kernel
theorem dX7_moved_9 : decode cX7_moved 9 = .ok (.iload_n 1, 1) := by decide +kernel
theorem dX7_moved_10 : decode cX7_moved 10 = .ok (.invokevirtual 207, 3) := by decide +kernel
theorem dX7_moved_13 : decode cX7_moved 13 = .ok (.i2l, 1) := by decide +kernel
theorem dX7_moved_14 : decode cX7_moved 14 = .ok (.lload_n 2, 1) := by decide +kernel
theorem dX7_moved_15 : decode cX7_moved 15 = .ok (.ladd, 1) := by decide +kernel
theorem dX7_moved_16 : decode cX7_moved 16 = .ok (.invokestatic 39, 3) := by decide +kernel
theorem dX7_moved_19 : decode cX7_moved 19 = .ok (.lreturn, 1) := by decide +kernel
set_option maxRecDepth 20000 in
theorem ggX7_traced_X7_out : GoodIn wsX7_traced wsX7_out := goodIn_r _ [7] (by decide +kernel) (by decide +kernel)
set_option maxRecDepth 20000 in
theorem gX7_traced_X7_out : GoodIn wsX7_traced (va_wsS RX7 187 yX7_out wsX7_out) := goodIn_app (goodIn_of _ (by decide +kernel)) ggX7_traced_X7_out
set_option maxRecDepth 20000 in
theorem ggX7_traced_X7_throwing : GoodIn wsX7_traced wsX7_throwing := goodIn_r _ [11, 12, 26, 27, 28, 29, 30, 31, 32, 33, 34, 35, 36, 37, 38, 39, 40] (by decide +kernel) (by decide +kernel)
set_option maxRecDepth 20000 in
theorem gX7_traced_X7_throwing : GoodIn wsX7_traced (wsV RX7 191 RX7 yX7_throwing wsX7_throwing) := goodIn_app (goodIn_of _ (by decide +kernel)) ggX7_traced_X7_throwing
set_option maxRecDepth 20000 in
theorem ggX7_traced_X7_moved : GoodIn wsX7_traced wsX7_moved := goodIn_r _ [16, 17, 18, 19, 6, 20, 21, 22, 23, 24, 25, 26, 27, 28, 29, 30, 31, 32, 33, 34, 35, 36, 37, 38, 39, 40] (by decide +kernel) (by decide +kernel)
set_option maxRecDepth 20000 in
theorem gX7_traced_X7_moved : GoodIn wsX7_traced (wsV RX7 211 RX7 yX7_moved wsX7_moved) := goodIn_app (goodIn_of _ (by decide +kernel)) ggX7_traced_X7_moved
theorem dX7_traced_0 : decode cX7_traced 0 = .ok (.aload_n 0, 1) := by decide +kernel
theorem dX7_traced_1 : decode cX7_traced 1 = .ok (.iload_n 2, 1) := by decide +kernel
theorem dX7_traced_2 : decode cX7_traced 2 = .ok (.iconst 0, 1) := by decide +kernel
theorem dX7_traced_3 : decode cX7_traced 3 = .ok (.iconst 2, 1) := by decide +kernel
theorem dX7_traced_4 : decode cX7_traced 4 = .ok (.invokestatic 187, 3) := by decide +kernel
theorem dX7_traced_7 : decode cX7_traced 7 = .ok (.iload_n 1, 1) := by decide +kernel
theorem dX7_traced_8 : decode cX7_traced 8 = .ok (.iconst 0, 1) := by decide +kernel
theorem dX7_traced_9 : decode cX7_traced 9 = .ok (.aload_n 0, 1) := by decide +kernel
theorem dX7_traced_10 : decode cX7_traced 10 = .ok (.getfield 184, 3) := by decide +kernel
theorem dX7_traced_13 : decode cX7_traced 13 = .ok (.iconst 1, 1) := by decide +kernel
theorem dX7_traced_14 : decode cX7_traced 14 = .ok (.isub, 1) := by decide +kernel
theorem dX7_traced_15 : decode cX7_traced 15 = .ok (.invokestatic 187, 3) := by decide +kernel
theorem dX7_traced_18 : decode cX7_traced 18 = .ok (.invokevirtual 191, 3) := by decide +kernel
theorem dX7_traced_21 : decode cX7_traced 21 = .ok (.ifCond .eq 5, 3) := by decide +kernel
theorem dX7_traced_24 : decode cX7_traced 24 = .ok (.lconst 0, 1) := by decide +kernel
theorem dX7_traced_25 : decode cX7_traced 25 = .ok (.lreturn, 1) := by decide +kernel
theorem dX7_traced_26 : decode cX7_traced 26 = .ok (.aload_n 0, 1) := by decide +kernel
theorem dX7_traced_27 : decode cX7_traced 27 = .ok (.aload_n 0, 1) := by decide +kernel
theorem dX7_traced_28 : decode cX7_traced 28 = .ok (.getfield 27, 3) := by decide +kernel
theorem dX7_traced_31 : decode cX7_traced 31 = .ok (.iconst 3, 1) := by decide +kernel
theorem dX7_traced_32 : decode cX7_traced 32 = .ok (.iload_n 1, 1) := by decide +kernel
theorem dX7_traced_33 : decode cX7_traced 33 = .ok (.imul, 1) := by decide +kernel
theorem dX7_traced_34 : decode cX7_traced 34 = .ok (.iload_n 2, 1) := by decide +kernel
theorem dX7_traced_35 : decode cX7_traced 35 = .ok (.iadd, 1) := by decide +kernel
theorem dX7_traced_36 : decode cX7_traced 36 = .ok (.iaload, 1) := by decide +kernel
theorem dX7_traced_37 : decode cX7_traced 37 = .ok (.aload_n 0, 1) := by decide +kernel
theorem dX7_traced_38 : decode cX7_traced 38 = .ok (.getfield 30, 3) := by decide +kernel
theorem dX7_traced_41 : decode cX7_traced 41 = .ok (.iconst 3, 1) := by decide +kernel
theorem dX7_traced_42 : decode cX7_traced 42 = .ok (.iload_n 1, 1) := by decide +kernel
theorem dX7_traced_43 : decode cX7_traced 43 = .ok (.imul, 1) := by decide +kernel
theorem dX7_traced_44 : decode cX7_traced 44 = .ok (.iload_n 2, 1) := by decide +kernel
theorem dX7_traced_45 : decode cX7_traced 45 = .ok (.iadd, 1) := by decide +kernel
theorem dX7_traced_46 : decode cX7_traced 46 = .ok (.laload, 1) := by decide +kernel
theorem dX7_traced_47 : decode cX7_traced 47 = .ok (.invokevirtual 211, 3) := by decide +kernel
theorem dX7_traced_50 : decode cX7_traced 50 = .ok (.lreturn, 1) := by decide +kernel
set_option maxRecDepth 20000 in
theorem ggX7_begins_X7_out : GoodIn wsX7_begins wsX7_out := goodIn_r _ [4] (by decide +kernel) (by decide +kernel)
set_option maxRecDepth 20000 in
theorem gX7_begins_X7_out : GoodIn wsX7_begins (va_wsS RX7 187 yX7_out wsX7_out) := goodIn_app (goodIn_of _ (by decide +kernel)) ggX7_begins_X7_out
set_option maxRecDepth 20000 in
theorem ggX7_begins_X7_throwing : GoodIn wsX7_begins wsX7_throwing := goodIn_r _ [8, 9, 15, 16, 17, 18, 19, 20, 21, 22, 23, 24, 25, 26, 27, 28, 29] (by decide +kernel) (by decide +kernel)
set_option maxRecDepth 20000 in
theorem gX7_begins_X7_throwing : GoodIn wsX7_begins (wsV RX7 191 RX7 yX7_throwing wsX7_throwing) := goodIn_app (goodIn_of _ (by decide +kernel)) ggX7_begins_X7_throwing
set_option maxRecDepth 20000 in
theorem ggX7_begins_X7_beginOf : GoodIn wsX7_begins wsX7_beginOf := goodIn_r _ [13, 14, 15, 16, 17, 18, 19, 20, 21, 22, 23, 24, 25, 26, 27, 28, 29] (by decide +kernel) (by decide +kernel)
set_option maxRecDepth 20000 in
theorem gX7_begins_X7_beginOf : GoodIn wsX7_begins (wsV RX7 207 RX7 yX7_beginOf wsX7_beginOf) := goodIn_app (goodIn_of _ (by decide +kernel)) ggX7_begins_X7_beginOf
theorem dX7_begins_0 : decode cX7_begins 0 = .ok (.aload_n 0, 1) := by decide +kernel
theorem dX7_begins_1 : decode cX7_begins 1 = .ok (.iload_n 1, 1) := by decide +kernel
theorem dX7_begins_2 : decode cX7_begins 2 = .ok (.iconst 1, 1) := by decide +kernel
theorem dX7_begins_3 : decode cX7_begins 3 = .ok (.bipush 6, 2) := by decide +kernel
theorem dX7_begins_5 : decode cX7_begins 5 = .ok (.invokestatic 187, 3) := by decide +kernel
theorem dX7_begins_8 : decode cX7_begins 8 = .ok (.iconst 0, 1) := by decide +kernel
theorem dX7_begins_9 : decode cX7_begins 9 = .ok (.invokevirtual 191, 3) := by decide +kernel
theorem dX7_begins_12 : decode cX7_begins 12 = .ok (.ifCond .eq 7, 3) := by decide +kernel
theorem dX7_begins_15 : decode cX7_begins 15 = .ok (.iconst 0, 1) := by decide +kernel
theorem dX7_begins_16 : decode cX7_begins 16 = .ok (.goto 8, 3) := by decide +kernel
theorem dX7_begins_19 : decode cX7_begins 19 = .ok (.aload_n 0, 1) := by decide +kernel
theorem dX7_begins_20 : decode cX7_begins 20 = .ok (.iload_n 1, 1) := by decide +kernel
theorem dX7_begins_21 : decode cX7_begins 21 = .ok (.invokevirtual 207, 3) := by decide +kernel
theorem dX7_begins_24 : decode cX7_begins 24 = .ok (.ireturn, 1) := by decide +kernel
set_option maxRecDepth 20000 in
theorem ggX7_relocated_X7_beginOf : GoodIn wsX7_relocated wsX7_beginOf := goodIn_r _ [8, 1, 25, 26, 27, 28, 29, 30, 31, 32, 33, 34, 35, 36, 37, 38, 39] (by decide +kernel) (by decide +kernel)
set_option maxRecDepth 20000 in
theorem gX7_relocated_X7_beginOf : GoodIn wsX7_relocated (wsV RX7 207 RX7 yX7_beginOf wsX7_beginOf) := goodIn_app (goodIn_of _ (by decide +kernel)) ggX7_relocated_X7_beginOf
set_option maxRecDepth 20000 in
theorem ggX7_relocated_X7_out : GoodIn wsX7_relocated wsX7_out := goodIn_r _ [11] (by decide +kernel) (by decide +kernel)
set_option maxRecDepth 20000 in
theorem gX7_relocated_X7_out : GoodIn wsX7_relocated (va_wsS RX7 187 yX7_out wsX7_out) := goodIn_app (goodIn_of _ (by decide +kernel)) ggX7_relocated_X7_out
set_option maxRecDepth 20000 in
theorem ggX7_relocated_X7_throwing : GoodIn wsX7_relocated wsX7_throwing := goodIn_r _ [15, 16, 25, 26, 27, 28, 29, 30, 31, 32, 33, 34, 35, 36, 37, 38, 39] (by decide +kernel) (by decide +kernel)
set_option maxRecDepth 20000 in
theorem gX7_relocated_X7_throwing : GoodIn wsX7_relocated (wsV RX7 191 RX7 yX7_throwing wsX7_throwing) := goodIn_app (goodIn_of _ (by decide +kernel)) ggX7_relocated_X7_throwing
set_option maxRecDepth 20000 in
theorem ggX7_relocated_X7_moved : GoodIn wsX7_relocated wsX7_moved := goodIn_r _ [20, 4, 5, 6, 7, 8, 1, 21, 22, 23, 24, 25, 26, 27, 28, 29, 30, 31, 32, 33, 34, 35, 36, 37, 38, 39] (by decide +kernel) (by decide +kernel)
set_option maxRecDepth 20000 in
theorem gX7_relocated_X7_moved : GoodIn wsX7_relocated (wsV RX7 211 RX7 yX7_moved wsX7_moved) := goodIn_app (goodIn_of _ (by decide +kernel)) ggX7_relocated_X7_moved
theorem dX7_relocated_0 : decode cX7_relocated 0 = .ok (.aload_n 0, 1) := by decide +kernel
theorem dX7_relocated_1 : decode cX7_relocated 1 = .ok (.iload_n 1, 1) := by decide +kernel
theorem dX7_relocated_2 : decode cX7_relocated 2 = .ok (.iconst 1, 1) := by decide +kernel
theorem dX7_relocated_3 : decode cX7_relocated 3 = .ok (.aload_n 0, 1) := by decide +kernel
theorem dX7_relocated_4 : decode cX7_relocated 4 = .ok (.bipush 6, 2) := by decide +kernel
theorem dX7_relocated_6 : decode cX7_relocated 6 = .ok (.invokevirtual 207, 3) := by decide +kernel
theorem dX7_relocated_9 : decode cX7_relocated 9 = .ok (.iconst 1, 1) := by decide +kernel
theorem dX7_relocated_10 : decode cX7_relocated 10 = .ok (.isub, 1) := by decide +kernel
theorem dX7_relocated_11 : decode cX7_relocated 11 = .ok (.invokestatic 187, 3) := by decide +kernel
theorem dX7_relocated_14 : decode cX7_relocated 14 = .ok (.iconst 0, 1) := by decide +kernel
theorem dX7_relocated_15 : decode cX7_relocated 15 = .ok (.invokevirtual 191, 3) := by decide +kernel
theorem dX7_relocated_18 : decode cX7_relocated 18 = .ok (.ifCond .eq 5, 3) := by decide +kernel
theorem dX7_relocated_21 : decode cX7_relocated 21 = .ok (.lconst 0, 1) := by decide +kernel
theorem dX7_relocated_22 : decode cX7_relocated 22 = .ok (.lreturn, 1) := by decide +kernel
theorem dX7_relocated_23 : decode cX7_relocated 23 = .ok (.iconst 1, 1) := by decide +kernel
theorem dX7_relocated_24 : decode cX7_relocated 24 = .ok (.istore_n 2, 1) := by decide +kernel
theorem dX7_relocated_25 : decode cX7_relocated 25 = .ok (.aload_n 0, 1) := by decide +kernel
theorem dX7_relocated_26 : decode cX7_relocated 26 = .ok (.iload_n 2, 1) := by decide +kernel
theorem dX7_relocated_27 : decode cX7_relocated 27 = .ok (.iconst 1, 1) := by decide +kernel
theorem dX7_relocated_28 : decode cX7_relocated 28 = .ok (.iadd, 1) := by decide +kernel
theorem dX7_relocated_29 : decode cX7_relocated 29 = .ok (.invokevirtual 207, 3) := by decide +kernel
theorem dX7_relocated_32 : decode cX7_relocated 32 = .ok (.iload_n 1, 1) := by decide +kernel
theorem dX7_relocated_33 : decode cX7_relocated 33 = .ok (.if_icmp .gt 9, 3) := by decide +kernel
theorem dX7_relocated_36 : decode cX7_relocated 36 = .ok (.iinc 2 1, 3) := by decide +kernel
theorem dX7_relocated_39 : decode cX7_relocated 39 = .ok (.goto (-14), 3) := by decide +kernel
theorem dX7_relocated_42 : decode cX7_relocated 42 = .ok (.bipush 64, 2) := by decide +kernel
theorem dX7_relocated_44 : decode cX7_relocated 44 = .ok (.iload_n 2, 1) := by decide +kernel
theorem dX7_relocated_45 : decode cX7_relocated 45 = .ok (.imul, 1) := by decide +kernel
theorem dX7_relocated_46 : decode cX7_relocated 46 = .ok (.iload_n 1, 1) := by decide +kernel
theorem dX7_relocated_47 : decode cX7_relocated 47 = .ok (.iadd, 1) := by decide +kernel
theorem dX7_relocated_48 : decode cX7_relocated 48 = .ok (.aload_n 0, 1) := by decide +kernel
theorem dX7_relocated_49 : decode cX7_relocated 49 = .ok (.iload_n 2, 1) := by decide +kernel
theorem dX7_relocated_50 : decode cX7_relocated 50 = .ok (.invokevirtual 207, 3) := by decide +kernel
theorem dX7_relocated_53 : decode cX7_relocated 53 = .ok (.isub, 1) := by decide +kernel
theorem dX7_relocated_54 : decode cX7_relocated 54 = .ok (.istore_n 3, 1) := by decide +kernel
theorem dX7_relocated_55 : decode cX7_relocated 55 = .ok (.aload_n 0, 1) := by decide +kernel
theorem dX7_relocated_56 : decode cX7_relocated 56 = .ok (.getfield 7, 3) := by decide +kernel
theorem dX7_relocated_59 : decode cX7_relocated 59 = .ok (.iload_n 3, 1) := by decide +kernel
theorem dX7_relocated_60 : decode cX7_relocated 60 = .ok (.baload, 1) := by decide +kernel
theorem dX7_relocated_61 : decode cX7_relocated 61 = .ok (.ifCond .eq 22, 3) := by decide +kernel
theorem dX7_relocated_64 : decode cX7_relocated 64 = .ok (.aload_n 0, 1) := by decide +kernel
theorem dX7_relocated_65 : decode cX7_relocated 65 = .ok (.aload_n 0, 1) := by decide +kernel
theorem dX7_relocated_66 : decode cX7_relocated 66 = .ok (.getfield 13, 3) := by decide +kernel
theorem dX7_relocated_69 : decode cX7_relocated 69 = .ok (.iload_n 3, 1) := by decide +kernel
theorem dX7_relocated_70 : decode cX7_relocated 70 = .ok (.iaload, 1) := by decide +kernel
theorem dX7_relocated_71 : decode cX7_relocated 71 = .ok (.aload_n 0, 1) := by decide +kernel
theorem dX7_relocated_72 : decode cX7_relocated 72 = .ok (.getfield 17, 3) := by decide +kernel
theorem dX7_relocated_75 : decode cX7_relocated 75 = .ok (.iload_n 3, 1) := by decide +kernel
theorem dX7_relocated_76 : decode cX7_relocated 76 = .ok (.laload, 1) := by decide +kernel
theorem dX7_relocated_77 : decode cX7_relocated 77 = .ok (.invokevirtual 211, 3) := by decide +kernel
theorem dX7_relocated_80 : decode cX7_relocated 80 = .ok (.goto 4, 3) := by decide +kernel
theorem dX7_relocated_83 : decode cX7_relocated 83 = .ok (.lconst 0, 1) := by decide +kernel
theorem dX7_relocated_84 : decode cX7_relocated 84 = .ok (.lreturn, 1) := by decide +kernel
set_option maxRecDepth 20000 in
theorem ggX7_reckon_X7_out : GoodIn wsX7_reckon wsX7_out := goodIn_r _ [4] (by decide +kernel) (by decide +kernel)
set_option maxRecDepth 20000 in
theorem gX7_reckon_X7_out : GoodIn wsX7_reckon (va_wsS RX7 187 yX7_out wsX7_out) := goodIn_app (goodIn_of _ (by decide +kernel)) ggX7_reckon_X7_out
set_option maxRecDepth 20000 in
theorem ggX7_reckon_X7_modulo : GoodIn wsX7_reckon wsX7_modulo := goodIn_r _ [7, 8] (by decide +kernel) (by decide +kernel)
set_option maxRecDepth 20000 in
theorem gX7_reckon_X7_modulo : GoodIn wsX7_reckon (va_wsS RX7 39 yX7_modulo wsX7_modulo) := goodIn_app (goodIn_of _ (by decide +kernel)) ggX7_reckon_X7_modulo
set_option maxRecDepth 20000 in
theorem ggX7_reckon_X7_throwing : GoodIn wsX7_reckon wsX7_throwing := goodIn_r _ [12, 13, 23, 24, 25, 26, 27, 28, 29, 30, 31, 32, 33, 34, 35, 36, 37] (by decide +kernel) (by decide +kernel)
set_option maxRecDepth 20000 in
theorem gX7_reckon_X7_throwing : GoodIn wsX7_reckon (wsV RX7 191 RX7 yX7_throwing wsX7_throwing) := goodIn_app (goodIn_of _ (by decide +kernel)) ggX7_reckon_X7_throwing
set_option maxRecDepth 20000 in
theorem ggX7_reckon_X7_operate : GoodIn wsX7_reckon wsX7_operate := goodIn_r _ [16, 5, 6, 3, 7, 8, 17, 18, 19, 20, 21, 22] (by decide +kernel) (by decide +kernel)
set_option maxRecDepth 20000 in
theorem gX7_reckon_X7_operate : GoodIn wsX7_reckon (va_wsS RX7 74 yX7_operate wsX7_operate) := goodIn_app (goodIn_of _ (by decide +kernel)) ggX7_reckon_X7_operate
theorem dX7_reckon_0 : decode cX7_reckon 0 = .ok (.iload_n 1, 1) := by decide +kernel
theorem dX7_reckon_1 : decode cX7_reckon 1 = .ok (.iconst 0, 1) := by decide +kernel
theorem dX7_reckon_2 : decode cX7_reckon 2 = .ok (.iconst 3, 1) := by decide +kernel
theorem dX7_reckon_3 : decode cX7_reckon 3 = .ok (.invokestatic 187, 3) := by decide +kernel
theorem dX7_reckon_6 : decode cX7_reckon 6 = .ok (.istore 6, 2) := by decide +kernel
theorem dX7_reckon_8 : decode cX7_reckon 8 = .ok (.aload_n 0, 1) := by decide +kernel
theorem dX7_reckon_9 : decode cX7_reckon 9 = .ok (.iload 6, 2) := by decide +kernel
theorem dX7_reckon_11 : decode cX7_reckon 11 = .ok (.iload_n 1, 1) := by decide +kernel
theorem dX7_reckon_12 : decode cX7_reckon 12 = .ok (.iconst 3, 1) := by decide +kernel
theorem dX7_reckon_13 : decode cX7_reckon 13 = .ok (.if_icmp .ne 17, 3) := by decide +kernel
theorem dX7_reckon_16 : decode cX7_reckon 16 = .ok (.lload 4, 2) := by decide +kernel
theorem dX7_reckon_18 : decode cX7_reckon 18 = .ok (.invokestatic 39, 3) := by decide +kernel
theorem dX7_reckon_21 : decode cX7_reckon 21 = .ok (.lconst 0, 1) := by decide +kernel
theorem dX7_reckon_22 : decode cX7_reckon 22 = .ok (.lcmp, 1) := by decide +kernel
theorem dX7_reckon_23 : decode cX7_reckon 23 = .ok (.ifCond .ne 7, 3) := by decide +kernel
theorem dX7_reckon_26 : decode cX7_reckon 26 = .ok (.iconst 1, 1) := by decide +kernel
theorem dX7_reckon_27 : decode cX7_reckon 27 = .ok (.goto 4, 3) := by decide +kernel
theorem dX7_reckon_30 : decode cX7_reckon 30 = .ok (.iconst 0, 1) := by decide +kernel
theorem dX7_reckon_31 : decode cX7_reckon 31 = .ok (.invokevirtual 191, 3) := by decide +kernel
theorem dX7_reckon_34 : decode cX7_reckon 34 = .ok (.ifCond .eq 5, 3) := by decide +kernel
theorem dX7_reckon_37 : decode cX7_reckon 37 = .ok (.lconst 0, 1) := by decide +kernel
theorem dX7_reckon_38 : decode cX7_reckon 38 = .ok (.lreturn, 1) := by decide +kernel
theorem dX7_reckon_39 : decode cX7_reckon 39 = .ok (.iload_n 1, 1) := by decide +kernel
theorem dX7_reckon_40 : decode cX7_reckon 40 = .ok (.lload_n 2, 1) := by decide +kernel
theorem dX7_reckon_41 : decode cX7_reckon 41 = .ok (.invokestatic 39, 3) := by decide +kernel
theorem dX7_reckon_44 : decode cX7_reckon 44 = .ok (.lload 4, 2) := by decide +kernel
theorem dX7_reckon_46 : decode cX7_reckon 46 = .ok (.invokestatic 39, 3) := by decide +kernel
theorem dX7_reckon_49 : decode cX7_reckon 49 = .ok (.invokestatic 74, 3) := by decide +kernel
theorem dX7_reckon_52 : decode cX7_reckon 52 = .ok (.lreturn, 1) := by decide +kernel
theorem dJ6_bitCount_0f7a4_0 : decode cJ6_bitCount_0f7a4 0 = .ok (.iload_n 0, 1) := by decide +kernel
theorem dJ6_bitCount_0f7a4_1 : decode cJ6_bitCount_0f7a4 1 = .ok (.iload_n 0, 1) := by decide +kernel
theorem dJ6_bitCount_0f7a4_2 : decode cJ6_bitCount_0f7a4 2 = .ok (.iconst 1, 1) := by decide +kernel
theorem dJ6_bitCount_0f7a4_3 : decode cJ6_bitCount_0f7a4 3 = .ok (.iushr, 1) := by decide +kernel
theorem dJ6_bitCount_0f7a4_4 : decode cJ6_bitCount_0f7a4 4 = .ok (.ldc_w 265, 3) := by decide +kernel
theorem dJ6_bitCount_0f7a4_7 : decode cJ6_bitCount_0f7a4 7 = .ok (.iand, 1) := by decide +kernel
theorem dJ6_bitCount_0f7a4_8 : decode cJ6_bitCount_0f7a4 8 = .ok (.isub, 1) := by decide +kernel
theorem dJ6_bitCount_0f7a4_9 : decode cJ6_bitCount_0f7a4 9 = .ok (.istore_n 0, 1) := by decide +kernel
theorem dJ6_bitCount_0f7a4_10 : decode cJ6_bitCount_0f7a4 10 = .ok (.iload_n 0, 1) := by decide +kernel
theorem dJ6_bitCount_0f7a4_11 : decode cJ6_bitCount_0f7a4 11 = .ok (.ldc_w 266, 3) := by decide +kernel
theorem dJ6_bitCount_0f7a4_14 : decode cJ6_bitCount_0f7a4 14 = .ok (.iand, 1) := by decide +kernel
theorem dJ6_bitCount_0f7a4_15 : decode cJ6_bitCount_0f7a4 15 = .ok (.iload_n 0, 1) := by decide +kernel
theorem dJ6_bitCount_0f7a4_16 : decode cJ6_bitCount_0f7a4 16 = .ok (.iconst 2, 1) := by decide +kernel
theorem dJ6_bitCount_0f7a4_17 : decode cJ6_bitCount_0f7a4 17 = .ok (.iushr, 1) := by decide +kernel
theorem dJ6_bitCount_0f7a4_18 : decode cJ6_bitCount_0f7a4 18 = .ok (.ldc_w 266, 3) := by decide +kernel
theorem dJ6_bitCount_0f7a4_21 : decode cJ6_bitCount_0f7a4 21 = .ok (.iand, 1) := by decide +kernel
theorem dJ6_bitCount_0f7a4_22 : decode cJ6_bitCount_0f7a4 22 = .ok (.iadd, 1) := by decide +kernel
theorem dJ6_bitCount_0f7a4_23 : decode cJ6_bitCount_0f7a4 23 = .ok (.istore_n 0, 1) := by decide +kernel
theorem dJ6_bitCount_0f7a4_24 : decode cJ6_bitCount_0f7a4 24 = .ok (.iload_n 0, 1) := by decide +kernel
theorem dJ6_bitCount_0f7a4_25 : decode cJ6_bitCount_0f7a4 25 = .ok (.iload_n 0, 1) := by decide +kernel
theorem dJ6_bitCount_0f7a4_26 : decode cJ6_bitCount_0f7a4 26 = .ok (.iconst 4, 1) := by decide +kernel
theorem dJ6_bitCount_0f7a4_27 : decode cJ6_bitCount_0f7a4 27 = .ok (.iushr, 1) := by decide +kernel
theorem dJ6_bitCount_0f7a4_28 : decode cJ6_bitCount_0f7a4 28 = .ok (.iadd, 1) := by decide +kernel
theorem dJ6_bitCount_0f7a4_29 : decode cJ6_bitCount_0f7a4 29 = .ok (.ldc_w 267, 3) := by decide +kernel
theorem dJ6_bitCount_0f7a4_32 : decode cJ6_bitCount_0f7a4 32 = .ok (.iand, 1) := by decide +kernel
theorem dJ6_bitCount_0f7a4_33 : decode cJ6_bitCount_0f7a4 33 = .ok (.istore_n 0, 1) := by decide +kernel
theorem dJ6_bitCount_0f7a4_34 : decode cJ6_bitCount_0f7a4 34 = .ok (.iload_n 0, 1) := by decide +kernel
theorem dJ6_bitCount_0f7a4_35 : decode cJ6_bitCount_0f7a4 35 = .ok (.iload_n 0, 1) := by decide +kernel
theorem dJ6_bitCount_0f7a4_36 : decode cJ6_bitCount_0f7a4 36 = .ok (.bipush 8, 2) := by decide +kernel
theorem dJ6_bitCount_0f7a4_38 : decode cJ6_bitCount_0f7a4 38 = .ok (.iushr, 1) := by decide +kernel
theorem dJ6_bitCount_0f7a4_39 : decode cJ6_bitCount_0f7a4 39 = .ok (.iadd, 1) := by decide +kernel
theorem dJ6_bitCount_0f7a4_40 : decode cJ6_bitCount_0f7a4 40 = .ok (.istore_n 0, 1) := by decide +kernel
theorem dJ6_bitCount_0f7a4_41 : decode cJ6_bitCount_0f7a4 41 = .ok (.iload_n 0, 1) := by decide +kernel
theorem dJ6_bitCount_0f7a4_42 : decode cJ6_bitCount_0f7a4 42 = .ok (.iload_n 0, 1) := by decide +kernel
theorem dJ6_bitCount_0f7a4_43 : decode cJ6_bitCount_0f7a4 43 = .ok (.bipush 16, 2) := by decide +kernel
theorem dJ6_bitCount_0f7a4_45 : decode cJ6_bitCount_0f7a4 45 = .ok (.iushr, 1) := by decide +kernel
theorem dJ6_bitCount_0f7a4_46 : decode cJ6_bitCount_0f7a4 46 = .ok (.iadd, 1) := by decide +kernel
theorem dJ6_bitCount_0f7a4_47 : decode cJ6_bitCount_0f7a4 47 = .ok (.istore_n 0, 1) := by decide +kernel
theorem dJ6_bitCount_0f7a4_48 : decode cJ6_bitCount_0f7a4 48 = .ok (.iload_n 0, 1) := by decide +kernel
theorem dJ6_bitCount_0f7a4_49 : decode cJ6_bitCount_0f7a4 49 = .ok (.bipush 63, 2) := by decide +kernel
theorem dJ6_bitCount_0f7a4_51 : decode cJ6_bitCount_0f7a4 51 = .ok (.iand, 1) := by decide +kernel
theorem dJ6_bitCount_0f7a4_52 : decode cJ6_bitCount_0f7a4 52 = .ok (.ireturn, 1) := by decide +kernel
theorem dJ9_floorMod_f86c9_0 : decode cJ9_floorMod_f86c9 0 = .ok (.lload_n 0, 1) := by decide +kernel
theorem dJ9_floorMod_f86c9_1 : decode cJ9_floorMod_f86c9 1 = .ok (.lload_n 2, 1) := by decide +kernel
theorem dJ9_floorMod_f86c9_2 : decode cJ9_floorMod_f86c9 2 = .ok (.lrem, 1) := by decide +kernel
theorem dJ9_floorMod_f86c9_3 : decode cJ9_floorMod_f86c9 3 = .ok (.lstore 4, 2) := by decide +kernel
theorem dJ9_floorMod_f86c9_5 : decode cJ9_floorMod_f86c9 5 = .ok (.lload_n 0, 1) := by decide +kernel
theorem dJ9_floorMod_f86c9_6 : decode cJ9_floorMod_f86c9 6 = .ok (.lload_n 2, 1) := by decide +kernel
theorem dJ9_floorMod_f86c9_7 : decode cJ9_floorMod_f86c9 7 = .ok (.lxor, 1) := by decide +kernel
theorem dJ9_floorMod_f86c9_8 : decode cJ9_floorMod_f86c9 8 = .ok (.lconst 0, 1) := by decide +kernel
theorem dJ9_floorMod_f86c9_9 : decode cJ9_floorMod_f86c9 9 = .ok (.lcmp, 1) := by decide +kernel
theorem dJ9_floorMod_f86c9_10 : decode cJ9_floorMod_f86c9 10 = .ok (.ifCond .ge 15, 3) := by decide +kernel
theorem dJ9_floorMod_f86c9_13 : decode cJ9_floorMod_f86c9 13 = .ok (.lload 4, 2) := by decide +kernel
theorem dJ9_floorMod_f86c9_15 : decode cJ9_floorMod_f86c9 15 = .ok (.lconst 0, 1) := by decide +kernel
theorem dJ9_floorMod_f86c9_16 : decode cJ9_floorMod_f86c9 16 = .ok (.lcmp, 1) := by decide +kernel
theorem dJ9_floorMod_f86c9_17 : decode cJ9_floorMod_f86c9 17 = .ok (.ifCond .eq 8, 3) := by decide +kernel
theorem dJ9_floorMod_f86c9_20 : decode cJ9_floorMod_f86c9 20 = .ok (.lload 4, 2) := by decide +kernel
theorem dJ9_floorMod_f86c9_22 : decode cJ9_floorMod_f86c9 22 = .ok (.lload_n 2, 1) := by decide +kernel
theorem dJ9_floorMod_f86c9_23 : decode cJ9_floorMod_f86c9 23 = .ok (.ladd, 1) := by decide +kernel
theorem dJ9_floorMod_f86c9_24 : decode cJ9_floorMod_f86c9 24 = .ok (.lreturn, 1) := by decide +kernel
theorem dJ9_floorMod_f86c9_25 : decode cJ9_floorMod_f86c9 25 = .ok (.lload 4, 2) := by decide +kernel
theorem dJ9_floorMod_f86c9_27 : decode cJ9_floorMod_f86c9 27 = .ok (.lreturn, 1) := by decide +kernel
theorem dJ7_fill_d0a16_0 : decode cJ7_fill_d0a16 0 = .ok (.iconst 0, 1) := by decide +kernel
theorem dJ7_fill_d0a16_1 : decode cJ7_fill_d0a16 1 = .ok (.istore_n 3, 1) := by decide +kernel
theorem dJ7_fill_d0a16_2 : decode cJ7_fill_d0a16 2 = .ok (.aload_n 0, 1) := by decide +kernel
theorem dJ7_fill_d0a16_3 : decode cJ7_fill_d0a16 3 = .ok (.arraylength, 1) := by decide +kernel
theorem dJ7_fill_d0a16_4 : decode cJ7_fill_d0a16 4 = .ok (.istore 4, 2) := by decide +kernel
theorem dJ7_fill_d0a16_6 : decode cJ7_fill_d0a16 6 = .ok (.iload_n 3, 1) := by decide +kernel
theorem dJ7_fill_d0a16_7 : decode cJ7_fill_d0a16 7 = .ok (.iload 4, 2) := by decide +kernel
theorem dJ7_fill_d0a16_9 : decode cJ7_fill_d0a16 9 = .ok (.if_icmp .ge 13, 3) := by decide +kernel
theorem dJ7_fill_d0a16_12 : decode cJ7_fill_d0a16 12 = .ok (.aload_n 0, 1) := by decide +kernel
theorem dJ7_fill_d0a16_13 : decode cJ7_fill_d0a16 13 = .ok (.iload_n 3, 1) := by decide +kernel
theorem dJ7_fill_d0a16_14 : decode cJ7_fill_d0a16 14 = .ok (.lload_n 1, 1) := by decide +kernel
theorem dJ7_fill_d0a16_15 : decode cJ7_fill_d0a16 15 = .ok (.lastore, 1) := by decide +kernel
theorem dJ7_fill_d0a16_16 : decode cJ7_fill_d0a16 16 = .ok (.iinc 3 1, 3) := by decide +kernel
theorem dJ7_fill_d0a16_19 : decode cJ7_fill_d0a16 19 = .ok (.goto (-13), 3) := by decide +kernel
theorem dJ7_fill_d0a16_22 : decode cJ7_fill_d0a16 22 = .ok (.return_, 1) := by decide +kernel

set_option maxRecDepth 20000 in
theorem gX7_result_X7_times : GoodIn wsX7_result (wsV RX7 148 RX7 yX7_times wsX7_times) := goodIn_app (goodIn_of _ (by decide +kernel)) ggX7_result_X7_times
theorem dX7_result_0 : decode cX7_result 0 = .ok (.aload_n 0, 1) := by decide +kernel
theorem dX7_result_1 : decode cX7_result 1 = .ok (.getfield 114, 3) := by decide +kernel
theorem dX7_result_4 : decode cX7_result 4 = .ok (.ifCond .gt 39, 3) := by decide +kernel
theorem dX7_result_7 : decode cX7_result 7 = .ok (.aload_n 0, 1) := by decide +kernel
theorem dX7_result_8 : decode cX7_result 8 = .ok (.bipush 44, 2) := by decide +kernel
theorem dX7_result_10 : decode cX7_result 10 = .ok (.invokevirtual 134, 3) := by decide +kernel
theorem dX7_result_13 : decode cX7_result 13 = .ok (.ifCond .ne 31, 3) := by decide +kernel
theorem dX7_result_16 : decode cX7_result 16 = .ok (.aload_n 0, 1) := by decide +kernel
theorem dX7_result_17 : decode cX7_result 17 = .ok (.bipush 37, 2) := by decide +kernel
theorem dX7_result_19 : decode cX7_result 19 = .ok (.invokevirtual 134, 3) := by decide +kernel
theorem dX7_result_22 : decode cX7_result 22 = .ok (.ifCond .ne 22, 3) := by decide +kernel
theorem dX7_result_25 : decode cX7_result 25 = .ok (.aload_n 0, 1) := by decide +kernel
theorem dX7_result_26 : decode cX7_result 26 = .ok (.bipush 38, 2) := by decide +kernel
theorem dX7_result_28 : decode cX7_result 28 = .ok (.invokevirtual 134, 3) := by decide +kernel
theorem dX7_result_31 : decode cX7_result 31 = .ok (.ifCond .ne 13, 3) := by decide +kernel
theorem dX7_result_34 : decode cX7_result 34 = .ok (.aload_n 0, 1) := by decide +kernel
theorem dX7_result_35 : decode cX7_result 35 = .ok (.bipush 40, 2) := by decide +kernel
theorem dX7_result_37 : decode cX7_result 37 = .ok (.invokevirtual 134, 3) := by decide +kernel
theorem dX7_result_40 : decode cX7_result 40 = .ok (.ifCond .ne 4, 3) := by decide +kernel
theorem dX7_result_43 : decode cX7_result 43 = .ok (.return_, 1) := by decide +kernel
theorem dX7_result_44 : decode cX7_result 44 = .ok (.aload_n 0, 1) := by decide +kernel
theorem dX7_result_45 : decode cX7_result 45 = .ok (.bipush 35, 2) := by decide +kernel
theorem dX7_result_47 : decode cX7_result 47 = .ok (.invokevirtual 134, 3) := by decide +kernel
theorem dX7_result_50 : decode cX7_result 50 = .ok (.ifCond .ne 12, 3) := by decide +kernel
theorem dX7_result_53 : decode cX7_result 53 = .ok (.aload_n 0, 1) := by decide +kernel
theorem dX7_result_54 : decode cX7_result 54 = .ok (.bipush 36, 2) := by decide +kernel
theorem dX7_result_56 : decode cX7_result 56 = .ok (.invokevirtual 134, 3) := by decide +kernel
theorem dX7_result_59 : decode cX7_result 59 = .ok (.ifCond .eq 7, 3) := by decide +kernel
theorem dX7_result_62 : decode cX7_result 62 = .ok (.iconst 1, 1) := by decide +kernel
theorem dX7_result_63 : decode cX7_result 63 = .ok (.goto 4, 3) := by decide +kernel
theorem dX7_result_66 : decode cX7_result 66 = .ok (.iconst 0, 1) := by decide +kernel
theorem dX7_result_67 : decode cX7_result 67 = .ok (.istore_n 1, 1) := by decide +kernel
theorem dX7_result_68 : decode cX7_result 68 = .ok (.iload_n 1, 1) := by decide +kernel
theorem dX7_result_69 : decode cX7_result 69 = .ok (.ifCond .eq 14, 3) := by decide +kernel
theorem dX7_result_72 : decode cX7_result 72 = .ok (.aload_n 0, 1) := by decide +kernel
theorem dX7_result_73 : decode cX7_result 73 = .ok (.iconst 4, 1) := by decide +kernel
theorem dX7_result_74 : decode cX7_result 74 = .ok (.invokevirtual 138, 3) := by decide +kernel
theorem dX7_result_77 : decode cX7_result 77 = .ok (.aload_n 0, 1) := by decide +kernel
theorem dX7_result_78 : decode cX7_result 78 = .ok (.bipush 10, 2) := by decide +kernel
theorem dX7_result_80 : decode cX7_result 80 = .ok (.invokevirtual 131, 3) := by decide +kernel
theorem dX7_result_83 : decode cX7_result 83 = .ok (.aload_n 0, 1) := by decide +kernel
theorem dX7_result_84 : decode cX7_result 84 = .ok (.iconst 5, 1) := by decide +kernel
theorem dX7_result_85 : decode cX7_result 85 = .ok (.invokevirtual 138, 3) := by decide +kernel
theorem dX7_result_88 : decode cX7_result 88 = .ok (.aload_n 0, 1) := by decide +kernel
theorem dX7_result_89 : decode cX7_result 89 = .ok (.iload_n 1, 1) := by decide +kernel
theorem dX7_result_90 : decode cX7_result 90 = .ok (.ifCond .eq 8, 3) := by decide +kernel
theorem dX7_result_93 : decode cX7_result 93 = .ok (.bipush 11, 2) := by decide +kernel
theorem dX7_result_95 : decode cX7_result 95 = .ok (.goto 5, 3) := by decide +kernel
theorem dX7_result_98 : decode cX7_result 98 = .ok (.bipush 6, 2) := by decide +kernel
theorem dX7_result_100 : decode cX7_result 100 = .ok (.invokevirtual 131, 3) := by decide +kernel
theorem dX7_result_103 : decode cX7_result 103 = .ok (.iload_n 1, 1) := by decide +kernel
theorem dX7_result_104 : decode cX7_result 104 = .ok (.ifCond .eq 10, 3) := by decide +kernel
theorem dX7_result_107 : decode cX7_result 107 = .ok (.aload_n 0, 1) := by decide +kernel
theorem dX7_result_108 : decode cX7_result 108 = .ok (.getfield 114, 3) := by decide +kernel
theorem dX7_result_111 : decode cX7_result 111 = .ok (.ifCond .le 4, 3) := by decide +kernel
theorem dX7_result_114 : decode cX7_result 114 = .ok (.return_, 1) := by decide +kernel
theorem dX7_result_115 : decode cX7_result 115 = .ok (.aload_n 0, 1) := by decide +kernel
theorem dX7_result_116 : decode cX7_result 116 = .ok (.bipush 35, 2) := by decide +kernel
theorem dX7_result_118 : decode cX7_result 118 = .ok (.invokevirtual 134, 3) := by decide +kernel
theorem dX7_result_121 : decode cX7_result 121 = .ok (.ifCond .eq 14, 3) := by decide +kernel
theorem dX7_result_124 : decode cX7_result 124 = .ok (.aload_n 0, 1) := by decide +kernel
theorem dX7_result_125 : decode cX7_result 125 = .ok (.bipush 10, 2) := by decide +kernel
theorem dX7_result_127 : decode cX7_result 127 = .ok (.bipush 11, 2) := by decide +kernel
theorem dX7_result_129 : decode cX7_result 129 = .ok (.invokevirtual 155, 3) := by decide +kernel
theorem dX7_result_132 : decode cX7_result 132 = .ok (.goto 12, 3) := by decide +kernel
theorem dX7_result_135 : decode cX7_result 135 = .ok (.aload_n 0, 1) := by decide +kernel
theorem dX7_result_136 : decode cX7_result 136 = .ok (.bipush 10, 2) := by decide +kernel
theorem dX7_result_138 : decode cX7_result 138 = .ok (.bipush 11, 2) := by decide +kernel
theorem dX7_result_140 : decode cX7_result 140 = .ok (.iconst 0, 1) := by decide +kernel
theorem dX7_result_141 : decode cX7_result 141 = .ok (.invokevirtual 148, 3) := by decide +kernel
theorem dX7_result_144 : decode cX7_result 144 = .ok (.aload_n 0, 1) := by decide +kernel
theorem dX7_result_145 : decode cX7_result 145 = .ok (.bipush 6, 2) := by decide +kernel
theorem dX7_result_147 : decode cX7_result 147 = .ok (.invokevirtual 131, 3) := by decide +kernel
theorem dX7_result_150 : decode cX7_result 150 = .ok (.return_, 1) := by decide +kernel
set_option maxRecDepth 20000 in
theorem ggX7_jump_X7_further : GoodIn wsX7_jump wsX7_further := goodIn_r _ [10, 2, 3, 5, 11, 12, 13, 14, 15, 16, 9, 17, 4, 76, 77, 78, 79, 80, 81, 82, 83, 84, 85, 86, 87, 88, 89, 90] (by decide +kernel) (by decide +kernel)
set_option maxRecDepth 20000 in
theorem gX7_jump_X7_further : GoodIn wsX7_jump (wsV RX7 71 RX7 yX7_further wsX7_further) := goodIn_app (goodIn_of _ (by decide +kernel)) ggX7_jump_X7_further
set_option maxRecDepth 20000 in
theorem ggX7_jump_X7_keep : GoodIn wsX7_jump wsX7_keep := goodIn_r _ [21, 2, 4, 3, 5, 76, 77, 78, 79, 80, 81, 82, 83, 84, 85, 86, 87, 88, 89, 90] (by decide +kernel) (by decide +kernel)
set_option maxRecDepth 20000 in
theorem gX7_jump_X7_keep : GoodIn wsX7_jump (wsV RX7 128 RX7 yX7_keep wsX7_keep) := goodIn_app (goodIn_of _ (by decide +kernel)) ggX7_jump_X7_keep
set_option maxRecDepth 20000 in
theorem ggX7_jump_X7_flag : GoodIn wsX7_jump wsX7_flag := goodIn_r _ [25, 26, 76, 77, 78, 79, 80, 81, 82, 83, 84, 85, 86, 87, 88, 89, 90] (by decide +kernel) (by decide +kernel)
set_option maxRecDepth 20000 in
theorem gX7_jump_X7_flag : GoodIn wsX7_jump (wsV RX7 134 RX7 yX7_flag wsX7_flag) := goodIn_app (goodIn_of _ (by decide +kernel)) ggX7_jump_X7_flag
set_option maxRecDepth 20000 in
theorem ggX7_jump_X7_give : GoodIn wsX7_jump wsX7_give := goodIn_r _ [17, 13, 4, 5, 76, 77, 78, 79, 80, 81, 82, 83, 84, 85, 86, 87, 88, 89, 90] (by decide +kernel) (by decide +kernel)
set_option maxRecDepth 20000 in
theorem gX7_jump_X7_give : GoodIn wsX7_jump (wsV RX7 61 RX7 yX7_give wsX7_give) := goodIn_app (goodIn_of _ (by decide +kernel)) ggX7_jump_X7_give
set_option maxRecDepth 20000 in
theorem ggX7_jump_X7_place : GoodIn wsX7_jump wsX7_place := goodIn_r _ [30, 2, 31, 32, 33, 9, 34, 1, 13, 35, 36, 37, 38, 18, 19, 20, 21, 4, 3, 5, 76, 77, 78, 79, 80, 81, 82, 83, 84, 85, 86, 87, 88, 89, 90] (by decide +kernel) (by decide +kernel)
set_option maxRecDepth 20000 in
theorem gX7_jump_X7_place : GoodIn wsX7_jump (wsV RX7 141 RX7 yX7_place wsX7_place) := goodIn_app (goodIn_of _ (by decide +kernel)) ggX7_jump_X7_place
set_option maxRecDepth 20000 in
theorem ggX7_jump_X7_plus : GoodIn wsX7_jump wsX7_plus := goodIn_r _ [42, 2, 3, 13, 43, 44, 9, 45, 46, 47, 48, 49, 50, 51, 52, 53, 54, 55, 14, 15, 16, 17, 4, 5, 56, 57, 58, 59, 12, 60, 6, 7, 8, 10, 11, 76, 77, 78, 79, 80, 81, 82, 83, 84, 85, 86, 87, 88, 89, 90] (by decide +kernel) (by decide +kernel)
set_option maxRecDepth 20000 in
theorem gX7_jump_X7_plus : GoodIn wsX7_jump (wsV RX7 155 RX7 yX7_plus wsX7_plus) := goodIn_app (goodIn_of _ (by decide +kernel)) ggX7_jump_X7_plus
set_option maxRecDepth 20000 in
theorem ggX7_jump_X7_needed : GoodIn wsX7_jump wsX7_needed := goodIn_r _ [64, 1, 13, 65, 66, 67, 9, 68, 3, 2, 69, 70, 4, 71, 5, 72, 73, 74, 75, 35, 36, 37, 38, 76, 77, 78, 79, 80, 81, 82, 83, 84, 85, 86, 87, 88, 89, 90] (by decide +kernel) (by decide +kernel)
set_option maxRecDepth 20000 in
theorem gX7_jump_X7_needed : GoodIn wsX7_jump (wsV RX7 138 RX7 yX7_needed wsX7_needed) := goodIn_app (goodIn_of _ (by decide +kernel)) ggX7_jump_X7_needed
set_option maxRecDepth 20000 in
theorem ggX7_jump_X7_sure : GoodIn wsX7_jump wsX7_sure := goodIn_r _ [34, 1, 13, 35, 36, 37, 9, 38, 18, 19, 20, 21, 2, 4, 3, 5, 76, 77, 78, 79, 80, 81, 82, 83, 84, 85, 86, 87, 88, 89, 90] (by decide +kernel) (by decide +kernel)
set_option maxRecDepth 20000 in
theorem gX7_jump_X7_sure : GoodIn wsX7_jump (wsV RX7 131 RX7 yX7_sure wsX7_sure) := goodIn_app (goodIn_of _ (by decide +kernel)) ggX7_jump_X7_sure
theorem dX7_jump_0 : decode cX7_jump 0 = .ok (.aload_n 0, 1) := by decide +kernel
theorem dX7_jump_1 : decode cX7_jump 1 = .ok (.getfield 114, 3) := by decide +kernel
theorem dX7_jump_4 : decode cX7_jump 4 = .ok (.ifCond .le 4, 3) := by decide +kernel
theorem dX7_jump_7 : decode cX7_jump 7 = .ok (.return_, 1) := by decide +kernel
theorem dX7_jump_8 : decode cX7_jump 8 = .ok (.aload_n 0, 1) := by decide +kernel
theorem dX7_jump_9 : decode cX7_jump 9 = .ok (.iconst 0, 1) := by decide +kernel
theorem dX7_jump_10 : decode cX7_jump 10 = .ok (.iload_n 1, 1) := by decide +kernel
theorem dX7_jump_11 : decode cX7_jump 11 = .ok (.i2l, 1) := by decide +kernel
theorem dX7_jump_12 : decode cX7_jump 12 = .ok (.invokevirtual 71, 3) := by decide +kernel
theorem dX7_jump_15 : decode cX7_jump 15 = .ok (.aload_n 0, 1) := by decide +kernel
theorem dX7_jump_16 : decode cX7_jump 16 = .ok (.bipush 7, 2) := by decide +kernel
theorem dX7_jump_18 : decode cX7_jump 18 = .ok (.invokevirtual 128, 3) := by decide +kernel
theorem dX7_jump_21 : decode cX7_jump 21 = .ok (.aload_n 0, 1) := by decide +kernel
theorem dX7_jump_22 : decode cX7_jump 22 = .ok (.bipush 37, 2) := by decide +kernel
theorem dX7_jump_24 : decode cX7_jump 24 = .ok (.invokevirtual 134, 3) := by decide +kernel
theorem dX7_jump_27 : decode cX7_jump 27 = .ok (.ifCond .eq 27, 3) := by decide +kernel
theorem dX7_jump_30 : decode cX7_jump 30 = .ok (.aload_n 0, 1) := by decide +kernel
theorem dX7_jump_31 : decode cX7_jump 31 = .ok (.aload_n 0, 1) := by decide +kernel
theorem dX7_jump_32 : decode cX7_jump 32 = .ok (.getfield 21, 3) := by decide +kernel
theorem dX7_jump_35 : decode cX7_jump 35 = .ok (.bipush 6, 2) := by decide +kernel
theorem dX7_jump_37 : decode cX7_jump 37 = .ok (.iaload, 1) := by decide +kernel
theorem dX7_jump_38 : decode cX7_jump 38 = .ok (.aload_n 0, 1) := by decide +kernel
theorem dX7_jump_39 : decode cX7_jump 39 = .ok (.getfield 24, 3) := by decide +kernel
theorem dX7_jump_42 : decode cX7_jump 42 = .ok (.bipush 6, 2) := by decide +kernel
theorem dX7_jump_44 : decode cX7_jump 44 = .ok (.laload, 1) := by decide +kernel
theorem dX7_jump_45 : decode cX7_jump 45 = .ok (.invokevirtual 61, 3) := by decide +kernel
theorem dX7_jump_48 : decode cX7_jump 48 = .ok (.aload_n 0, 1) := by decide +kernel
theorem dX7_jump_49 : decode cX7_jump 49 = .ok (.bipush 7, 2) := by decide +kernel
theorem dX7_jump_51 : decode cX7_jump 51 = .ok (.invokevirtual 141, 3) := by decide +kernel
theorem dX7_jump_54 : decode cX7_jump 54 = .ok (.aload_n 0, 1) := by decide +kernel
theorem dX7_jump_55 : decode cX7_jump 55 = .ok (.bipush 38, 2) := by decide +kernel
theorem dX7_jump_57 : decode cX7_jump 57 = .ok (.invokevirtual 134, 3) := by decide +kernel
theorem dX7_jump_60 : decode cX7_jump 60 = .ok (.ifCond .eq 16, 3) := by decide +kernel
theorem dX7_jump_63 : decode cX7_jump 63 = .ok (.aload_n 0, 1) := by decide +kernel
theorem dX7_jump_64 : decode cX7_jump 64 = .ok (.iconst 0, 1) := by decide +kernel
theorem dX7_jump_65 : decode cX7_jump 65 = .ok (.bipush 6, 2) := by decide +kernel
theorem dX7_jump_67 : decode cX7_jump 67 = .ok (.invokevirtual 155, 3) := by decide +kernel
theorem dX7_jump_70 : decode cX7_jump 70 = .ok (.aload_n 0, 1) := by decide +kernel
theorem dX7_jump_71 : decode cX7_jump 71 = .ok (.bipush 7, 2) := by decide +kernel
theorem dX7_jump_73 : decode cX7_jump 73 = .ok (.invokevirtual 141, 3) := by decide +kernel
theorem dX7_jump_76 : decode cX7_jump 76 = .ok (.aload_n 0, 1) := by decide +kernel
theorem dX7_jump_77 : decode cX7_jump 77 = .ok (.bipush 39, 2) := by decide +kernel
theorem dX7_jump_79 : decode cX7_jump 79 = .ok (.invokevirtual 134, 3) := by decide +kernel
theorem dX7_jump_82 : decode cX7_jump 82 = .ok (.ifCond .ne 4, 3) := by decide +kernel
theorem dX7_jump_85 : decode cX7_jump 85 = .ok (.return_, 1) := by decide +kernel
theorem dX7_jump_86 : decode cX7_jump 86 = .ok (.aload_n 0, 1) := by decide +kernel
theorem dX7_jump_87 : decode cX7_jump 87 = .ok (.iconst 3, 1) := by decide +kernel
theorem dX7_jump_88 : decode cX7_jump 88 = .ok (.invokevirtual 138, 3) := by decide +kernel
theorem dX7_jump_91 : decode cX7_jump 91 = .ok (.aload_n 0, 1) := by decide +kernel
theorem dX7_jump_92 : decode cX7_jump 92 = .ok (.getfield 114, 3) := by decide +kernel
theorem dX7_jump_95 : decode cX7_jump 95 = .ok (.ifCond .gt 19, 3) := by decide +kernel
theorem dX7_jump_98 : decode cX7_jump 98 = .ok (.aload_n 0, 1) := by decide +kernel
theorem dX7_jump_99 : decode cX7_jump 99 = .ok (.getfield 50, 3) := by decide +kernel
theorem dX7_jump_102 : decode cX7_jump 102 = .ok (.ifCond .ne 13, 3) := by decide +kernel
theorem dX7_jump_105 : decode cX7_jump 105 = .ok (.aload_n 0, 1) := by decide +kernel
theorem dX7_jump_106 : decode cX7_jump 106 = .ok (.getfield 53, 3) := by decide +kernel
theorem dX7_jump_109 : decode cX7_jump 109 = .ok (.lconst 0, 1) := by decide +kernel
theorem dX7_jump_110 : decode cX7_jump 110 = .ok (.lcmp, 1) := by decide +kernel
theorem dX7_jump_111 : decode cX7_jump 111 = .ok (.ifCond .ne 4, 3) := by decide +kernel
theorem dX7_jump_114 : decode cX7_jump 114 = .ok (.return_, 1) := by decide +kernel
theorem dX7_jump_115 : decode cX7_jump 115 = .ok (.aload_n 0, 1) := by decide +kernel
theorem dX7_jump_116 : decode cX7_jump 116 = .ok (.iconst 5, 1) := by decide +kernel
theorem dX7_jump_117 : decode cX7_jump 117 = .ok (.invokevirtual 138, 3) := by decide +kernel
theorem dX7_jump_120 : decode cX7_jump 120 = .ok (.aload_n 0, 1) := by decide +kernel
theorem dX7_jump_121 : decode cX7_jump 121 = .ok (.bipush 10, 2) := by decide +kernel
theorem dX7_jump_123 : decode cX7_jump 123 = .ok (.invokevirtual 131, 3) := by decide +kernel
theorem dX7_jump_126 : decode cX7_jump 126 = .ok (.aload_n 0, 1) := by decide +kernel
theorem dX7_jump_127 : decode cX7_jump 127 = .ok (.getfield 114, 3) := by decide +kernel
theorem dX7_jump_130 : decode cX7_jump 130 = .ok (.ifCond .le 4, 3) := by decide +kernel
theorem dX7_jump_133 : decode cX7_jump 133 = .ok (.return_, 1) := by decide +kernel
theorem dX7_jump_134 : decode cX7_jump 134 = .ok (.aload_n 0, 1) := by decide +kernel
theorem dX7_jump_135 : decode cX7_jump 135 = .ok (.iconst 0, 1) := by decide +kernel
theorem dX7_jump_136 : decode cX7_jump 136 = .ok (.bipush 10, 2) := by decide +kernel
theorem dX7_jump_138 : decode cX7_jump 138 = .ok (.invokevirtual 155, 3) := by decide +kernel
theorem dX7_jump_141 : decode cX7_jump 141 = .ok (.aload_n 0, 1) := by decide +kernel
theorem dX7_jump_142 : decode cX7_jump 142 = .ok (.bipush 7, 2) := by decide +kernel
theorem dX7_jump_144 : decode cX7_jump 144 = .ok (.invokevirtual 141, 3) := by decide +kernel
theorem dX7_jump_147 : decode cX7_jump 147 = .ok (.return_, 1) := by decide +kernel
set_option maxRecDepth 20000 in
theorem ggX7_move_X7_give : GoodIn wsX7_move wsX7_give := goodIn_r _ [9, 10, 11, 12, 77, 78, 79, 80, 81, 82, 83, 84, 85, 86, 87, 88, 89, 90, 91] (by decide +kernel) (by decide +kernel)
set_option maxRecDepth 20000 in
theorem gX7_move_X7_give : GoodIn wsX7_move (wsV RX7 61 RX7 yX7_give wsX7_give) := goodIn_app (goodIn_of _ (by decide +kernel)) ggX7_move_X7_give
set_option maxRecDepth 20000 in
theorem ggX7_move_X7_flag : GoodIn wsX7_move wsX7_flag := goodIn_r _ [16, 17, 77, 78, 79, 80, 81, 82, 83, 84, 85, 86, 87, 88, 89, 90, 91] (by decide +kernel) (by decide +kernel)
set_option maxRecDepth 20000 in
theorem gX7_move_X7_flag : GoodIn wsX7_move (wsV RX7 134 RX7 yX7_flag wsX7_flag) := goodIn_app (goodIn_of _ (by decide +kernel)) ggX7_move_X7_flag
set_option maxRecDepth 20000 in
theorem ggX7_move_X7_plus : GoodIn wsX7_move wsX7_plus := goodIn_r _ [21, 2, 3, 10, 22, 23, 8, 24, 25, 26, 27, 28, 29, 30, 31, 32, 33, 34, 5, 6, 7, 9, 11, 12, 35, 36, 37, 38, 39, 40, 41, 42, 43, 44, 45, 77, 78, 79, 80, 81, 82, 83, 84, 85, 86, 87, 88, 89, 90, 91] (by decide +kernel) (by decide +kernel)
set_option maxRecDepth 20000 in
theorem gX7_move_X7_plus : GoodIn wsX7_move (wsV RX7 155 RX7 yX7_plus wsX7_plus) := goodIn_app (goodIn_of _ (by decide +kernel)) ggX7_move_X7_plus
set_option maxRecDepth 20000 in
theorem ggX7_move_X7_further : GoodIn wsX7_move wsX7_further := goodIn_r _ [44, 2, 3, 12, 45, 39, 10, 5, 6, 7, 8, 9, 11, 77, 78, 79, 80, 81, 82, 83, 84, 85, 86, 87, 88, 89, 90, 91] (by decide +kernel) (by decide +kernel)
set_option maxRecDepth 20000 in
theorem gX7_move_X7_further : GoodIn wsX7_move (wsV RX7 71 RX7 yX7_further wsX7_further) := goodIn_app (goodIn_of _ (by decide +kernel)) ggX7_move_X7_further
set_option maxRecDepth 20000 in
theorem ggX7_move_X7_place : GoodIn wsX7_move wsX7_place := goodIn_r _ [49, 2, 50, 51, 52, 8, 53, 1, 10, 54, 55, 56, 57, 58, 59, 60, 61, 11, 3, 12, 77, 78, 79, 80, 81, 82, 83, 84, 85, 86, 87, 88, 89, 90, 91] (by decide +kernel) (by decide +kernel)
set_option maxRecDepth 20000 in
theorem gX7_move_X7_place : GoodIn wsX7_move (wsV RX7 141 RX7 yX7_place wsX7_place) := goodIn_app (goodIn_of _ (by decide +kernel)) ggX7_move_X7_place
set_option maxRecDepth 20000 in
theorem ggX7_move_X7_needed : GoodIn wsX7_move wsX7_needed := goodIn_r _ [65, 1, 10, 66, 67, 68, 8, 69, 3, 2, 70, 71, 11, 72, 12, 73, 74, 75, 76, 54, 55, 56, 57, 77, 78, 79, 80, 81, 82, 83, 84, 85, 86, 87, 88, 89, 90, 91] (by decide +kernel) (by decide +kernel)
set_option maxRecDepth 20000 in
theorem gX7_move_X7_needed : GoodIn wsX7_move (wsV RX7 138 RX7 yX7_needed wsX7_needed) := goodIn_app (goodIn_of _ (by decide +kernel)) ggX7_move_X7_needed
theorem dX7_move_0 : decode cX7_move 0 = .ok (.aload_n 0, 1) := by decide +kernel
theorem dX7_move_1 : decode cX7_move 1 = .ok (.getfield 114, 3) := by decide +kernel
theorem dX7_move_4 : decode cX7_move 4 = .ok (.ifCond .le 4, 3) := by decide +kernel
theorem dX7_move_7 : decode cX7_move 7 = .ok (.return_, 1) := by decide +kernel
theorem dX7_move_8 : decode cX7_move 8 = .ok (.aload_n 0, 1) := by decide +kernel
theorem dX7_move_9 : decode cX7_move 9 = .ok (.aload_n 0, 1) := by decide +kernel
theorem dX7_move_10 : decode cX7_move 10 = .ok (.getfield 21, 3) := by decide +kernel
theorem dX7_move_13 : decode cX7_move 13 = .ok (.iconst 1, 1) := by decide +kernel
theorem dX7_move_14 : decode cX7_move 14 = .ok (.iaload, 1) := by decide +kernel
theorem dX7_move_15 : decode cX7_move 15 = .ok (.aload_n 0, 1) := by decide +kernel
theorem dX7_move_16 : decode cX7_move 16 = .ok (.getfield 24, 3) := by decide +kernel
theorem dX7_move_19 : decode cX7_move 19 = .ok (.iconst 1, 1) := by decide +kernel
theorem dX7_move_20 : decode cX7_move 20 = .ok (.laload, 1) := by decide +kernel
theorem dX7_move_21 : decode cX7_move 21 = .ok (.invokevirtual 61, 3) := by decide +kernel
theorem dX7_move_24 : decode cX7_move 24 = .ok (.aload_n 0, 1) := by decide +kernel
theorem dX7_move_25 : decode cX7_move 25 = .ok (.bipush 40, 2) := by decide +kernel
theorem dX7_move_27 : decode cX7_move 27 = .ok (.invokevirtual 134, 3) := by decide +kernel
theorem dX7_move_30 : decode cX7_move 30 = .ok (.ifCond .eq 10, 3) := by decide +kernel
theorem dX7_move_33 : decode cX7_move 33 = .ok (.aload_n 0, 1) := by decide +kernel
theorem dX7_move_34 : decode cX7_move 34 = .ok (.iconst 1, 1) := by decide +kernel
theorem dX7_move_35 : decode cX7_move 35 = .ok (.bipush 6, 2) := by decide +kernel
theorem dX7_move_37 : decode cX7_move 37 = .ok (.invokevirtual 155, 3) := by decide +kernel
theorem dX7_move_40 : decode cX7_move 40 = .ok (.aload_n 0, 1) := by decide +kernel
theorem dX7_move_41 : decode cX7_move 41 = .ok (.bipush 41, 2) := by decide +kernel
theorem dX7_move_43 : decode cX7_move 43 = .ok (.invokevirtual 134, 3) := by decide +kernel
theorem dX7_move_46 : decode cX7_move 46 = .ok (.ifCond .eq 9, 3) := by decide +kernel
theorem dX7_move_49 : decode cX7_move 49 = .ok (.aload_n 0, 1) := by decide +kernel
theorem dX7_move_50 : decode cX7_move 50 = .ok (.iconst 1, 1) := by decide +kernel
theorem dX7_move_51 : decode cX7_move 51 = .ok (.lconst 1, 1) := by decide +kernel
theorem dX7_move_52 : decode cX7_move 52 = .ok (.invokevirtual 71, 3) := by decide +kernel
theorem dX7_move_55 : decode cX7_move 55 = .ok (.aload_n 0, 1) := by decide +kernel
theorem dX7_move_56 : decode cX7_move 56 = .ok (.bipush 42, 2) := by decide +kernel
theorem dX7_move_58 : decode cX7_move 58 = .ok (.invokevirtual 134, 3) := by decide +kernel
theorem dX7_move_61 : decode cX7_move 61 = .ok (.ifCond .eq 11, 3) := by decide +kernel
theorem dX7_move_64 : decode cX7_move 64 = .ok (.aload_n 0, 1) := by decide +kernel
theorem dX7_move_65 : decode cX7_move 65 = .ok (.iconst 1, 1) := by decide +kernel
theorem dX7_move_66 : decode cX7_move 66 = .ok (.ldc2_w 158, 3) := by decide +kernel
theorem dX7_move_69 : decode cX7_move 69 = .ok (.invokevirtual 71, 3) := by decide +kernel
theorem dX7_move_72 : decode cX7_move 72 = .ok (.aload_n 0, 1) := by decide +kernel
theorem dX7_move_73 : decode cX7_move 73 = .ok (.bipush 8, 2) := by decide +kernel
theorem dX7_move_75 : decode cX7_move 75 = .ok (.invokevirtual 141, 3) := by decide +kernel
theorem dX7_move_78 : decode cX7_move 78 = .ok (.aload_n 0, 1) := by decide +kernel
theorem dX7_move_79 : decode cX7_move 79 = .ok (.getfield 114, 3) := by decide +kernel
theorem dX7_move_82 : decode cX7_move 82 = .ok (.ifCond .le 4, 3) := by decide +kernel
theorem dX7_move_85 : decode cX7_move 85 = .ok (.return_, 1) := by decide +kernel
theorem dX7_move_86 : decode cX7_move 86 = .ok (.aload_n 0, 1) := by decide +kernel
theorem dX7_move_87 : decode cX7_move 87 = .ok (.aload_n 0, 1) := by decide +kernel
theorem dX7_move_88 : decode cX7_move 88 = .ok (.getfield 21, 3) := by decide +kernel
theorem dX7_move_91 : decode cX7_move 91 = .ok (.iconst 2, 1) := by decide +kernel
theorem dX7_move_92 : decode cX7_move 92 = .ok (.iaload, 1) := by decide +kernel
theorem dX7_move_93 : decode cX7_move 93 = .ok (.aload_n 0, 1) := by decide +kernel
theorem dX7_move_94 : decode cX7_move 94 = .ok (.getfield 24, 3) := by decide +kernel
theorem dX7_move_97 : decode cX7_move 97 = .ok (.iconst 2, 1) := by decide +kernel
theorem dX7_move_98 : decode cX7_move 98 = .ok (.laload, 1) := by decide +kernel
theorem dX7_move_99 : decode cX7_move 99 = .ok (.invokevirtual 61, 3) := by decide +kernel
theorem dX7_move_102 : decode cX7_move 102 = .ok (.aload_n 0, 1) := by decide +kernel
theorem dX7_move_103 : decode cX7_move 103 = .ok (.bipush 42, 2) := by decide +kernel
theorem dX7_move_105 : decode cX7_move 105 = .ok (.invokevirtual 134, 3) := by decide +kernel
theorem dX7_move_108 : decode cX7_move 108 = .ok (.ifCond .eq 21, 3) := by decide +kernel
theorem dX7_move_111 : decode cX7_move 111 = .ok (.aload_n 0, 1) := by decide +kernel
theorem dX7_move_112 : decode cX7_move 112 = .ok (.aload_n 0, 1) := by decide +kernel
theorem dX7_move_113 : decode cX7_move 113 = .ok (.getfield 21, 3) := by decide +kernel
theorem dX7_move_116 : decode cX7_move 116 = .ok (.bipush 8, 2) := by decide +kernel
theorem dX7_move_118 : decode cX7_move 118 = .ok (.iaload, 1) := by decide +kernel
theorem dX7_move_119 : decode cX7_move 119 = .ok (.aload_n 0, 1) := by decide +kernel
theorem dX7_move_120 : decode cX7_move 120 = .ok (.getfield 24, 3) := by decide +kernel
theorem dX7_move_123 : decode cX7_move 123 = .ok (.bipush 8, 2) := by decide +kernel
theorem dX7_move_125 : decode cX7_move 125 = .ok (.laload, 1) := by decide +kernel
theorem dX7_move_126 : decode cX7_move 126 = .ok (.invokevirtual 61, 3) := by decide +kernel
theorem dX7_move_129 : decode cX7_move 129 = .ok (.aload_n 0, 1) := by decide +kernel
theorem dX7_move_130 : decode cX7_move 130 = .ok (.bipush 43, 2) := by decide +kernel
theorem dX7_move_132 : decode cX7_move 132 = .ok (.invokevirtual 134, 3) := by decide +kernel
theorem dX7_move_135 : decode cX7_move 135 = .ok (.ifCond .eq 8, 3) := by decide +kernel
theorem dX7_move_138 : decode cX7_move 138 = .ok (.aload_n 0, 1) := by decide +kernel
theorem dX7_move_139 : decode cX7_move 139 = .ok (.iconst 3, 1) := by decide +kernel
theorem dX7_move_140 : decode cX7_move 140 = .ok (.invokevirtual 138, 3) := by decide +kernel
theorem dX7_move_143 : decode cX7_move 143 = .ok (.aload_n 0, 1) := by decide +kernel
theorem dX7_move_144 : decode cX7_move 144 = .ok (.bipush 9, 2) := by decide +kernel
theorem dX7_move_146 : decode cX7_move 146 = .ok (.invokevirtual 141, 3) := by decide +kernel
theorem dX7_move_149 : decode cX7_move 149 = .ok (.return_, 1) := by decide +kernel
set_option maxRecDepth 20000 in
theorem ggX7_places_X7_needed : GoodIn wsX7_places wsX7_needed := goodIn_r _ [10, 1, 11, 12, 13, 14, 9, 15, 16, 17, 18, 19, 4, 20, 2, 21, 22, 23, 24, 25, 26, 27, 28, 81, 82, 83, 84, 85, 86, 87, 88, 89, 90, 91, 92, 93, 94, 95] (by decide +kernel) (by decide +kernel)
set_option maxRecDepth 20000 in
theorem gX7_places_X7_needed : GoodIn wsX7_places (wsV RX7 138 RX7 yX7_needed wsX7_needed) := goodIn_app (goodIn_of _ (by decide +kernel)) ggX7_places_X7_needed
set_option maxRecDepth 20000 in
theorem ggX7_places_X7_isBad : GoodIn wsX7_places wsX7_isBad := goodIn_r _ [31, 32, 33, 9, 34, 35, 36, 37, 38] (by decide +kernel) (by decide +kernel)
set_option maxRecDepth 20000 in
theorem gX7_places_X7_isBad : GoodIn wsX7_places (va_wsS RX7 160 yX7_isBad wsX7_isBad) := goodIn_app (goodIn_of _ (by decide +kernel)) ggX7_places_X7_isBad
set_option maxRecDepth 20000 in
theorem ggX7_places_X7_trouble : GoodIn wsX7_places wsX7_trouble := goodIn_r _ [28, 1, 81, 82, 83, 84, 85, 86, 87, 88, 89, 90, 91, 92, 93, 94, 95] (by decide +kernel) (by decide +kernel)
set_option maxRecDepth 20000 in
theorem gX7_places_X7_trouble : GoodIn wsX7_places (wsV RX7 121 RX7 yX7_trouble wsX7_trouble) := goodIn_app (goodIn_of _ (by decide +kernel)) ggX7_places_X7_trouble
set_option maxRecDepth 20000 in
theorem ggX7_places_X7_flag : GoodIn wsX7_places wsX7_flag := goodIn_r _ [42, 3, 81, 82, 83, 84, 85, 86, 87, 88, 89, 90, 91, 92, 93, 94, 95] (by decide +kernel) (by decide +kernel)
set_option maxRecDepth 20000 in
theorem gX7_places_X7_flag : GoodIn wsX7_places (wsV RX7 134 RX7 yX7_flag wsX7_flag) := goodIn_app (goodIn_of _ (by decide +kernel)) ggX7_places_X7_flag
set_option maxRecDepth 20000 in
theorem ggX7_places_X7_offset : GoodIn wsX7_places wsX7_offset := goodIn_r _ [37, 38] (by decide +kernel) (by decide +kernel)
set_option maxRecDepth 20000 in
theorem gX7_places_X7_offset : GoodIn wsX7_places (va_wsS RX7 110 yX7_offset wsX7_offset) := goodIn_app (goodIn_of _ (by decide +kernel)) ggX7_places_X7_offset
set_option maxRecDepth 20000 in
theorem ggX7_places_X7_further : GoodIn wsX7_places wsX7_further := goodIn_r _ [46, 17, 16, 2, 47, 48, 11, 49, 50, 51, 9, 52, 4, 81, 82, 83, 84, 85, 86, 87, 88, 89, 90, 91, 92, 93, 94, 95] (by decide +kernel) (by decide +kernel)
set_option maxRecDepth 20000 in
theorem gX7_places_X7_further : GoodIn wsX7_places (wsV RX7 71 RX7 yX7_further wsX7_further) := goodIn_app (goodIn_of _ (by decide +kernel)) ggX7_places_X7_further
set_option maxRecDepth 20000 in
theorem ggX7_places_X7_sure : GoodIn wsX7_places wsX7_sure := goodIn_r _ [56, 1, 11, 25, 26, 27, 9, 28, 57, 58, 59, 60, 17, 4, 16, 2, 81, 82, 83, 84, 85, 86, 87, 88, 89, 90, 91, 92, 93, 94, 95] (by decide +kernel) (by decide +kernel)
set_option maxRecDepth 20000 in
theorem gX7_places_X7_sure : GoodIn wsX7_places (wsV RX7 131 RX7 yX7_sure wsX7_sure) := goodIn_app (goodIn_of _ (by decide +kernel)) ggX7_places_X7_sure
set_option maxRecDepth 20000 in
theorem ggX7_places_X7_store : GoodIn wsX7_places wsX7_store := goodIn_r _ [64, 1, 17, 16, 65, 66, 67, 9, 68, 18, 19, 20, 21, 22, 23, 24, 69, 70, 71, 72, 73, 74, 75, 76, 77, 78, 79, 80, 25, 26, 27, 28, 81, 82, 83, 84, 85, 86, 87, 88, 89, 90, 91, 92, 93, 94, 95] (by decide +kernel) (by decide +kernel)
set_option maxRecDepth 20000 in
theorem gX7_places_X7_store : GoodIn wsX7_places (wsV RX7 152 RX7 yX7_store wsX7_store) := goodIn_app (goodIn_of _ (by decide +kernel)) ggX7_places_X7_store
theorem dX7_places_0 : decode cX7_places 0 = .ok (.aload_n 0, 1) := by decide +kernel

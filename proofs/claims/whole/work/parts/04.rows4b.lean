theorem dX7_places_1 : decode cX7_places 1 = .ok (.iconst 0, 1) := by decide +kernel
theorem dX7_places_2 : decode cX7_places 2 = .ok (.invokevirtual 138, 3) := by decide +kernel
theorem dX7_places_5 : decode cX7_places 5 = .ok (.aload_n 0, 1) := by decide +kernel
theorem dX7_places_6 : decode cX7_places 6 = .ok (.getfield 114, 3) := by decide +kernel
theorem dX7_places_9 : decode cX7_places 9 = .ok (.ifCond .le 4, 3) := by decide +kernel
theorem dX7_places_12 : decode cX7_places 12 = .ok (.return_, 1) := by decide +kernel
theorem dX7_places_13 : decode cX7_places 13 = .ok (.aload_n 0, 1) := by decide +kernel
theorem dX7_places_14 : decode cX7_places 14 = .ok (.aload_n 0, 1) := by decide +kernel
theorem dX7_places_15 : decode cX7_places 15 = .ok (.getfield 53, 3) := by decide +kernel
theorem dX7_places_18 : decode cX7_places 18 = .ok (.putfield 103, 3) := by decide +kernel
theorem dX7_places_21 : decode cX7_places 21 = .ok (.aload_n 0, 1) := by decide +kernel
theorem dX7_places_22 : decode cX7_places 22 = .ok (.aload_n 0, 1) := by decide +kernel
theorem dX7_places_23 : decode cX7_places 23 = .ok (.getfield 50, 3) := by decide +kernel
theorem dX7_places_26 : decode cX7_places 26 = .ok (.ifCond .ne 13, 3) := by decide +kernel
theorem dX7_places_29 : decode cX7_places 29 = .ok (.aload_n 0, 1) := by decide +kernel
theorem dX7_places_30 : decode cX7_places 30 = .ok (.getfield 53, 3) := by decide +kernel
theorem dX7_places_33 : decode cX7_places 33 = .ok (.invokestatic 160, 3) := by decide +kernel
theorem dX7_places_36 : decode cX7_places 36 = .ok (.ifCond .eq 7, 3) := by decide +kernel
theorem dX7_places_39 : decode cX7_places 39 = .ok (.iconst 1, 1) := by decide +kernel
theorem dX7_places_40 : decode cX7_places 40 = .ok (.goto 4, 3) := by decide +kernel
theorem dX7_places_43 : decode cX7_places 43 = .ok (.iconst 0, 1) := by decide +kernel
theorem dX7_places_44 : decode cX7_places 44 = .ok (.iconst 3, 1) := by decide +kernel
theorem dX7_places_45 : decode cX7_places 45 = .ok (.invokevirtual 121, 3) := by decide +kernel
theorem dX7_places_48 : decode cX7_places 48 = .ok (.aload_n 0, 1) := by decide +kernel
theorem dX7_places_49 : decode cX7_places 49 = .ok (.getfield 114, 3) := by decide +kernel
theorem dX7_places_52 : decode cX7_places 52 = .ok (.ifCond .le 4, 3) := by decide +kernel
theorem dX7_places_55 : decode cX7_places 55 = .ok (.return_, 1) := by decide +kernel
theorem dX7_places_56 : decode cX7_places 56 = .ok (.aload_n 0, 1) := by decide +kernel
theorem dX7_places_57 : decode cX7_places 57 = .ok (.aload_n 0, 1) := by decide +kernel
theorem dX7_places_58 : decode cX7_places 58 = .ok (.bipush 30, 2) := by decide +kernel
theorem dX7_places_60 : decode cX7_places 60 = .ok (.invokevirtual 134, 3) := by decide +kernel
theorem dX7_places_63 : decode cX7_places 63 = .ok (.ifCond .eq 7, 3) := by decide +kernel
theorem dX7_places_66 : decode cX7_places 66 = .ok (.iconst 2, 1) := by decide +kernel
theorem dX7_places_67 : decode cX7_places 67 = .ok (.goto 4, 3) := by decide +kernel
theorem dX7_places_70 : decode cX7_places 70 = .ok (.iconst 1, 1) := by decide +kernel
theorem dX7_places_71 : decode cX7_places 71 = .ok (.aload_n 0, 1) := by decide +kernel
theorem dX7_places_72 : decode cX7_places 72 = .ok (.getfield 103, 3) := by decide +kernel
theorem dX7_places_75 : decode cX7_places 75 = .ok (.iconst 0, 1) := by decide +kernel
theorem dX7_places_76 : decode cX7_places 76 = .ok (.invokestatic 110, 3) := by decide +kernel
theorem dX7_places_79 : decode cX7_places 79 = .ok (.i2l, 1) := by decide +kernel
theorem dX7_places_80 : decode cX7_places 80 = .ok (.invokevirtual 71, 3) := by decide +kernel
theorem dX7_places_83 : decode cX7_places 83 = .ok (.aload_n 0, 1) := by decide +kernel
theorem dX7_places_84 : decode cX7_places 84 = .ok (.iconst 3, 1) := by decide +kernel
theorem dX7_places_85 : decode cX7_places 85 = .ok (.invokevirtual 131, 3) := by decide +kernel
theorem dX7_places_88 : decode cX7_places 88 = .ok (.aload_n 0, 1) := by decide +kernel
theorem dX7_places_89 : decode cX7_places 89 = .ok (.aload_n 0, 1) := by decide +kernel
theorem dX7_places_90 : decode cX7_places 90 = .ok (.bipush 31, 2) := by decide +kernel
theorem dX7_places_92 : decode cX7_places 92 = .ok (.invokevirtual 134, 3) := by decide +kernel
theorem dX7_places_95 : decode cX7_places 95 = .ok (.ifCond .eq 7, 3) := by decide +kernel
theorem dX7_places_98 : decode cX7_places 98 = .ok (.iconst 2, 1) := by decide +kernel
theorem dX7_places_99 : decode cX7_places 99 = .ok (.goto 4, 3) := by decide +kernel
theorem dX7_places_102 : decode cX7_places 102 = .ok (.iconst 1, 1) := by decide +kernel
theorem dX7_places_103 : decode cX7_places 103 = .ok (.aload_n 0, 1) := by decide +kernel
theorem dX7_places_104 : decode cX7_places 104 = .ok (.getfield 103, 3) := by decide +kernel
theorem dX7_places_107 : decode cX7_places 107 = .ok (.iconst 1, 1) := by decide +kernel
theorem dX7_places_108 : decode cX7_places 108 = .ok (.invokestatic 110, 3) := by decide +kernel
theorem dX7_places_111 : decode cX7_places 111 = .ok (.i2l, 1) := by decide +kernel
theorem dX7_places_112 : decode cX7_places 112 = .ok (.invokevirtual 71, 3) := by decide +kernel
theorem dX7_places_115 : decode cX7_places 115 = .ok (.aload_n 0, 1) := by decide +kernel
theorem dX7_places_116 : decode cX7_places 116 = .ok (.iconst 4, 1) := by decide +kernel
theorem dX7_places_117 : decode cX7_places 117 = .ok (.invokevirtual 131, 3) := by decide +kernel
theorem dX7_places_120 : decode cX7_places 120 = .ok (.aload_n 0, 1) := by decide +kernel
theorem dX7_places_121 : decode cX7_places 121 = .ok (.iconst 0, 1) := by decide +kernel
theorem dX7_places_122 : decode cX7_places 122 = .ok (.aload_n 0, 1) := by decide +kernel
theorem dX7_places_123 : decode cX7_places 123 = .ok (.bipush 32, 2) := by decide +kernel
theorem dX7_places_125 : decode cX7_places 125 = .ok (.invokevirtual 134, 3) := by decide +kernel
theorem dX7_places_128 : decode cX7_places 128 = .ok (.ifCond .eq 9, 3) := by decide +kernel
theorem dX7_places_131 : decode cX7_places 131 = .ok (.ldc2_w 158, 3) := by decide +kernel
theorem dX7_places_134 : decode cX7_places 134 = .ok (.goto 4, 3) := by decide +kernel
theorem dX7_places_137 : decode cX7_places 137 = .ok (.lconst 1, 1) := by decide +kernel
theorem dX7_places_138 : decode cX7_places 138 = .ok (.invokevirtual 71, 3) := by decide +kernel
theorem dX7_places_141 : decode cX7_places 141 = .ok (.aload_n 0, 1) := by decide +kernel
theorem dX7_places_142 : decode cX7_places 142 = .ok (.bipush 7, 2) := by decide +kernel
theorem dX7_places_144 : decode cX7_places 144 = .ok (.invokevirtual 131, 3) := by decide +kernel
theorem dX7_places_147 : decode cX7_places 147 = .ok (.aload_n 0, 1) := by decide +kernel
theorem dX7_places_148 : decode cX7_places 148 = .ok (.bipush 42, 2) := by decide +kernel
theorem dX7_places_150 : decode cX7_places 150 = .ok (.invokevirtual 134, 3) := by decide +kernel
theorem dX7_places_153 : decode cX7_places 153 = .ok (.ifCond .ne 4, 3) := by decide +kernel
theorem dX7_places_156 : decode cX7_places 156 = .ok (.return_, 1) := by decide +kernel
theorem dX7_places_157 : decode cX7_places 157 = .ok (.aload_n 0, 1) := by decide +kernel
theorem dX7_places_158 : decode cX7_places 158 = .ok (.iconst 3, 1) := by decide +kernel
theorem dX7_places_159 : decode cX7_places 159 = .ok (.iconst 2, 1) := by decide +kernel
theorem dX7_places_160 : decode cX7_places 160 = .ok (.invokevirtual 152, 3) := by decide +kernel
theorem dX7_places_163 : decode cX7_places 163 = .ok (.aload_n 0, 1) := by decide +kernel
theorem dX7_places_164 : decode cX7_places 164 = .ok (.iconst 4, 1) := by decide +kernel
theorem dX7_places_165 : decode cX7_places 165 = .ok (.bipush 7, 2) := by decide +kernel
theorem dX7_places_167 : decode cX7_places 167 = .ok (.invokevirtual 152, 3) := by decide +kernel
theorem dX7_places_170 : decode cX7_places 170 = .ok (.return_, 1) := by decide +kernel
set_option maxRecDepth 20000 in
theorem ggX7_step_X7_places : GoodIn wsX7_step wsX7_places := goodIn_r _ [12, 1, 13, 14, 15, 16, 17, 18, 19, 11, 20, 21, 22, 23, 24, 25, 7, 5, 26, 27, 28, 29, 30, 31, 32, 33, 34, 35, 36, 37, 38, 39, 40, 41, 42, 43, 44, 45, 46, 47, 48, 49, 50, 51, 52, 53, 54, 55, 56, 57, 58, 59, 60, 61, 62, 63, 64, 65, 66, 67, 68, 69, 70, 71, 72, 73, 74, 75, 76, 77, 78, 79, 80, 81, 82, 83, 84, 85, 86, 87, 88, 143, 144, 145, 146, 147, 148, 149, 150, 151, 152, 153, 154, 155, 156, 157] (by decide +kernel) (by decide +kernel)
set_option maxRecDepth 20000 in
theorem gX7_step_X7_places : GoodIn wsX7_step (wsV RX7 163 RX7 yX7_places wsX7_places) := goodIn_app (goodIn_of _ (by decide +kernel)) ggX7_step_X7_places
set_option maxRecDepth 20000 in
theorem ggX7_step_X7_placeOfOp1 : GoodIn wsX7_step wsX7_placeOfOp1 := goodIn_r _ [92, 14, 1, 47, 48, 49, 11, 50, 43, 44, 45, 46, 51, 52, 53, 54, 5, 7, 13, 55, 56, 21, 57, 58, 59, 60, 15, 17, 18, 19, 20, 22, 23, 24, 25, 26, 27, 28, 29, 30, 31, 32, 33, 34, 35, 36, 93, 94, 95, 96, 61, 62, 63, 64, 65, 66, 67, 68, 143, 144, 145, 146, 147, 148, 149, 150, 151, 152, 153, 154, 155, 156, 157] (by decide +kernel) (by decide +kernel)
set_option maxRecDepth 20000 in
theorem gX7_step_X7_placeOfOp1 : GoodIn wsX7_step (wsV RX7 166 RX7 yX7_placeOfOp1 wsX7_placeOfOp1) := goodIn_app (goodIn_of _ (by decide +kernel)) ggX7_step_X7_placeOfOp1
set_option maxRecDepth 20000 in
theorem ggX7_step_X7_deduce : GoodIn wsX7_step wsX7_deduce := goodIn_r _ [100, 1, 21, 5, 7, 47, 48, 49, 11, 50, 14, 22, 23, 24, 25, 26, 27, 15, 28, 13, 29, 30, 31, 32, 65, 66, 67, 68, 101, 102, 103, 104, 105, 106, 107, 108, 109, 110, 111, 112, 113, 114, 115, 116, 117, 57, 58, 59, 60, 118, 119, 120, 121, 56, 122, 51, 52, 53, 54, 55, 123, 124, 125, 126, 61, 62, 63, 64, 33, 34, 35, 36, 69, 70, 71, 72, 73, 74, 75, 76, 77, 78, 79, 80, 81, 82, 83, 84, 85, 86, 87, 88, 143, 144, 145, 146, 147, 148, 149, 150, 151, 152, 153, 154, 155, 156, 157] (by decide +kernel) (by decide +kernel)
set_option maxRecDepth 20000 in
theorem gX7_step_X7_deduce : GoodIn wsX7_step (wsV RX7 169 RX7 yX7_deduce wsX7_deduce) := goodIn_app (goodIn_of _ (by decide +kernel)) ggX7_step_X7_deduce
set_option maxRecDepth 20000 in
theorem ggX7_step_X7_result : GoodIn wsX7_step wsX7_result := goodIn_r _ [130, 1, 47, 48, 49, 11, 50, 14, 17, 18, 19, 20, 21, 22, 23, 24, 25, 7, 5, 26, 27, 15, 28, 13, 29, 30, 31, 32, 33, 34, 35, 36, 61, 62, 63, 64, 65, 66, 67, 68, 131, 132, 133, 134, 105, 106, 107, 108, 109, 110, 111, 112, 113, 114, 115, 116, 117, 57, 58, 59, 60, 118, 119, 120, 121, 56, 122, 51, 52, 53, 54, 55, 123, 124, 125, 126, 143, 144, 145, 146, 147, 148, 149, 150, 151, 152, 153, 154, 155, 156, 157] (by decide +kernel) (by decide +kernel)
set_option maxRecDepth 20000 in
theorem gX7_step_X7_result : GoodIn wsX7_step (wsV RX7 172 RX7 yX7_result wsX7_result) := goodIn_app (goodIn_of _ (by decide +kernel)) ggX7_step_X7_result
set_option maxRecDepth 20000 in
theorem ggX7_step_X7_flag : GoodIn wsX7_step wsX7_flag := goodIn_r _ [50, 14, 143, 144, 145, 146, 147, 148, 149, 150, 151, 152, 153, 154, 155, 156, 157] (by decide +kernel) (by decide +kernel)
set_option maxRecDepth 20000 in
theorem gX7_step_X7_flag : GoodIn wsX7_step (wsV RX7 134 RX7 yX7_flag wsX7_flag) := goodIn_app (goodIn_of _ (by decide +kernel)) ggX7_step_X7_flag
set_option maxRecDepth 20000 in
theorem ggX7_step_X7_store : GoodIn wsX7_step wsX7_store := goodIn_r _ [72, 1, 5, 7, 73, 74, 75, 11, 76, 26, 27, 28, 29, 30, 31, 32, 77, 78, 79, 80, 81, 82, 83, 84, 85, 86, 87, 88, 33, 34, 35, 36, 143, 144, 145, 146, 147, 148, 149, 150, 151, 152, 153, 154, 155, 156, 157] (by decide +kernel) (by decide +kernel)
set_option maxRecDepth 20000 in
theorem gX7_step_X7_store : GoodIn wsX7_step (wsV RX7 152 RX7 yX7_store wsX7_store) := goodIn_app (goodIn_of _ (by decide +kernel)) ggX7_step_X7_store
set_option maxRecDepth 20000 in
theorem ggX7_step_X7_jump : GoodIn wsX7_step wsX7_jump := goodIn_r _ [138, 1, 5, 7, 15, 13, 51, 52, 53, 11, 54, 55, 56, 21, 57, 58, 59, 60, 65, 66, 67, 68, 47, 48, 49, 50, 14, 93, 94, 95, 96, 61, 62, 63, 64, 33, 34, 35, 36, 131, 132, 133, 134, 105, 106, 107, 108, 109, 110, 111, 112, 113, 114, 115, 116, 117, 118, 119, 120, 121, 122, 17, 18, 19, 20, 22, 23, 24, 25, 26, 27, 28, 29, 30, 31, 32, 143, 144, 145, 146, 147, 148, 149, 150, 151, 152, 153, 154, 155, 156, 157] (by decide +kernel) (by decide +kernel)
set_option maxRecDepth 20000 in
theorem gX7_step_X7_jump : GoodIn wsX7_step (wsV RX7 175 RX7 yX7_jump wsX7_jump) := goodIn_app (goodIn_of _ (by decide +kernel)) ggX7_step_X7_jump
set_option maxRecDepth 20000 in
theorem ggX7_step_X7_move : GoodIn wsX7_step wsX7_move := goodIn_r _ [142, 1, 5, 7, 16, 57, 58, 59, 11, 60, 21, 15, 13, 47, 48, 49, 50, 14, 131, 132, 133, 134, 105, 106, 107, 108, 109, 110, 111, 112, 113, 114, 115, 116, 117, 118, 119, 120, 121, 56, 122, 51, 52, 53, 54, 55, 93, 94, 95, 96, 61, 62, 63, 64, 33, 34, 35, 36, 65, 66, 67, 68, 17, 18, 19, 20, 22, 23, 24, 25, 26, 27, 28, 29, 30, 31, 32, 143, 144, 145, 146, 147, 148, 149, 150, 151, 152, 153, 154, 155, 156, 157] (by decide +kernel) (by decide +kernel)
set_option maxRecDepth 20000 in
theorem gX7_step_X7_move : GoodIn wsX7_step (wsV RX7 178 RX7 yX7_move wsX7_move) := goodIn_app (goodIn_of _ (by decide +kernel)) ggX7_step_X7_move
theorem dX7_step_0 : decode cX7_step 0 = .ok (.aload_n 0, 1) := by decide +kernel
theorem dX7_step_1 : decode cX7_step 1 = .ok (.iconst 0, 1) := by decide +kernel
theorem dX7_step_2 : decode cX7_step 2 = .ok (.putfield 114, 3) := by decide +kernel
theorem dX7_step_5 : decode cX7_step 5 = .ok (.aload_n 0, 1) := by decide +kernel
theorem dX7_step_6 : decode cX7_step 6 = .ok (.invokevirtual 163, 3) := by decide +kernel
theorem dX7_step_9 : decode cX7_step 9 = .ok (.aload_n 0, 1) := by decide +kernel
theorem dX7_step_10 : decode cX7_step 10 = .ok (.getfield 114, 3) := by decide +kernel
theorem dX7_step_13 : decode cX7_step 13 = .ok (.ifCond .ne 7, 3) := by decide +kernel
theorem dX7_step_16 : decode cX7_step 16 = .ok (.aload_n 0, 1) := by decide +kernel
theorem dX7_step_17 : decode cX7_step 17 = .ok (.invokevirtual 166, 3) := by decide +kernel
theorem dX7_step_20 : decode cX7_step 20 = .ok (.aload_n 0, 1) := by decide +kernel
theorem dX7_step_21 : decode cX7_step 21 = .ok (.invokevirtual 169, 3) := by decide +kernel
theorem dX7_step_24 : decode cX7_step 24 = .ok (.aload_n 0, 1) := by decide +kernel
theorem dX7_step_25 : decode cX7_step 25 = .ok (.invokevirtual 172, 3) := by decide +kernel
theorem dX7_step_28 : decode cX7_step 28 = .ok (.aload_n 0, 1) := by decide +kernel
theorem dX7_step_29 : decode cX7_step 29 = .ok (.getfield 114, 3) := by decide +kernel
theorem dX7_step_32 : decode cX7_step 32 = .ok (.ifCond .ne 19, 3) := by decide +kernel
theorem dX7_step_35 : decode cX7_step 35 = .ok (.aload_n 0, 1) := by decide +kernel
theorem dX7_step_36 : decode cX7_step 36 = .ok (.bipush 44, 2) := by decide +kernel
theorem dX7_step_38 : decode cX7_step 38 = .ok (.invokevirtual 134, 3) := by decide +kernel
theorem dX7_step_41 : decode cX7_step 41 = .ok (.ifCond .eq 10, 3) := by decide +kernel
theorem dX7_step_44 : decode cX7_step 44 = .ok (.aload_n 0, 1) := by decide +kernel
theorem dX7_step_45 : decode cX7_step 45 = .ok (.iconst 3, 1) := by decide +kernel
theorem dX7_step_46 : decode cX7_step 46 = .ok (.bipush 6, 2) := by decide +kernel
theorem dX7_step_48 : decode cX7_step 48 = .ok (.invokevirtual 152, 3) := by decide +kernel
theorem dX7_step_51 : decode cX7_step 51 = .ok (.aload_n 0, 1) := by decide +kernel
theorem dX7_step_52 : decode cX7_step 52 = .ok (.aload_n 0, 1) := by decide +kernel
theorem dX7_step_53 : decode cX7_step 53 = .ok (.bipush 32, 2) := by decide +kernel
theorem dX7_step_55 : decode cX7_step 55 = .ok (.invokevirtual 134, 3) := by decide +kernel
theorem dX7_step_58 : decode cX7_step 58 = .ok (.ifCond .eq 7, 3) := by decide +kernel
theorem dX7_step_61 : decode cX7_step 61 = .ok (.iconst 2, 1) := by decide +kernel
theorem dX7_step_62 : decode cX7_step 62 = .ok (.goto 4, 3) := by decide +kernel
theorem dX7_step_65 : decode cX7_step 65 = .ok (.iconst 1, 1) := by decide +kernel
theorem dX7_step_66 : decode cX7_step 66 = .ok (.invokevirtual 175, 3) := by decide +kernel
theorem dX7_step_69 : decode cX7_step 69 = .ok (.aload_n 0, 1) := by decide +kernel
theorem dX7_step_70 : decode cX7_step 70 = .ok (.invokevirtual 178, 3) := by decide +kernel
theorem dX7_step_73 : decode cX7_step 73 = .ok (.aload_n 0, 1) := by decide +kernel
theorem dX7_step_74 : decode cX7_step 74 = .ok (.aload_n 0, 1) := by decide +kernel
theorem dX7_step_75 : decode cX7_step 75 = .ok (.getfield 114, 3) := by decide +kernel
theorem dX7_step_78 : decode cX7_step 78 = .ok (.putfield 181, 3) := by decide +kernel
theorem dX7_step_81 : decode cX7_step 81 = .ok (.aload_n 0, 1) := by decide +kernel
theorem dX7_step_82 : decode cX7_step 82 = .ok (.getfield 114, 3) := by decide +kernel
theorem dX7_step_85 : decode cX7_step 85 = .ok (.ifCond .le 5, 3) := by decide +kernel
theorem dX7_step_88 : decode cX7_step 88 = .ok (.iconst 0, 1) := by decide +kernel
theorem dX7_step_89 : decode cX7_step 89 = .ok (.ireturn, 1) := by decide +kernel
theorem dX7_step_90 : decode cX7_step 90 = .ok (.iconst 0, 1) := by decide +kernel
theorem dX7_step_91 : decode cX7_step 91 = .ok (.istore_n 1, 1) := by decide +kernel
theorem dX7_step_92 : decode cX7_step 92 = .ok (.iload_n 1, 1) := by decide +kernel
theorem dX7_step_93 : decode cX7_step 93 = .ok (.iconst 3, 1) := by decide +kernel
theorem dX7_step_94 : decode cX7_step 94 = .ok (.if_icmp .ge 77, 3) := by decide +kernel
theorem dX7_step_97 : decode cX7_step 97 = .ok (.aload_n 0, 1) := by decide +kernel
theorem dX7_step_98 : decode cX7_step 98 = .ok (.getfield 27, 3) := by decide +kernel
theorem dX7_step_101 : decode cX7_step 101 = .ok (.iconst 3, 1) := by decide +kernel
theorem dX7_step_102 : decode cX7_step 102 = .ok (.aload_n 0, 1) := by decide +kernel
theorem dX7_step_103 : decode cX7_step 103 = .ok (.getfield 184, 3) := by decide +kernel
theorem dX7_step_106 : decode cX7_step 106 = .ok (.imul, 1) := by decide +kernel
theorem dX7_step_107 : decode cX7_step 107 = .ok (.iload_n 1, 1) := by decide +kernel
theorem dX7_step_108 : decode cX7_step 108 = .ok (.iadd, 1) := by decide +kernel
theorem dX7_step_109 : decode cX7_step 109 = .ok (.aload_n 0, 1) := by decide +kernel
theorem dX7_step_110 : decode cX7_step 110 = .ok (.getfield 21, 3) := by decide +kernel
theorem dX7_step_113 : decode cX7_step 113 = .ok (.iload_n 1, 1) := by decide +kernel
theorem dX7_step_114 : decode cX7_step 114 = .ok (.iaload, 1) := by decide +kernel
theorem dX7_step_115 : decode cX7_step 115 = .ok (.iastore, 1) := by decide +kernel
theorem dX7_step_116 : decode cX7_step 116 = .ok (.aload_n 0, 1) := by decide +kernel
theorem dX7_step_117 : decode cX7_step 117 = .ok (.getfield 30, 3) := by decide +kernel
theorem dX7_step_120 : decode cX7_step 120 = .ok (.iconst 3, 1) := by decide +kernel
theorem dX7_step_121 : decode cX7_step 121 = .ok (.aload_n 0, 1) := by decide +kernel
theorem dX7_step_122 : decode cX7_step 122 = .ok (.getfield 184, 3) := by decide +kernel
theorem dX7_step_125 : decode cX7_step 125 = .ok (.imul, 1) := by decide +kernel
theorem dX7_step_126 : decode cX7_step 126 = .ok (.iload_n 1, 1) := by decide +kernel
theorem dX7_step_127 : decode cX7_step 127 = .ok (.iadd, 1) := by decide +kernel
theorem dX7_step_128 : decode cX7_step 128 = .ok (.aload_n 0, 1) := by decide +kernel
theorem dX7_step_129 : decode cX7_step 129 = .ok (.getfield 24, 3) := by decide +kernel
theorem dX7_step_132 : decode cX7_step 132 = .ok (.iload_n 1, 1) := by decide +kernel
theorem dX7_step_133 : decode cX7_step 133 = .ok (.laload, 1) := by decide +kernel
theorem dX7_step_134 : decode cX7_step 134 = .ok (.lastore, 1) := by decide +kernel
theorem dX7_step_135 : decode cX7_step 135 = .ok (.aload_n 0, 1) := by decide +kernel
theorem dX7_step_136 : decode cX7_step 136 = .ok (.getfield 21, 3) := by decide +kernel
theorem dX7_step_139 : decode cX7_step 139 = .ok (.iload_n 1, 1) := by decide +kernel
theorem dX7_step_140 : decode cX7_step 140 = .ok (.aload_n 0, 1) := by decide +kernel
theorem dX7_step_141 : decode cX7_step 141 = .ok (.getfield 21, 3) := by decide +kernel
theorem dX7_step_144 : decode cX7_step 144 = .ok (.bipush 7, 2) := by decide +kernel
theorem dX7_step_146 : decode cX7_step 146 = .ok (.iload_n 1, 1) := by decide +kernel
theorem dX7_step_147 : decode cX7_step 147 = .ok (.iadd, 1) := by decide +kernel
theorem dX7_step_148 : decode cX7_step 148 = .ok (.iaload, 1) := by decide +kernel
theorem dX7_step_149 : decode cX7_step 149 = .ok (.iastore, 1) := by decide +kernel
theorem dX7_step_150 : decode cX7_step 150 = .ok (.aload_n 0, 1) := by decide +kernel
theorem dX7_step_151 : decode cX7_step 151 = .ok (.getfield 24, 3) := by decide +kernel
theorem dX7_step_154 : decode cX7_step 154 = .ok (.iload_n 1, 1) := by decide +kernel
theorem dX7_step_155 : decode cX7_step 155 = .ok (.aload_n 0, 1) := by decide +kernel
theorem dX7_step_156 : decode cX7_step 156 = .ok (.getfield 24, 3) := by decide +kernel
theorem dX7_step_159 : decode cX7_step 159 = .ok (.bipush 7, 2) := by decide +kernel
theorem dX7_step_161 : decode cX7_step 161 = .ok (.iload_n 1, 1) := by decide +kernel
theorem dX7_step_162 : decode cX7_step 162 = .ok (.iadd, 1) := by decide +kernel
theorem dX7_step_163 : decode cX7_step 163 = .ok (.laload, 1) := by decide +kernel
theorem dX7_step_164 : decode cX7_step 164 = .ok (.lastore, 1) := by decide +kernel
theorem dX7_step_165 : decode cX7_step 165 = .ok (.iinc 1 1, 3) := by decide +kernel
theorem dX7_step_168 : decode cX7_step 168 = .ok (.goto (-76), 3) := by decide +kernel
theorem dX7_step_171 : decode cX7_step 171 = .ok (.aload_n 0, 1) := by decide +kernel
theorem dX7_step_172 : decode cX7_step 172 = .ok (.dup, 1) := by decide +kernel
theorem dX7_step_173 : decode cX7_step 173 = .ok (.getfield 184, 3) := by decide +kernel
theorem dX7_step_176 : decode cX7_step 176 = .ok (.iconst 1, 1) := by decide +kernel
theorem dX7_step_177 : decode cX7_step 177 = .ok (.iadd, 1) := by decide +kernel
theorem dX7_step_178 : decode cX7_step 178 = .ok (.putfield 184, 3) := by decide +kernel
theorem dX7_step_181 : decode cX7_step 181 = .ok (.iconst 1, 1) := by decide +kernel
theorem dX7_step_182 : decode cX7_step 182 = .ok (.ireturn, 1) := by decide +kernel
set_option maxRecDepth 20000 in
theorem ggX7_run_X7_out : GoodIn wsX7_run wsX7_out := goodIn_r _ [5] (by decide +kernel) (by decide +kernel)
set_option maxRecDepth 20000 in
theorem gX7_run_X7_out : GoodIn wsX7_run (va_wsS RX7 187 yX7_out wsX7_out) := goodIn_app (goodIn_of _ (by decide +kernel)) ggX7_run_X7_out
set_option maxRecDepth 20000 in
theorem ggX7_run_X7_throwing : GoodIn wsX7_run wsX7_throwing := goodIn_r _ [9, 10, 155, 156, 157, 158, 159, 160, 161, 162, 163, 164, 165, 166, 167, 168, 169] (by decide +kernel) (by decide +kernel)
set_option maxRecDepth 20000 in
theorem gX7_run_X7_throwing : GoodIn wsX7_run (wsV RX7 191 RX7 yX7_throwing wsX7_throwing) := goodIn_app (goodIn_of _ (by decide +kernel)) ggX7_run_X7_throwing
set_option maxRecDepth 20000 in
theorem ggX7_run_X7_step_a0 : GoodIn wsX7_run [.code yX7_step cX7_step 2 (some .boolean)] := goodIn_r _ [14] (by decide +kernel) (by decide +kernel)
set_option maxRecDepth 20000 in
theorem ggX7_run_X7_step_a1 : GoodIn wsX7_run wsX7_step_r1 := goodIn_r _ [15, 16, 17, 1, 18, 19, 20, 21, 22, 23, 4, 24, 25, 26, 27, 28, 29, 30, 31, 32, 33, 34, 35, 36] (by decide +kernel) (by decide +kernel)
set_option maxRecDepth 20000 in
theorem ggX7_run_X7_step_a2 : GoodIn wsX7_run wsX7_step_r2 := goodIn_r _ [37, 38, 39, 40, 41, 42, 43, 44, 45, 46, 47, 48, 49, 50, 51, 52, 53, 54, 55, 56, 57, 58, 59, 60] (by decide +kernel) (by decide +kernel)
set_option maxRecDepth 20000 in
theorem ggX7_run_X7_step_a3 : GoodIn wsX7_run wsX7_step_r3 := goodIn_r _ [61, 62, 63, 64, 65, 66, 67, 68, 69, 70, 71, 72, 73, 74, 75, 76, 77, 78, 79, 80, 81, 82, 83, 84] (by decide +kernel) (by decide +kernel)
set_option maxRecDepth 20000 in
theorem ggX7_run_X7_step_a4 : GoodIn wsX7_run wsX7_step_r4 := goodIn_r _ [85, 86, 87, 88, 89, 90, 91, 92, 93, 94, 95, 96, 97, 98, 99, 100, 101, 102, 103, 104, 105, 106, 107, 108] (by decide +kernel) (by decide +kernel)
set_option maxRecDepth 20000 in
theorem ggX7_run_X7_step_a5 : GoodIn wsX7_run wsX7_step_r5 := goodIn_r _ [109, 110, 111, 112, 113, 114, 115, 116, 117, 118, 119, 120, 121, 122, 123, 124, 125, 126, 127, 128, 129, 130, 131, 132] (by decide +kernel) (by decide +kernel)
set_option maxRecDepth 20000 in
theorem ggX7_run_X7_step_a6 : GoodIn wsX7_run wsX7_step_r6 := goodIn_r _ [133, 134, 135, 136, 137, 138, 139, 140, 141, 142, 143, 144, 145, 146, 147, 148, 149, 150, 151, 152, 153, 154] (by decide +kernel) (by decide +kernel)
set_option maxRecDepth 20000 in
theorem ggX7_run_X7_step_a7 : GoodIn wsX7_run wsX70 := goodIn_r _ [155, 156, 157, 158, 159, 160, 161, 162, 163, 164, 165, 166, 167, 168, 169] (by decide +kernel) (by decide +kernel)
theorem ggX7_run_X7_step : GoodIn wsX7_run wsX7_step := fun w h => (List.mem_cons.mp h).elim (fun e => ggX7_run_X7_step_a0 w (List.mem_singleton.mpr e)) (fun h => (List.mem_append.mp h).elim (fun h => (goodIn_app ggX7_run_X7_step_a1 (goodIn_app ggX7_run_X7_step_a2 (goodIn_app ggX7_run_X7_step_a3 (goodIn_app ggX7_run_X7_step_a4 (goodIn_app ggX7_run_X7_step_a5 (ggX7_run_X7_step_a6)))))) w h) (fun h => ggX7_run_X7_step_a7 w h))
set_option maxRecDepth 20000 in
theorem gX7_run_X7_step : GoodIn wsX7_run (wsV RX7 195 RX7 yX7_step wsX7_step) := goodIn_app (goodIn_of _ (by decide +kernel)) ggX7_run_X7_step
theorem dX7_run_0 : decode cX7_run 0 = .ok (.aload_n 0, 1) := by decide +kernel
theorem dX7_run_1 : decode cX7_run 1 = .ok (.iload_n 1, 1) := by decide +kernel
theorem dX7_run_2 : decode cX7_run 2 = .ok (.iconst 1, 1) := by decide +kernel
theorem dX7_run_3 : decode cX7_run 3 = .ok (.bipush 100, 2) := by decide +kernel
theorem dX7_run_5 : decode cX7_run 5 = .ok (.invokestatic 187, 3) := by decide +kernel
theorem dX7_run_8 : decode cX7_run 8 = .ok (.iconst 0, 1) := by decide +kernel
theorem dX7_run_9 : decode cX7_run 9 = .ok (.invokevirtual 191, 3) := by decide +kernel
theorem dX7_run_12 : decode cX7_run 12 = .ok (.ifCond .eq 5, 3) := by decide +kernel
theorem dX7_run_15 : decode cX7_run 15 = .ok (.iconst 0, 1) := by decide +kernel
theorem dX7_run_16 : decode cX7_run 16 = .ok (.ireturn, 1) := by decide +kernel
theorem dX7_run_17 : decode cX7_run 17 = .ok (.iconst 0, 1) := by decide +kernel
theorem dX7_run_18 : decode cX7_run 18 = .ok (.istore_n 2, 1) := by decide +kernel
theorem dX7_run_19 : decode cX7_run 19 = .ok (.iload_n 2, 1) := by decide +kernel
theorem dX7_run_20 : decode cX7_run 20 = .ok (.iload_n 1, 1) := by decide +kernel
theorem dX7_run_21 : decode cX7_run 21 = .ok (.if_icmp .ge 25, 3) := by decide +kernel
theorem dX7_run_24 : decode cX7_run 24 = .ok (.aload_n 0, 1) := by decide +kernel
theorem dX7_run_25 : decode cX7_run 25 = .ok (.getfield 184, 3) := by decide +kernel
theorem dX7_run_28 : decode cX7_run 28 = .ok (.bipush 64, 2) := by decide +kernel
theorem dX7_run_30 : decode cX7_run 30 = .ok (.if_icmp .ge 16, 3) := by decide +kernel
theorem dX7_run_33 : decode cX7_run 33 = .ok (.aload_n 0, 1) := by decide +kernel
theorem dX7_run_34 : decode cX7_run 34 = .ok (.invokevirtual 195, 3) := by decide +kernel
theorem dX7_run_37 : decode cX7_run 37 = .ok (.ifCond .eq 9, 3) := by decide +kernel
theorem dX7_run_40 : decode cX7_run 40 = .ok (.iinc 2 1, 3) := by decide +kernel
theorem dX7_run_43 : decode cX7_run 43 = .ok (.goto (-24), 3) := by decide +kernel
theorem dX7_run_46 : decode cX7_run 46 = .ok (.iload_n 2, 1) := by decide +kernel
theorem dX7_run_47 : decode cX7_run 47 = .ok (.ireturn, 1) := by decide +kernel
set_option maxRecDepth 20000 in
theorem ggX7_encode_X7_out : GoodIn wsX7_encode wsX7_out := goodIn_r _ [6] (by decide +kernel) (by decide +kernel)
set_option maxRecDepth 20000 in
theorem gX7_encode_X7_out : GoodIn wsX7_encode (va_wsS RX7 187 yX7_out wsX7_out) := goodIn_app (goodIn_of _ (by decide +kernel)) ggX7_encode_X7_out
set_option maxRecDepth 20000 in
theorem ggX7_encode_X7_throwing : GoodIn wsX7_encode wsX7_throwing := goodIn_r _ [10, 11, 12, 13, 14, 15, 16, 17, 18, 19, 20, 21, 22, 23, 24, 25, 26] (by decide +kernel) (by decide +kernel)
set_option maxRecDepth 20000 in
theorem gX7_encode_X7_throwing : GoodIn wsX7_encode (wsV RX7 191 RX7 yX7_throwing wsX7_throwing) := goodIn_app (goodIn_of _ (by decide +kernel)) ggX7_encode_X7_throwing
theorem dX7_encode_0 : decode cX7_encode 0 = .ok (.aload_n 0, 1) := by decide +kernel
theorem dX7_encode_1 : decode cX7_encode 1 = .ok (.iload_n 1, 1) := by decide +kernel
theorem dX7_encode_2 : decode cX7_encode 2 = .ok (.sipush (-512), 3) := by decide +kernel
theorem dX7_encode_5 : decode cX7_encode 5 = .ok (.sipush 511, 3) := by decide +kernel
theorem dX7_encode_8 : decode cX7_encode 8 = .ok (.invokestatic 187, 3) := by decide +kernel
theorem dX7_encode_11 : decode cX7_encode 11 = .ok (.ifCond .ne 41, 3) := by decide +kernel
theorem dX7_encode_14 : decode cX7_encode 14 = .ok (.iload_n 2, 1) := by decide +kernel
theorem dX7_encode_15 : decode cX7_encode 15 = .ok (.sipush (-512), 3) := by decide +kernel
theorem dX7_encode_18 : decode cX7_encode 18 = .ok (.sipush 511, 3) := by decide +kernel
theorem dX7_encode_21 : decode cX7_encode 21 = .ok (.invokestatic 187, 3) := by decide +kernel
theorem dX7_encode_24 : decode cX7_encode 24 = .ok (.ifCond .ne 28, 3) := by decide +kernel
theorem dX7_encode_27 : decode cX7_encode 27 = .ok (.iload_n 3, 1) := by decide +kernel
theorem dX7_encode_28 : decode cX7_encode 28 = .ok (.sipush (-512), 3) := by decide +kernel
theorem dX7_encode_31 : decode cX7_encode 31 = .ok (.sipush 511, 3) := by decide +kernel
theorem dX7_encode_34 : decode cX7_encode 34 = .ok (.invokestatic 187, 3) := by decide +kernel
theorem dX7_encode_37 : decode cX7_encode 37 = .ok (.ifCond .ne 15, 3) := by decide +kernel
theorem dX7_encode_40 : decode cX7_encode 40 = .ok (.iload 4, 2) := by decide +kernel
theorem dX7_encode_42 : decode cX7_encode 42 = .ok (.iconst 0, 1) := by decide +kernel
theorem dX7_encode_43 : decode cX7_encode 43 = .ok (.sipush 32767, 3) := by decide +kernel
theorem dX7_encode_46 : decode cX7_encode 46 = .ok (.invokestatic 187, 3) := by decide +kernel
theorem dX7_encode_49 : decode cX7_encode 49 = .ok (.ifCond .eq 7, 3) := by decide +kernel
theorem dX7_encode_52 : decode cX7_encode 52 = .ok (.iconst 1, 1) := by decide +kernel
theorem dX7_encode_53 : decode cX7_encode 53 = .ok (.goto 4, 3) := by decide +kernel
theorem dX7_encode_56 : decode cX7_encode 56 = .ok (.iconst 0, 1) := by decide +kernel

set_option maxRecDepth 20000 in
theorem ggL_segment_X6_segment_a0 : GoodIn wsL_segment [.code yX6_segment cX6_segment 5 (some .int)] := goodIn_r _ [7] (by decide +kernel) (by decide +kernel)
set_option maxRecDepth 20000 in
theorem ggL_segment_X6_segment_a1 : GoodIn wsL_segment wsX6_segment_r1 := goodIn_r _ [8, 9, 10, 6, 11, 12, 13, 14, 15, 16, 17, 18, 19, 20, 21, 22, 23, 24, 25, 26, 27, 28, 29, 30] (by decide +kernel) (by decide +kernel)
set_option maxRecDepth 20000 in
theorem ggL_segment_X6_segment_a2 : GoodIn wsL_segment wsX6_segment_r2 := goodIn_r _ [31, 32, 33, 34, 35, 36, 37, 38, 39, 40, 41, 42, 43, 44, 45, 46] (by decide +kernel) (by decide +kernel)
set_option maxRecDepth 20000 in
theorem ggL_segment_X6_segment_a3 : GoodIn wsL_segment wsX60 := goodIn_r _ [47, 48, 49, 50] (by decide +kernel) (by decide +kernel)
set_option maxRecDepth 20000 in
theorem ggL_segment_X6_segment_a4 : GoodIn wsL_segment wsX10 := goodIn_r _ [51] (by decide +kernel) (by decide +kernel)
theorem ggL_segment_X6_segment : GoodIn wsL_segment wsX6_segment := fun w h => (List.mem_cons.mp h).elim (fun e => ggL_segment_X6_segment_a0 w (List.mem_singleton.mpr e)) (fun h => (goodIn_app (goodIn_app (goodIn_app (goodIn_app (goodIn_app ggL_segment_X6_segment_a1 ggL_segment_X6_segment_a2) ggL_segment_X6_segment_a3) ggL_segment_X6_segment_a4) (goodIn_sub (fun _ h => List.mem_cons_of_mem _ (List.mem_append_left _ (List.mem_append_right _ h))) (by decide +kernel))) (goodIn_sub (fun _ h => List.mem_cons_of_mem _ (List.mem_append_right _ h)) (by decide +kernel))) w h)
set_option maxRecDepth 20000 in
theorem gL_segment_X6_segment : GoodIn wsL_segment (wsV RL 41 RX6 yX6_segment wsX6_segment) := goodIn_app (goodIn_of _ (by decide +kernel)) ggL_segment_X6_segment
theorem dL_segment_0 : decode cL_segment 0 = .ok (.aload_n 3, 1) := by decide +kernel
theorem dL_segment_1 : decode cL_segment 1 = .ok (.iconst 0, 1) := by decide +kernel
theorem dL_segment_2 : decode cL_segment 2 = .ok (.aload_n 0, 1) := by decide +kernel
theorem dL_segment_3 : decode cL_segment 3 = .ok (.iload_n 1, 1) := by decide +kernel
theorem dL_segment_4 : decode cL_segment 4 = .ok (.iload_n 2, 1) := by decide +kernel
theorem dL_segment_5 : decode cL_segment 5 = .ok (.invokevirtual 41, 3) := by decide +kernel
theorem dL_segment_8 : decode cL_segment 8 = .ok (.i2l, 1) := by decide +kernel
theorem dL_segment_9 : decode cL_segment 9 = .ok (.lastore, 1) := by decide +kernel
theorem dL_segment_10 : decode cL_segment 10 = .ok (.goto 11, 3) := by decide +kernel
theorem dL_segment_13 : decode cL_segment 13 = .ok (.astore 4, 2) := by decide +kernel
theorem dL_segment_15 : decode cL_segment 15 = .ok (.iconst 1, 1) := by decide +kernel
theorem dL_segment_16 : decode cL_segment 16 = .ok (.ireturn, 1) := by decide +kernel
theorem dL_segment_17 : decode cL_segment 17 = .ok (.astore 4, 2) := by decide +kernel
theorem dL_segment_19 : decode cL_segment 19 = .ok (.iconst 2, 1) := by decide +kernel
theorem dL_segment_20 : decode cL_segment 20 = .ok (.ireturn, 1) := by decide +kernel
theorem dL_segment_21 : decode cL_segment 21 = .ok (.iconst 0, 1) := by decide +kernel
theorem dL_segment_22 : decode cL_segment 22 = .ok (.ireturn, 1) := by decide +kernel
set_option maxRecDepth 20000 in
theorem ggL_value_X6_value_a0 : GoodIn wsL_value [.code yX6_value cX6_value 5 (some .long)] := goodIn_r _ [7] (by decide +kernel) (by decide +kernel)
set_option maxRecDepth 20000 in
theorem ggL_value_X6_value_a1 : GoodIn wsL_value wsX6_value_r1 := goodIn_r _ [8, 9, 10, 6, 11, 12, 13, 14, 15, 16, 17, 18, 19, 20, 21, 22, 23, 24, 25, 26, 27, 28, 29, 30] (by decide +kernel) (by decide +kernel)
set_option maxRecDepth 20000 in
theorem ggL_value_X6_value_a2 : GoodIn wsL_value wsX6_value_r2 := goodIn_r _ [31, 32, 33, 34, 35, 36, 37, 38, 39, 40, 41, 42, 43, 44, 45, 46, 47] (by decide +kernel) (by decide +kernel)
set_option maxRecDepth 20000 in
theorem ggL_value_X6_value_a3 : GoodIn wsL_value wsX60 := goodIn_r _ [48, 49, 50, 51] (by decide +kernel) (by decide +kernel)
set_option maxRecDepth 20000 in
theorem ggL_value_X6_value_a4 : GoodIn wsL_value wsX10 := goodIn_r _ [52] (by decide +kernel) (by decide +kernel)
theorem ggL_value_X6_value : GoodIn wsL_value wsX6_value := fun w h => (List.mem_cons.mp h).elim (fun e => ggL_value_X6_value_a0 w (List.mem_singleton.mpr e)) (fun h => (goodIn_app (goodIn_app (goodIn_app (goodIn_app (goodIn_app ggL_value_X6_value_a1 ggL_value_X6_value_a2) ggL_value_X6_value_a3) ggL_value_X6_value_a4) (goodIn_sub (fun _ h => List.mem_cons_of_mem _ (List.mem_append_left _ (List.mem_append_right _ h))) (by decide +kernel))) (goodIn_sub (fun _ h => List.mem_cons_of_mem _ (List.mem_append_right _ h)) (by decide +kernel))) w h)
set_option maxRecDepth 20000 in
theorem gL_value_X6_value : GoodIn wsL_value (wsV RL 47 RX6 yX6_value wsX6_value) := goodIn_app (goodIn_of _ (by decide +kernel)) ggL_value_X6_value
theorem dL_value_0 : decode cL_value 0 = .ok (.aload_n 3, 1) := by decide +kernel
theorem dL_value_1 : decode cL_value 1 = .ok (.iconst 0, 1) := by decide +kernel
theorem dL_value_2 : decode cL_value 2 = .ok (.aload_n 0, 1) := by decide +kernel
theorem dL_value_3 : decode cL_value 3 = .ok (.iload_n 1, 1) := by decide +kernel
theorem dL_value_4 : decode cL_value 4 = .ok (.iload_n 2, 1) := by decide +kernel
theorem dL_value_5 : decode cL_value 5 = .ok (.invokevirtual 47, 3) := by decide +kernel
theorem dL_value_8 : decode cL_value 8 = .ok (.lastore, 1) := by decide +kernel
theorem dL_value_9 : decode cL_value 9 = .ok (.goto 11, 3) := by decide +kernel
theorem dL_value_12 : decode cL_value 12 = .ok (.astore 4, 2) := by decide +kernel
theorem dL_value_14 : decode cL_value 14 = .ok (.iconst 1, 1) := by decide +kernel
theorem dL_value_15 : decode cL_value 15 = .ok (.ireturn, 1) := by decide +kernel
theorem dL_value_16 : decode cL_value 16 = .ok (.astore 4, 2) := by decide +kernel
theorem dL_value_18 : decode cL_value 18 = .ok (.iconst 2, 1) := by decide +kernel
theorem dL_value_19 : decode cL_value 19 = .ok (.ireturn, 1) := by decide +kernel
theorem dL_value_20 : decode cL_value 20 = .ok (.iconst 0, 1) := by decide +kernel
theorem dL_value_21 : decode cL_value 21 = .ok (.ireturn, 1) := by decide +kernel
set_option maxRecDepth 20000 in
theorem ggL_traced_X6_traced_a0 : GoodIn wsL_traced [.code yX6_traced cX6_traced 3 (some .long)] := goodIn_r _ [7] (by decide +kernel) (by decide +kernel)
set_option maxRecDepth 20000 in
theorem ggL_traced_X6_traced_a1 : GoodIn wsL_traced wsX6_traced_r1 := goodIn_r _ [8, 9, 10, 11, 12, 13, 6, 14, 15, 16, 17, 18, 19, 20, 21, 22, 23, 24, 25, 26, 27, 28, 29, 30] (by decide +kernel) (by decide +kernel)
set_option maxRecDepth 20000 in
theorem ggL_traced_X6_traced_a2 : GoodIn wsL_traced wsX6_traced_r2 := goodIn_r _ [31, 32, 33, 34, 35, 36, 37, 38, 39, 40, 41, 42, 43, 44, 45, 46, 47, 48, 49, 50, 51, 52, 53, 54] (by decide +kernel) (by decide +kernel)
set_option maxRecDepth 20000 in
theorem ggL_traced_X6_traced_a3 : GoodIn wsL_traced wsX6_traced_r3 := goodIn_r _ [55, 56, 57, 58, 59, 60, 61, 62, 63, 64, 65, 66, 67, 68, 69, 70, 71, 72, 73] (by decide +kernel) (by decide +kernel)
set_option maxRecDepth 20000 in
theorem ggL_traced_X6_traced_a4 : GoodIn wsL_traced wsX60 := goodIn_r _ [74, 75, 76, 77] (by decide +kernel) (by decide +kernel)
set_option maxRecDepth 20000 in
theorem ggL_traced_X6_traced_a5 : GoodIn wsL_traced wsX30 := goodIn_r _ [78, 79] (by decide +kernel) (by decide +kernel)
set_option maxRecDepth 20000 in
theorem ggL_traced_X6_traced_a6 : GoodIn wsL_traced wsX10 := goodIn_r _ [80] (by decide +kernel) (by decide +kernel)
theorem ggL_traced_X6_traced : GoodIn wsL_traced wsX6_traced := fun w h => (List.mem_cons.mp h).elim (fun e => ggL_traced_X6_traced_a0 w (List.mem_singleton.mpr e)) (fun h => (goodIn_app (goodIn_app (goodIn_app (goodIn_app (goodIn_app (goodIn_app ggL_traced_X6_traced_a1 (goodIn_app ggL_traced_X6_traced_a2 ggL_traced_X6_traced_a3)) ggL_traced_X6_traced_a4) ggL_traced_X6_traced_a5) ggL_traced_X6_traced_a6) (goodIn_sub (fun _ h => List.mem_cons_of_mem _ (List.mem_append_left _ (List.mem_append_right _ h))) (by decide +kernel))) (goodIn_sub (fun _ h => List.mem_cons_of_mem _ (List.mem_append_right _ h)) (by decide +kernel))) w h)
set_option maxRecDepth 20000 in
theorem gL_traced_X6_traced : GoodIn wsL_traced (wsV RL 51 RX6 yX6_traced wsX6_traced) := goodIn_app (goodIn_of _ (by decide +kernel)) ggL_traced_X6_traced
theorem dL_traced_0 : decode cL_traced 0 = .ok (.aload_n 3, 1) := by decide +kernel
theorem dL_traced_1 : decode cL_traced 1 = .ok (.iconst 0, 1) := by decide +kernel
theorem dL_traced_2 : decode cL_traced 2 = .ok (.aload_n 0, 1) := by decide +kernel
theorem dL_traced_3 : decode cL_traced 3 = .ok (.iload_n 1, 1) := by decide +kernel
theorem dL_traced_4 : decode cL_traced 4 = .ok (.iload_n 2, 1) := by decide +kernel
theorem dL_traced_5 : decode cL_traced 5 = .ok (.invokevirtual 51, 3) := by decide +kernel
theorem dL_traced_8 : decode cL_traced 8 = .ok (.lastore, 1) := by decide +kernel
theorem dL_traced_9 : decode cL_traced 9 = .ok (.goto 11, 3) := by decide +kernel
theorem dL_traced_12 : decode cL_traced 12 = .ok (.astore 4, 2) := by decide +kernel
theorem dL_traced_14 : decode cL_traced 14 = .ok (.iconst 1, 1) := by decide +kernel
theorem dL_traced_15 : decode cL_traced 15 = .ok (.ireturn, 1) := by decide +kernel
theorem dL_traced_16 : decode cL_traced 16 = .ok (.astore 4, 2) := by decide +kernel
theorem dL_traced_18 : decode cL_traced 18 = .ok (.iconst 2, 1) := by decide +kernel
theorem dL_traced_19 : decode cL_traced 19 = .ok (.ireturn, 1) := by decide +kernel
theorem dL_traced_20 : decode cL_traced 20 = .ok (.iconst 0, 1) := by decide +kernel
theorem dL_traced_21 : decode cL_traced 21 = .ok (.ireturn, 1) := by decide +kernel
set_option maxRecDepth 20000 in
theorem ggL_begins_X6_begins_a0 : GoodIn wsL_begins [.code yX6_begins cX6_begins 2 (some .int)] := goodIn_r _ [6] (by decide +kernel) (by decide +kernel)
set_option maxRecDepth 20000 in
theorem ggL_begins_X6_begins_a1 : GoodIn wsL_begins wsX6_begins_r1 := goodIn_r _ [7, 8, 9, 10, 11, 12, 13, 14, 15, 16, 17, 18, 19, 20, 21, 22, 23, 24, 25, 26, 27, 28, 29, 30] (by decide +kernel) (by decide +kernel)
set_option maxRecDepth 20000 in
theorem ggL_begins_X6_begins_a2 : GoodIn wsL_begins wsX6_begins_r2 := goodIn_r _ [31, 32, 33] (by decide +kernel) (by decide +kernel)
set_option maxRecDepth 20000 in
theorem ggL_begins_X6_begins_a3 : GoodIn wsL_begins wsX60 := goodIn_r _ [34, 35, 36, 37] (by decide +kernel) (by decide +kernel)
set_option maxRecDepth 20000 in
theorem ggL_begins_X6_begins_a4 : GoodIn wsL_begins wsX10 := goodIn_r _ [38] (by decide +kernel) (by decide +kernel)
theorem ggL_begins_X6_begins : GoodIn wsL_begins wsX6_begins := fun w h => (List.mem_cons.mp h).elim (fun e => ggL_begins_X6_begins_a0 w (List.mem_singleton.mpr e)) (fun h => (goodIn_app (goodIn_app (goodIn_app (goodIn_app ggL_begins_X6_begins_a1 ggL_begins_X6_begins_a2) ggL_begins_X6_begins_a3) ggL_begins_X6_begins_a4) (goodIn_sub (fun _ h => List.mem_cons_of_mem _ (List.mem_append_right _ h)) (by decide +kernel))) w h)
set_option maxRecDepth 20000 in
theorem gL_begins_X6_begins : GoodIn wsL_begins (wsV RL 54 RX6 yX6_begins wsX6_begins) := goodIn_app (goodIn_of _ (by decide +kernel)) ggL_begins_X6_begins
theorem dL_begins_0 : decode cL_begins 0 = .ok (.aload_n 2, 1) := by decide +kernel
theorem dL_begins_1 : decode cL_begins 1 = .ok (.iconst 0, 1) := by decide +kernel
theorem dL_begins_2 : decode cL_begins 2 = .ok (.aload_n 0, 1) := by decide +kernel
theorem dL_begins_3 : decode cL_begins 3 = .ok (.iload_n 1, 1) := by decide +kernel
theorem dL_begins_4 : decode cL_begins 4 = .ok (.invokevirtual 54, 3) := by decide +kernel
theorem dL_begins_7 : decode cL_begins 7 = .ok (.i2l, 1) := by decide +kernel
theorem dL_begins_8 : decode cL_begins 8 = .ok (.lastore, 1) := by decide +kernel
theorem dL_begins_9 : decode cL_begins 9 = .ok (.goto 6, 3) := by decide +kernel
theorem dL_begins_12 : decode cL_begins 12 = .ok (.astore_n 3, 1) := by decide +kernel
theorem dL_begins_13 : decode cL_begins 13 = .ok (.iconst 1, 1) := by decide +kernel
theorem dL_begins_14 : decode cL_begins 14 = .ok (.ireturn, 1) := by decide +kernel
theorem dL_begins_15 : decode cL_begins 15 = .ok (.iconst 0, 1) := by decide +kernel
theorem dL_begins_16 : decode cL_begins 16 = .ok (.ireturn, 1) := by decide +kernel
set_option maxRecDepth 20000 in
theorem ggL_relocated_X6_relocated_a0 : GoodIn wsL_relocated [.code yX6_relocated cX6_relocated 2 (some .long)] := goodIn_r _ [6] (by decide +kernel) (by decide +kernel)
set_option maxRecDepth 20000 in
theorem ggL_relocated_X6_relocated_a1 : GoodIn wsL_relocated wsX6_relocated_r1 := goodIn_r _ [7, 8, 9, 10, 11, 12, 13, 14, 15, 16, 17, 18, 19, 20, 21, 22, 23, 24, 25, 26, 27, 28, 29, 30] (by decide +kernel) (by decide +kernel)
set_option maxRecDepth 20000 in
theorem ggL_relocated_X6_relocated_a2 : GoodIn wsL_relocated wsX6_relocated_r2 := goodIn_r _ [31, 32, 33, 34, 35, 36, 37, 38, 39, 40, 41, 42, 43, 44, 45, 46, 47, 48, 49, 50, 51, 52, 53, 54] (by decide +kernel) (by decide +kernel)
set_option maxRecDepth 20000 in
theorem ggL_relocated_X6_relocated_a3 : GoodIn wsL_relocated wsX6_relocated_r3 := goodIn_r _ [55, 56, 57, 58, 59, 60, 61, 62, 63] (by decide +kernel) (by decide +kernel)
set_option maxRecDepth 20000 in
theorem ggL_relocated_X6_relocated_a4 : GoodIn wsL_relocated wsX60 := goodIn_r _ [64, 65, 66, 67] (by decide +kernel) (by decide +kernel)
set_option maxRecDepth 20000 in
theorem ggL_relocated_X6_relocated_a5 : GoodIn wsL_relocated wsX10 := goodIn_r _ [68] (by decide +kernel) (by decide +kernel)
theorem ggL_relocated_X6_relocated : GoodIn wsL_relocated wsX6_relocated := fun w h => (List.mem_cons.mp h).elim (fun e => ggL_relocated_X6_relocated_a0 w (List.mem_singleton.mpr e)) (fun h => (goodIn_app (goodIn_app (goodIn_app (goodIn_app ggL_relocated_X6_relocated_a1 (goodIn_app ggL_relocated_X6_relocated_a2 ggL_relocated_X6_relocated_a3)) ggL_relocated_X6_relocated_a4) ggL_relocated_X6_relocated_a5) (goodIn_sub (fun _ h => List.mem_cons_of_mem _ (List.mem_append_right _ h)) (by decide +kernel))) w h)
set_option maxRecDepth 20000 in
theorem gL_relocated_X6_relocated : GoodIn wsL_relocated (wsV RL 57 RX6 yX6_relocated wsX6_relocated) := goodIn_app (goodIn_of _ (by decide +kernel)) ggL_relocated_X6_relocated
theorem dL_relocated_0 : decode cL_relocated 0 = .ok (.aload_n 2, 1) := by decide +kernel
theorem dL_relocated_1 : decode cL_relocated 1 = .ok (.iconst 0, 1) := by decide +kernel
theorem dL_relocated_2 : decode cL_relocated 2 = .ok (.aload_n 0, 1) := by decide +kernel
theorem dL_relocated_3 : decode cL_relocated 3 = .ok (.iload_n 1, 1) := by decide +kernel
theorem dL_relocated_4 : decode cL_relocated 4 = .ok (.invokevirtual 57, 3) := by decide +kernel
theorem dL_relocated_7 : decode cL_relocated 7 = .ok (.lastore, 1) := by decide +kernel
theorem dL_relocated_8 : decode cL_relocated 8 = .ok (.goto 6, 3) := by decide +kernel
theorem dL_relocated_11 : decode cL_relocated 11 = .ok (.astore_n 3, 1) := by decide +kernel
theorem dL_relocated_12 : decode cL_relocated 12 = .ok (.iconst 1, 1) := by decide +kernel
theorem dL_relocated_13 : decode cL_relocated 13 = .ok (.ireturn, 1) := by decide +kernel
theorem dL_relocated_14 : decode cL_relocated 14 = .ok (.iconst 0, 1) := by decide +kernel
theorem dL_relocated_15 : decode cL_relocated 15 = .ok (.ireturn, 1) := by decide +kernel
set_option maxRecDepth 20000 in
theorem ggL_reckon_X6_reckon_a0 : GoodIn wsL_reckon [.code yX6_reckon cX6_reckon 10 (some .long)] := goodIn_r _ [7] (by decide +kernel) (by decide +kernel)
set_option maxRecDepth 20000 in
theorem ggL_reckon_X6_reckon_a1 : GoodIn wsL_reckon wsX6_reckon_r1 := goodIn_r _ [8, 9, 10, 11, 12, 13, 14, 15, 16, 17, 18, 19, 20, 21, 22, 23, 24, 25, 26, 27, 28, 29, 30, 31] (by decide +kernel) (by decide +kernel)
set_option maxRecDepth 20000 in
theorem ggL_reckon_X6_reckon_a2 : GoodIn wsL_reckon wsX6_reckon_r2 := goodIn_r _ [32, 33, 34, 35, 36, 37, 38] (by decide +kernel) (by decide +kernel)
theorem ggL_reckon_X6_reckon : GoodIn wsL_reckon wsX6_reckon := fun w h => (List.mem_cons.mp h).elim (fun e => ggL_reckon_X6_reckon_a0 w (List.mem_singleton.mpr e)) (fun h => (goodIn_app (goodIn_app (goodIn_app ggL_reckon_X6_reckon_a1 ggL_reckon_X6_reckon_a2) (goodIn_sub (fun _ h => List.mem_cons_of_mem _ (List.mem_append_left _ (List.mem_append_right _ h))) (by decide +kernel))) (goodIn_sub (fun _ h => List.mem_cons_of_mem _ (List.mem_append_right _ h)) (by decide +kernel))) w h)
set_option maxRecDepth 20000 in
theorem gL_reckon_X6_reckon : GoodIn wsL_reckon (wsV RL 61 RX6 yX6_reckon wsX6_reckon) := goodIn_app (goodIn_of _ (by decide +kernel)) ggL_reckon_X6_reckon
theorem dL_reckon_0 : decode cL_reckon 0 = .ok (.aload 6, 2) := by decide +kernel
theorem dL_reckon_2 : decode cL_reckon 2 = .ok (.iconst 0, 1) := by decide +kernel
theorem dL_reckon_3 : decode cL_reckon 3 = .ok (.aload_n 0, 1) := by decide +kernel
theorem dL_reckon_4 : decode cL_reckon 4 = .ok (.iload_n 1, 1) := by decide +kernel
theorem dL_reckon_5 : decode cL_reckon 5 = .ok (.lload_n 2, 1) := by decide +kernel
theorem dL_reckon_6 : decode cL_reckon 6 = .ok (.lload 4, 2) := by decide +kernel
theorem dL_reckon_8 : decode cL_reckon 8 = .ok (.invokevirtual 61, 3) := by decide +kernel
theorem dL_reckon_11 : decode cL_reckon 11 = .ok (.lastore, 1) := by decide +kernel
theorem dL_reckon_12 : decode cL_reckon 12 = .ok (.goto 11, 3) := by decide +kernel
theorem dL_reckon_15 : decode cL_reckon 15 = .ok (.astore 7, 2) := by decide +kernel
theorem dL_reckon_17 : decode cL_reckon 17 = .ok (.iconst 1, 1) := by decide +kernel
theorem dL_reckon_18 : decode cL_reckon 18 = .ok (.ireturn, 1) := by decide +kernel
theorem dL_reckon_19 : decode cL_reckon 19 = .ok (.astore 7, 2) := by decide +kernel
theorem dL_reckon_21 : decode cL_reckon 21 = .ok (.iconst 2, 1) := by decide +kernel
theorem dL_reckon_22 : decode cL_reckon 22 = .ok (.ireturn, 1) := by decide +kernel
theorem dL_reckon_23 : decode cL_reckon 23 = .ok (.iconst 0, 1) := by decide +kernel
theorem dL_reckon_24 : decode cL_reckon 24 = .ok (.ireturn, 1) := by decide +kernel
set_option maxRecDepth 20000 in
theorem ggL_law_X6_init_a0 : GoodIn wsL_law [.code yX6_init cX6_init 1 none] := goodIn_r _ [10] (by decide +kernel) (by decide +kernel)
set_option maxRecDepth 20000 in
theorem ggL_law_X6_init_a1 : GoodIn wsL_law wsX6_init_r1 := goodIn_r _ [11, 12, 13, 14, 15, 16, 17, 18, 19, 20, 21, 22, 23, 24, 25, 26, 27, 28, 29, 30, 6, 31, 32, 33] (by decide +kernel) (by decide +kernel)
set_option maxRecDepth 20000 in
theorem ggL_law_X6_init_a2 : GoodIn wsL_law wsX6_init_r2 := goodIn_r _ [34, 35, 36, 37, 38, 39, 40, 41, 42, 43, 44, 45, 46, 47, 48, 49, 50, 51, 52, 53, 54, 55, 56, 57] (by decide +kernel) (by decide +kernel)
set_option maxRecDepth 20000 in
theorem ggL_law_X6_init_a3 : GoodIn wsL_law wsX6_init_r3 := goodIn_r _ [58] (by decide +kernel) (by decide +kernel)
set_option maxRecDepth 20000 in
theorem ggL_law_X6_init_a4 : GoodIn wsL_law wsX10 := goodIn_r _ [719] (by decide +kernel) (by decide +kernel)
set_option maxRecDepth 20000 in
theorem ggL_law_X6_init_a5 : GoodIn wsL_law wsX60 := goodIn_r _ [700, 701, 702, 703] (by decide +kernel) (by decide +kernel)
set_option maxRecDepth 20000 in
theorem ggL_law_X6_init_a6 : GoodIn wsL_law wsX20 := goodIn_r _ [720, 721, 722, 723, 724, 725, 726, 727, 728, 729, 730, 731, 732] (by decide +kernel) (by decide +kernel)
set_option maxRecDepth 20000 in
theorem ggL_law_X6_init_a7 : GoodIn wsL_law wsX30 := goodIn_r _ [733, 734] (by decide +kernel) (by decide +kernel)
theorem ggL_law_X6_init : GoodIn wsL_law wsX6_init := fun w h => (List.mem_cons.mp h).elim (fun e => ggL_law_X6_init_a0 w (List.mem_singleton.mpr e)) (fun h => (goodIn_app (goodIn_app (goodIn_app (goodIn_app (goodIn_app ggL_law_X6_init_a1 (goodIn_app ggL_law_X6_init_a2 ggL_law_X6_init_a3)) ggL_law_X6_init_a4) ggL_law_X6_init_a5) ggL_law_X6_init_a6) ggL_law_X6_init_a7) w h)
set_option maxRecDepth 20000 in
theorem gL_law_X6_init : GoodIn wsL_law (wsX6_init) := ggL_law_X6_init
set_option maxRecDepth 20000 in
theorem ggL_law_X7_init : GoodIn wsL_law wsX7_init := goodIn_r _ [61, 62, 12, 13, 63, 64, 65, 66, 6, 67, 68, 69, 70, 71, 704, 705, 706, 707, 708, 709, 710, 711, 712, 713, 714, 715, 716, 717, 718] (by decide +kernel) (by decide +kernel)
set_option maxRecDepth 20000 in
theorem gL_law_X7_init : GoodIn wsL_law (wsX7_init) := ggL_law_X7_init
set_option maxRecDepth 20000 in
theorem ggL_law_L_encode : GoodIn wsL_law wsL_encode := goodIn_ca (goodIn_r _ [75, 76, 77, 78, 79, 2, 80, 81, 82, 83, 84, 85, 86, 87, 88, 89] (by decide +kernel) (by decide +kernel)) (goodIn_sub (fun _ h => List.mem_append_left _ (List.mem_append_left _ (List.mem_append_left _ (List.mem_append_right _ h)))) (by decide +kernel))
set_option maxRecDepth 20000 in
theorem gL_law_L_encode : GoodIn wsL_law (va_wsS RL 71 yL_encode wsL_encode) := goodIn_app (goodIn_of _ (by decide +kernel)) ggL_law_L_encode
set_option maxRecDepth 20000 in
theorem ggL_law_X7_encode : GoodIn wsL_law wsX7_encode := goodIn_r _ [93, 94, 95, 96, 97, 5, 98, 99, 100, 101, 102, 103, 704, 705, 706, 707, 708, 709, 710, 711, 712, 713, 714, 715, 716, 717, 718] (by decide +kernel) (by decide +kernel)
set_option maxRecDepth 20000 in
theorem gL_law_X7_encode : GoodIn wsL_law (wsV RL 76 RX7 yX7_encode wsX7_encode) := goodIn_app (goodIn_of _ (by decide +kernel)) ggL_law_X7_encode

set_option maxRecDepth 20000 in
theorem ggL_encode_X6_encode : GoodIn wsL_encode wsX6_encode := goodIn_ca (goodIn_r _ [6, 7, 8, 9, 10, 11, 12, 13, 14, 15] (by decide +kernel) (by decide +kernel)) (goodIn_sub (fun _ h => List.mem_cons_of_mem _ (List.mem_append_right _ h)) (by decide +kernel))
set_option maxRecDepth 20000 in
theorem gL_encode_X6_encode : GoodIn wsL_encode (wsV RL 7 RX6 yX6_encode wsX6_encode) := goodIn_app (goodIn_of _ (by decide +kernel)) ggL_encode_X6_encode
theorem dL_encode_0 : decode cL_encode 0 = .ok (.aload 5, 2) := by decide +kernel
theorem dL_encode_2 : decode cL_encode 2 = .ok (.iconst 0, 1) := by decide +kernel
theorem dL_encode_3 : decode cL_encode 3 = .ok (.aload_n 0, 1) := by decide +kernel
theorem dL_encode_4 : decode cL_encode 4 = .ok (.iload_n 1, 1) := by decide +kernel
theorem dL_encode_5 : decode cL_encode 5 = .ok (.iload_n 2, 1) := by decide +kernel
theorem dL_encode_6 : decode cL_encode 6 = .ok (.iload_n 3, 1) := by decide +kernel
theorem dL_encode_7 : decode cL_encode 7 = .ok (.iload 4, 2) := by decide +kernel
theorem dL_encode_9 : decode cL_encode 9 = .ok (.invokevirtual 7, 3) := by decide +kernel
theorem dL_encode_12 : decode cL_encode 12 = .ok (.lastore, 1) := by decide +kernel
theorem dL_encode_13 : decode cL_encode 13 = .ok (.goto 7, 3) := by decide +kernel
theorem dL_encode_16 : decode cL_encode 16 = .ok (.astore 6, 2) := by decide +kernel
theorem dL_encode_18 : decode cL_encode 18 = .ok (.iconst 1, 1) := by decide +kernel
theorem dL_encode_19 : decode cL_encode 19 = .ok (.ireturn, 1) := by decide +kernel
theorem dL_encode_20 : decode cL_encode 20 = .ok (.iconst 0, 1) := by decide +kernel
theorem dL_encode_21 : decode cL_encode 21 = .ok (.ireturn, 1) := by decide +kernel
set_option maxRecDepth 20000 in
theorem ggL_decode_X6_decode_a0 : GoodIn wsL_decode [.code yX6_decode cX6_decode 4 (some .int)] := goodIn_r _ [7] (by decide +kernel) (by decide +kernel)
set_option maxRecDepth 20000 in
theorem ggL_decode_X6_decode_a1 : GoodIn wsL_decode wsX6_decode_r1 := goodIn_r _ [8, 9, 10, 11, 12, 13, 14, 15, 16, 17, 18, 19, 20, 21, 22, 23, 24, 25, 26, 27, 28, 29, 30, 31] (by decide +kernel) (by decide +kernel)
set_option maxRecDepth 20000 in
theorem ggL_decode_X6_decode_a2 : GoodIn wsL_decode wsX6_decode_r2 := goodIn_r _ [32, 33, 34, 35, 36, 37, 38, 39, 40, 41, 42, 43, 44] (by decide +kernel) (by decide +kernel)
theorem ggL_decode_X6_decode : GoodIn wsL_decode wsX6_decode := fun w h => (List.mem_cons.mp h).elim (fun e => ggL_decode_X6_decode_a0 w (List.mem_singleton.mpr e)) (fun h => (goodIn_app (goodIn_app (goodIn_app ggL_decode_X6_decode_a1 ggL_decode_X6_decode_a2) (goodIn_sub (fun _ h => List.mem_cons_of_mem _ (List.mem_append_left _ (List.mem_append_right _ h))) (by decide +kernel))) (goodIn_sub (fun _ h => List.mem_cons_of_mem _ (List.mem_append_right _ h)) (by decide +kernel))) w h)
set_option maxRecDepth 20000 in
theorem gL_decode_X6_decode : GoodIn wsL_decode (wsV RL 15 RX6 yX6_decode wsX6_decode) := goodIn_app (goodIn_of _ (by decide +kernel)) ggL_decode_X6_decode
theorem dL_decode_0 : decode cL_decode 0 = .ok (.aload 4, 2) := by decide +kernel
theorem dL_decode_2 : decode cL_decode 2 = .ok (.iconst 0, 1) := by decide +kernel
theorem dL_decode_3 : decode cL_decode 3 = .ok (.aload_n 0, 1) := by decide +kernel
theorem dL_decode_4 : decode cL_decode 4 = .ok (.lload_n 1, 1) := by decide +kernel
theorem dL_decode_5 : decode cL_decode 5 = .ok (.iload_n 3, 1) := by decide +kernel
theorem dL_decode_6 : decode cL_decode 6 = .ok (.invokevirtual 15, 3) := by decide +kernel
theorem dL_decode_9 : decode cL_decode 9 = .ok (.i2l, 1) := by decide +kernel
theorem dL_decode_10 : decode cL_decode 10 = .ok (.lastore, 1) := by decide +kernel
theorem dL_decode_11 : decode cL_decode 11 = .ok (.goto 11, 3) := by decide +kernel
theorem dL_decode_14 : decode cL_decode 14 = .ok (.astore 5, 2) := by decide +kernel
theorem dL_decode_16 : decode cL_decode 16 = .ok (.iconst 1, 1) := by decide +kernel
theorem dL_decode_17 : decode cL_decode 17 = .ok (.ireturn, 1) := by decide +kernel
theorem dL_decode_18 : decode cL_decode 18 = .ok (.astore 5, 2) := by decide +kernel
theorem dL_decode_20 : decode cL_decode 20 = .ok (.iconst 2, 1) := by decide +kernel
theorem dL_decode_21 : decode cL_decode 21 = .ok (.ireturn, 1) := by decide +kernel
theorem dL_decode_22 : decode cL_decode 22 = .ok (.iconst 0, 1) := by decide +kernel
theorem dL_decode_23 : decode cL_decode 23 = .ok (.ireturn, 1) := by decide +kernel
set_option maxRecDepth 20000 in
theorem ggL_number_X6_number_a0 : GoodIn wsL_number [.code yX6_number cX6_number 5 none] := goodIn_r _ [7] (by decide +kernel) (by decide +kernel)
set_option maxRecDepth 20000 in
theorem ggL_number_X6_number_a1 : GoodIn wsL_number wsX6_number_r1 := goodIn_r _ [8, 9, 10, 11, 12, 13, 14, 15, 16, 17, 18, 19, 6, 20, 21, 22, 23, 24, 25, 26, 27, 28, 29, 30] (by decide +kernel) (by decide +kernel)
set_option maxRecDepth 20000 in
theorem ggL_number_X6_number_a2 : GoodIn wsL_number wsX6_number_r2 := goodIn_r _ [31, 32, 33, 34, 35, 36, 37, 38, 39, 40, 41, 42, 43, 44, 45, 46, 47, 48, 49, 50, 51, 52, 53, 54] (by decide +kernel) (by decide +kernel)
set_option maxRecDepth 20000 in
theorem ggL_number_X6_number_a3 : GoodIn wsL_number wsX6_number_r3 := goodIn_r _ [55, 56, 57, 58, 59, 60, 61, 62, 63, 64, 65, 66, 67, 68, 69] (by decide +kernel) (by decide +kernel)
set_option maxRecDepth 20000 in
theorem ggL_number_X6_number_a4 : GoodIn wsL_number wsX60 := goodIn_r _ [70, 71, 72, 73] (by decide +kernel) (by decide +kernel)
set_option maxRecDepth 20000 in
theorem ggL_number_X6_number_a5 : GoodIn wsL_number wsX10 := goodIn_r _ [74] (by decide +kernel) (by decide +kernel)
theorem ggL_number_X6_number : GoodIn wsL_number wsX6_number := fun w h => (List.mem_cons.mp h).elim (fun e => ggL_number_X6_number_a0 w (List.mem_singleton.mpr e)) (fun h => (goodIn_app (goodIn_app (goodIn_app (goodIn_app (goodIn_app ggL_number_X6_number_a1 (goodIn_app ggL_number_X6_number_a2 ggL_number_X6_number_a3)) ggL_number_X6_number_a4) ggL_number_X6_number_a5) (goodIn_sub (fun _ h => List.mem_cons_of_mem _ (List.mem_append_left _ (List.mem_append_right _ h))) (by decide +kernel))) (goodIn_sub (fun _ h => List.mem_cons_of_mem _ (List.mem_append_right _ h)) (by decide +kernel))) w h)
set_option maxRecDepth 20000 in
theorem gL_number_X6_number : GoodIn wsL_number (wsV RL 21 RX6 yX6_number wsX6_number) := goodIn_app (goodIn_of _ (by decide +kernel)) ggL_number_X6_number
theorem dL_number_0 : decode cL_number 0 = .ok (.aload_n 0, 1) := by decide +kernel
theorem dL_number_1 : decode cL_number 1 = .ok (.iload_n 1, 1) := by decide +kernel
theorem dL_number_2 : decode cL_number 2 = .ok (.iload_n 2, 1) := by decide +kernel
theorem dL_number_3 : decode cL_number 3 = .ok (.lload_n 3, 1) := by decide +kernel
theorem dL_number_4 : decode cL_number 4 = .ok (.invokevirtual 21, 3) := by decide +kernel
theorem dL_number_7 : decode cL_number 7 = .ok (.goto 11, 3) := by decide +kernel
theorem dL_number_10 : decode cL_number 10 = .ok (.astore 5, 2) := by decide +kernel
theorem dL_number_12 : decode cL_number 12 = .ok (.iconst 1, 1) := by decide +kernel
theorem dL_number_13 : decode cL_number 13 = .ok (.ireturn, 1) := by decide +kernel
theorem dL_number_14 : decode cL_number 14 = .ok (.astore 5, 2) := by decide +kernel
theorem dL_number_16 : decode cL_number 16 = .ok (.iconst 2, 1) := by decide +kernel
theorem dL_number_17 : decode cL_number 17 = .ok (.ireturn, 1) := by decide +kernel
theorem dL_number_18 : decode cL_number 18 = .ok (.iconst 0, 1) := by decide +kernel
theorem dL_number_19 : decode cL_number 19 = .ok (.ireturn, 1) := by decide +kernel
set_option maxRecDepth 20000 in
theorem ggL_address_X6_address_a0 : GoodIn wsL_address [.code yX6_address cX6_address 7 none] := goodIn_r _ [7] (by decide +kernel) (by decide +kernel)
set_option maxRecDepth 20000 in
theorem ggL_address_X6_address_a1 : GoodIn wsL_address wsX6_address_r1 := goodIn_r _ [8, 9, 10, 11, 12, 13, 14, 15, 16, 17, 18, 19, 20, 21, 22, 23, 24, 25, 6, 26, 27, 28, 29, 30] (by decide +kernel) (by decide +kernel)
set_option maxRecDepth 20000 in
theorem ggL_address_X6_address_a2 : GoodIn wsL_address wsX6_address_r2 := goodIn_r _ [31, 32, 33, 34, 35, 36, 37, 38, 39, 40, 41, 42, 43, 44, 45, 46, 47, 48, 49, 50, 51, 52, 53, 54] (by decide +kernel) (by decide +kernel)
set_option maxRecDepth 20000 in
theorem ggL_address_X6_address_a3 : GoodIn wsL_address wsX6_address_r3 := goodIn_r _ [55, 56, 57, 58, 59, 60, 61, 62, 63, 64, 65, 66, 67] (by decide +kernel) (by decide +kernel)
set_option maxRecDepth 20000 in
theorem ggL_address_X6_address_a4 : GoodIn wsL_address wsX60 := goodIn_r _ [68, 69, 70, 71] (by decide +kernel) (by decide +kernel)
set_option maxRecDepth 20000 in
theorem ggL_address_X6_address_a5 : GoodIn wsL_address wsX10 := goodIn_r _ [72] (by decide +kernel) (by decide +kernel)
theorem ggL_address_X6_address : GoodIn wsL_address wsX6_address := fun w h => (List.mem_cons.mp h).elim (fun e => ggL_address_X6_address_a0 w (List.mem_singleton.mpr e)) (fun h => (goodIn_app (goodIn_app (goodIn_app (goodIn_app (goodIn_app ggL_address_X6_address_a1 (goodIn_app ggL_address_X6_address_a2 ggL_address_X6_address_a3)) ggL_address_X6_address_a4) ggL_address_X6_address_a5) (goodIn_sub (fun _ h => List.mem_cons_of_mem _ (List.mem_append_left _ (List.mem_append_right _ h))) (by decide +kernel))) (goodIn_sub (fun _ h => List.mem_cons_of_mem _ (List.mem_append_right _ h)) (by decide +kernel))) w h)
set_option maxRecDepth 20000 in
theorem gL_address_X6_address : GoodIn wsL_address (wsV RL 25 RX6 yX6_address wsX6_address) := goodIn_app (goodIn_of _ (by decide +kernel)) ggL_address_X6_address
theorem dL_address_0 : decode cL_address 0 = .ok (.aload_n 0, 1) := by decide +kernel
theorem dL_address_1 : decode cL_address 1 = .ok (.iload_n 1, 1) := by decide +kernel
theorem dL_address_2 : decode cL_address 2 = .ok (.iload_n 2, 1) := by decide +kernel
theorem dL_address_3 : decode cL_address 3 = .ok (.iload_n 3, 1) := by decide +kernel
theorem dL_address_4 : decode cL_address 4 = .ok (.iload 4, 2) := by decide +kernel
theorem dL_address_6 : decode cL_address 6 = .ok (.invokevirtual 25, 3) := by decide +kernel
theorem dL_address_9 : decode cL_address 9 = .ok (.goto 11, 3) := by decide +kernel
theorem dL_address_12 : decode cL_address 12 = .ok (.astore 5, 2) := by decide +kernel
theorem dL_address_14 : decode cL_address 14 = .ok (.iconst 1, 1) := by decide +kernel
theorem dL_address_15 : decode cL_address 15 = .ok (.ireturn, 1) := by decide +kernel
theorem dL_address_16 : decode cL_address 16 = .ok (.astore 5, 2) := by decide +kernel
theorem dL_address_18 : decode cL_address 18 = .ok (.iconst 2, 1) := by decide +kernel
theorem dL_address_19 : decode cL_address 19 = .ok (.ireturn, 1) := by decide +kernel
theorem dL_address_20 : decode cL_address 20 = .ok (.iconst 0, 1) := by decide +kernel
theorem dL_address_21 : decode cL_address 21 = .ok (.ireturn, 1) := by decide +kernel
set_option maxRecDepth 20000 in
theorem ggL_start_X6_start_a0 : GoodIn wsL_start [.code yX6_start cX6_start 4 none] := goodIn_r _ [6] (by decide +kernel) (by decide +kernel)
set_option maxRecDepth 20000 in
theorem ggL_start_X6_start_a1 : GoodIn wsL_start wsX6_start_r1 := goodIn_r _ [7, 8, 9, 10, 11, 12, 13, 14, 15, 16, 17, 18, 19, 20, 21, 22, 23, 24, 25, 26, 27, 28, 29, 30] (by decide +kernel) (by decide +kernel)
set_option maxRecDepth 20000 in
theorem ggL_start_X6_start_a2 : GoodIn wsL_start wsX6_start_r2 := goodIn_r _ [31, 32, 33, 34, 35, 36, 37] (by decide +kernel) (by decide +kernel)
set_option maxRecDepth 20000 in
theorem ggL_start_X6_start_a3 : GoodIn wsL_start wsX60 := goodIn_r _ [38, 39, 40, 41] (by decide +kernel) (by decide +kernel)
set_option maxRecDepth 20000 in
theorem ggL_start_X6_start_a4 : GoodIn wsL_start wsX20 := goodIn_r _ [42, 43, 44, 45, 46, 47, 48, 49, 50, 51, 52, 53, 54] (by decide +kernel) (by decide +kernel)
set_option maxRecDepth 20000 in
theorem ggL_start_X6_start_a5 : GoodIn wsL_start wsX30 := goodIn_r _ [55, 56] (by decide +kernel) (by decide +kernel)
theorem ggL_start_X6_start : GoodIn wsL_start wsX6_start := fun w h => (List.mem_cons.mp h).elim (fun e => ggL_start_X6_start_a0 w (List.mem_singleton.mpr e)) (fun h => (goodIn_app (goodIn_app (goodIn_app (goodIn_app (goodIn_app ggL_start_X6_start_a1 ggL_start_X6_start_a2) ggL_start_X6_start_a3) ggL_start_X6_start_a4) ggL_start_X6_start_a5) (goodIn_sub (fun _ h => List.mem_cons_of_mem _ (List.mem_append_right _ h)) (by decide +kernel))) w h)
set_option maxRecDepth 20000 in
theorem gL_start_X6_start : GoodIn wsL_start (wsV RL 29 RX6 yX6_start wsX6_start) := goodIn_app (goodIn_of _ (by decide +kernel)) ggL_start_X6_start
theorem dL_start_0 : decode cL_start 0 = .ok (.aload_n 0, 1) := by decide +kernel
theorem dL_start_1 : decode cL_start 1 = .ok (.iload_n 1, 1) := by decide +kernel
theorem dL_start_2 : decode cL_start 2 = .ok (.iload_n 2, 1) := by decide +kernel
theorem dL_start_3 : decode cL_start 3 = .ok (.iload_n 3, 1) := by decide +kernel
theorem dL_start_4 : decode cL_start 4 = .ok (.invokevirtual 29, 3) := by decide +kernel
theorem dL_start_7 : decode cL_start 7 = .ok (.goto 7, 3) := by decide +kernel
theorem dL_start_10 : decode cL_start 10 = .ok (.astore 4, 2) := by decide +kernel
theorem dL_start_12 : decode cL_start 12 = .ok (.iconst 1, 1) := by decide +kernel
theorem dL_start_13 : decode cL_start 13 = .ok (.ireturn, 1) := by decide +kernel
theorem dL_start_14 : decode cL_start 14 = .ok (.iconst 0, 1) := by decide +kernel
theorem dL_start_15 : decode cL_start 15 = .ok (.ireturn, 1) := by decide +kernel
set_option maxRecDepth 20000 in
theorem ggL_run_X6_run_a0 : GoodIn wsL_run [.code yX6_run cX6_run 9 (some .int)] := goodIn_r _ [6] (by decide +kernel) (by decide +kernel)
set_option maxRecDepth 20000 in
theorem ggL_run_X6_run_a1 : GoodIn wsL_run wsX6_run_r1 := goodIn_r _ [7, 8, 9, 10, 11, 12, 13, 14, 15, 16, 17, 18, 19, 20, 21, 22, 23, 24, 25, 26, 27, 28, 29, 30] (by decide +kernel) (by decide +kernel)
set_option maxRecDepth 20000 in
theorem ggL_run_X6_run_a2 : GoodIn wsL_run wsX6_run_r2 := goodIn_r _ [31, 32, 33, 34, 35, 36, 37, 38, 39, 40, 41, 42, 43, 44, 45, 46, 47, 48, 49, 50, 51, 52, 53, 54] (by decide +kernel) (by decide +kernel)
set_option maxRecDepth 20000 in
theorem ggL_run_X6_run_a3 : GoodIn wsL_run wsX6_run_r3 := goodIn_r _ [55, 56, 57, 58, 59, 60, 61, 62, 63, 64, 65, 66, 67, 68, 69, 70, 71, 72, 73, 74, 75, 76, 77, 78] (by decide +kernel) (by decide +kernel)
set_option maxRecDepth 20000 in
theorem ggL_run_X6_run_a4 : GoodIn wsL_run wsX6_run_r4 := goodIn_r _ [79, 80, 81, 82, 83, 84, 85, 86, 87, 88, 89, 90, 91, 92, 93, 94, 95, 96, 97, 98, 99, 100, 101, 102] (by decide +kernel) (by decide +kernel)
set_option maxRecDepth 20000 in
theorem ggL_run_X6_run_a5 : GoodIn wsL_run wsX6_run_r5 := goodIn_r _ [103, 104, 105, 106, 107, 108, 109, 110, 111, 112, 113, 114, 115, 116, 117, 118, 119, 120, 121, 122, 123, 124, 125, 126] (by decide +kernel) (by decide +kernel)
set_option maxRecDepth 20000 in
theorem ggL_run_X6_run_a6 : GoodIn wsL_run wsX6_run_r6 := goodIn_r _ [127, 128, 129, 130, 131, 132, 133, 134, 135, 136, 137, 138, 139, 140, 141, 142, 143, 144, 145, 146, 147, 148, 149, 150] (by decide +kernel) (by decide +kernel)
set_option maxRecDepth 20000 in
theorem ggL_run_X6_run_a7 : GoodIn wsL_run wsX6_run_r7 := goodIn_r _ [151, 152, 153, 154, 155, 156, 157, 158, 159, 160, 161, 162, 163, 164, 165, 166, 167, 168, 169, 170, 171, 172, 173, 174] (by decide +kernel) (by decide +kernel)
set_option maxRecDepth 20000 in
theorem ggL_run_X6_run_a8 : GoodIn wsL_run wsX6_run_r8 := goodIn_r _ [175, 176, 177, 178, 179, 180, 181, 182, 183, 184, 185, 186, 187, 188, 189, 190, 191, 192, 193, 194, 195, 196, 197, 198] (by decide +kernel) (by decide +kernel)
set_option maxRecDepth 20000 in
theorem ggL_run_X6_run_a9 : GoodIn wsL_run wsX6_run_r9 := goodIn_r _ [199, 200, 201, 202, 203, 204, 205, 206, 207, 208, 209, 210, 211, 212, 213, 214, 215, 216, 217, 218, 219, 220, 221, 222] (by decide +kernel) (by decide +kernel)
set_option maxRecDepth 20000 in
theorem ggL_run_X6_run_a10 : GoodIn wsL_run wsX6_run_r10 := goodIn_r _ [223, 224, 225, 226, 227, 228, 229, 230, 231, 232, 233, 234, 235, 236, 237, 238, 239, 240, 241, 242, 243, 244, 245, 246] (by decide +kernel) (by decide +kernel)
set_option maxRecDepth 20000 in
theorem ggL_run_X6_run_a11 : GoodIn wsL_run wsX6_run_r11 := goodIn_r _ [247, 248] (by decide +kernel) (by decide +kernel)
set_option maxRecDepth 20000 in
theorem ggL_run_X6_run_a12 : GoodIn wsL_run wsX60 := goodIn_r _ [249, 250, 251, 252] (by decide +kernel) (by decide +kernel)
set_option maxRecDepth 20000 in
theorem ggL_run_X6_run_a13 : GoodIn wsL_run wsX20 := goodIn_r _ [253, 254, 255, 256, 257, 258, 259, 260, 261, 262, 263, 264, 265] (by decide +kernel) (by decide +kernel)
set_option maxRecDepth 20000 in
theorem ggL_run_X6_run_a14 : GoodIn wsL_run wsX30 := goodIn_r _ [266, 267] (by decide +kernel) (by decide +kernel)
set_option maxRecDepth 20000 in
theorem ggL_run_X6_run_a15 : GoodIn wsL_run wsX10 := goodIn_r _ [268] (by decide +kernel) (by decide +kernel)
theorem ggL_run_X6_run : GoodIn wsL_run wsX6_run := fun w h => (List.mem_cons.mp h).elim (fun e => ggL_run_X6_run_a0 w (List.mem_singleton.mpr e)) (fun h => (goodIn_app (goodIn_app (goodIn_app (goodIn_app (goodIn_app (goodIn_app ggL_run_X6_run_a1 (goodIn_app ggL_run_X6_run_a2 (goodIn_app ggL_run_X6_run_a3 (goodIn_app ggL_run_X6_run_a4 (goodIn_app ggL_run_X6_run_a5 (goodIn_app ggL_run_X6_run_a6 (goodIn_app ggL_run_X6_run_a7 (goodIn_app ggL_run_X6_run_a8 (goodIn_app ggL_run_X6_run_a9 (goodIn_app ggL_run_X6_run_a10 ggL_run_X6_run_a11)))))))))) ggL_run_X6_run_a12) ggL_run_X6_run_a13) ggL_run_X6_run_a14) ggL_run_X6_run_a15) (goodIn_sub (fun _ h => List.mem_cons_of_mem _ (List.mem_append_right _ h)) (by decide +kernel))) w h)
set_option maxRecDepth 20000 in
theorem gL_run_X6_run : GoodIn wsL_run (wsV RL 33 RX6 yX6_run wsX6_run) := goodIn_app (goodIn_of _ (by decide +kernel)) ggL_run_X6_run
theorem dL_run_0 : decode cL_run 0 = .ok (.aload_n 2, 1) := by decide +kernel
theorem dL_run_1 : decode cL_run 1 = .ok (.iconst 0, 1) := by decide +kernel
theorem dL_run_2 : decode cL_run 2 = .ok (.aload_n 0, 1) := by decide +kernel
theorem dL_run_3 : decode cL_run 3 = .ok (.iload_n 1, 1) := by decide +kernel
theorem dL_run_4 : decode cL_run 4 = .ok (.invokevirtual 33, 3) := by decide +kernel
theorem dL_run_7 : decode cL_run 7 = .ok (.i2l, 1) := by decide +kernel
theorem dL_run_8 : decode cL_run 8 = .ok (.lastore, 1) := by decide +kernel
theorem dL_run_9 : decode cL_run 9 = .ok (.goto 6, 3) := by decide +kernel
theorem dL_run_12 : decode cL_run 12 = .ok (.astore_n 3, 1) := by decide +kernel
theorem dL_run_13 : decode cL_run 13 = .ok (.iconst 1, 1) := by decide +kernel
theorem dL_run_14 : decode cL_run 14 = .ok (.ireturn, 1) := by decide +kernel
theorem dL_run_15 : decode cL_run 15 = .ok (.iconst 0, 1) := by decide +kernel
theorem dL_run_16 : decode cL_run 16 = .ok (.ireturn, 1) := by decide +kernel
set_option maxRecDepth 20000 in
theorem ggL_register_X6_register : GoodIn wsL_register wsX6_register := goodIn_ca (goodIn_r _ [6, 7, 8, 9, 5, 10, 11, 12, 13, 14, 15, 16, 17, 18, 19, 20, 21, 22, 23, 24, 25, 26, 27, 28, 29, 30, 31, 32, 33, 34, 35, 36, 37, 38] (by decide +kernel) (by decide +kernel)) (goodIn_sub (fun _ h => List.mem_cons_of_mem _ (List.mem_append_right _ h)) (by decide +kernel))
set_option maxRecDepth 20000 in
theorem gL_register_X6_register : GoodIn wsL_register (wsV RL 37 RX6 yX6_register wsX6_register) := goodIn_app (goodIn_of _ (by decide +kernel)) ggL_register_X6_register
theorem dL_register_0 : decode cL_register 0 = .ok (.aload_n 3, 1) := by decide +kernel
theorem dL_register_1 : decode cL_register 1 = .ok (.iconst 0, 1) := by decide +kernel
theorem dL_register_2 : decode cL_register 2 = .ok (.aload_n 0, 1) := by decide +kernel
theorem dL_register_3 : decode cL_register 3 = .ok (.iload_n 1, 1) := by decide +kernel
theorem dL_register_4 : decode cL_register 4 = .ok (.iload_n 2, 1) := by decide +kernel
theorem dL_register_5 : decode cL_register 5 = .ok (.invokevirtual 37, 3) := by decide +kernel
theorem dL_register_8 : decode cL_register 8 = .ok (.i2l, 1) := by decide +kernel
theorem dL_register_9 : decode cL_register 9 = .ok (.lastore, 1) := by decide +kernel
theorem dL_register_10 : decode cL_register 10 = .ok (.goto 7, 3) := by decide +kernel
theorem dL_register_13 : decode cL_register 13 = .ok (.astore 4, 2) := by decide +kernel
theorem dL_register_15 : decode cL_register 15 = .ok (.iconst 1, 1) := by decide +kernel
theorem dL_register_16 : decode cL_register 16 = .ok (.ireturn, 1) := by decide +kernel
theorem dL_register_17 : decode cL_register 17 = .ok (.iconst 0, 1) := by decide +kernel
theorem dL_register_18 : decode cL_register 18 = .ok (.ireturn, 1) := by decide +kernel

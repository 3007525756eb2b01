set_option maxRecDepth 20000 in
theorem ggL_law_X7_thrown : GoodIn wsL_law wsX7_thrown := goodIn_r _ [107, 103, 704, 705, 706, 707, 708, 709, 710, 711, 712, 713, 714, 715, 716, 717, 718] (by decide +kernel) (by decide +kernel)
set_option maxRecDepth 20000 in
theorem gL_law_X7_thrown : GoodIn wsL_law (wsV RL 77 RX7 yX7_thrown wsX7_thrown) := goodIn_app (goodIn_of _ (by decide +kernel)) ggL_law_X7_thrown
set_option maxRecDepth 20000 in
theorem ggL_law_L_decode_a0 : GoodIn wsL_law [.codeWith yL_decode cL_decode 6 (some .int) [(0, 11, 14, 13), (0, 11, 18, 19)]] := goodIn_r _ [110] (by decide +kernel) (by decide +kernel)
set_option maxRecDepth 20000 in
theorem ggL_law_L_decode_a1 : GoodIn wsL_law wsL_decode_r1 := goodIn_r _ [76, 111, 112, 113, 114, 2, 115, 81, 82, 116, 117, 118, 119, 85, 120, 121, 122, 123, 124, 125, 126, 127, 128, 129] (by decide +kernel) (by decide +kernel)
set_option maxRecDepth 20000 in
theorem ggL_law_L_decode_a2 : GoodIn wsL_law wsL_decode_r2 := goodIn_r _ [130, 131, 132, 133, 134, 135, 136, 137, 138, 139, 140, 141, 142, 143, 144, 145, 146, 147, 148, 149] (by decide +kernel) (by decide +kernel)
theorem ggL_law_L_decode : GoodIn wsL_law wsL_decode := fun w h => (List.mem_cons.mp h).elim (fun e => ggL_law_L_decode_a0 w (List.mem_singleton.mpr e)) (fun h => (goodIn_app (goodIn_app (goodIn_app ggL_law_L_decode_a1 ggL_law_L_decode_a2) (goodIn_sub (fun _ h => List.mem_append_left _ (List.mem_append_left _ (List.mem_append_left _ (List.mem_append_right _ h)))) (by decide +kernel))) (goodIn_sub (fun _ h => List.mem_append_left _ (List.mem_append_left _ (List.mem_append_right _ h))) (by decide +kernel))) w h)
set_option maxRecDepth 20000 in
theorem gL_law_L_decode : GoodIn wsL_law (va_wsS RL 83 yL_decode wsL_decode) := goodIn_app (goodIn_of _ (by decide +kernel)) ggL_law_L_decode
set_option maxRecDepth 20000 in
theorem ggL_law_X7_decode : GoodIn wsL_law wsX7_decode := goodIn_r _ [153, 96, 97, 5, 98, 154, 155, 156, 157, 158, 159, 160, 161, 162, 163, 99, 100, 101, 102, 103, 704, 705, 706, 707, 708, 709, 710, 711, 712, 713, 714, 715, 716, 717, 718] (by decide +kernel) (by decide +kernel)
set_option maxRecDepth 20000 in
theorem gL_law_X7_decode : GoodIn wsL_law (wsV RL 86 RX7 yX7_decode wsX7_decode) := goodIn_app (goodIn_of _ (by decide +kernel)) ggL_law_X7_decode
set_option maxRecDepth 20000 in
theorem ggL_law_L_number_a0 : GoodIn wsL_law [.codeWith yL_number cL_number 6 (some .int) [(0, 7, 10, 13), (0, 7, 14, 19)]] := goodIn_r _ [166] (by decide +kernel) (by decide +kernel)
set_option maxRecDepth 20000 in
theorem ggL_law_L_number_a1 : GoodIn wsL_law wsL_number_r1 := goodIn_r _ [76, 111, 167, 168, 169, 2, 170, 171, 172, 173, 174, 175, 176, 177, 178, 179, 180, 181, 182, 183, 116, 117, 17, 184] (by decide +kernel) (by decide +kernel)
set_option maxRecDepth 20000 in
theorem ggL_law_L_number_a2 : GoodIn wsL_law wsL_number_r2 := goodIn_r _ [185, 186, 81, 82, 187, 188, 16, 189, 190, 191, 192, 193, 194, 195, 196, 32, 31, 197, 198, 199, 200, 201, 202, 203] (by decide +kernel) (by decide +kernel)
set_option maxRecDepth 20000 in
theorem ggL_law_L_number_a3 : GoodIn wsL_law wsL_number_r3 := goodIn_r _ [204, 205, 206, 207, 208, 209, 47, 210, 52, 211, 212, 213, 214, 215, 216, 217, 218, 219, 220, 221, 222] (by decide +kernel) (by decide +kernel)
set_option maxRecDepth 20000 in
theorem ggL_law_L_number_a4 : GoodIn wsL_law wsX60 := goodIn_r _ [700, 701, 702, 703] (by decide +kernel) (by decide +kernel)
set_option maxRecDepth 20000 in
theorem ggL_law_L_number_a5 : GoodIn wsL_law wsX10 := goodIn_r _ [719] (by decide +kernel) (by decide +kernel)
theorem ggL_law_L_number : GoodIn wsL_law wsL_number := fun w h => (List.mem_cons.mp h).elim (fun e => ggL_law_L_number_a0 w (List.mem_singleton.mpr e)) (fun h => (goodIn_app (goodIn_app (goodIn_app (goodIn_app (goodIn_app ggL_law_L_number_a1 (goodIn_app ggL_law_L_number_a2 ggL_law_L_number_a3)) ggL_law_L_number_a4) ggL_law_L_number_a5) (goodIn_sub (fun _ h => List.mem_append_left _ (List.mem_append_left _ (List.mem_append_right _ h))) (by decide +kernel))) (goodIn_sub (fun _ h => List.mem_append_left _ (List.mem_append_left _ (List.mem_append_left _ (List.mem_append_right _ h)))) (by decide +kernel))) w h)
set_option maxRecDepth 20000 in
theorem gL_law_L_number : GoodIn wsL_law (va_wsS RL 87 yL_number wsL_number) := goodIn_app (goodIn_of _ (by decide +kernel)) ggL_law_L_number
set_option maxRecDepth 20000 in
theorem ggL_law_X7_number_a0 : GoodIn wsL_law [.code yX7_number cX7_number 6 none] := goodIn_r _ [226] (by decide +kernel) (by decide +kernel)
set_option maxRecDepth 20000 in
theorem ggL_law_X7_number_a1 : GoodIn wsL_law wsX7_number_r1 := goodIn_r _ [96, 97, 5, 98, 227, 228, 229, 230, 231, 232, 233, 234, 64, 66, 67, 235, 236, 237, 238, 239, 240, 241, 242, 243] (by decide +kernel) (by decide +kernel)
set_option maxRecDepth 20000 in
theorem ggL_law_X7_number_a2 : GoodIn wsL_law wsX7_number_r2 := goodIn_r _ [244, 245, 246, 247, 248, 249, 250, 99, 100, 101, 102, 103] (by decide +kernel) (by decide +kernel)
set_option maxRecDepth 20000 in
theorem ggL_law_X7_number_a3 : GoodIn wsL_law wsX70 := goodIn_r _ [704, 705, 706, 707, 708, 709, 710, 711, 712, 713, 714, 715, 716, 717, 718] (by decide +kernel) (by decide +kernel)
theorem ggL_law_X7_number : GoodIn wsL_law wsX7_number := fun w h => (List.mem_cons.mp h).elim (fun e => ggL_law_X7_number_a0 w (List.mem_singleton.mpr e)) (fun h => (goodIn_app (goodIn_app ggL_law_X7_number_a1 ggL_law_X7_number_a2) ggL_law_X7_number_a3) w h)
set_option maxRecDepth 20000 in
theorem gL_law_X7_number : GoodIn wsL_law (wsV RL 90 RX7 yX7_number wsX7_number) := goodIn_app (goodIn_of _ (by decide +kernel)) ggL_law_X7_number
set_option maxRecDepth 20000 in
theorem ggL_law_L_address_a0 : GoodIn wsL_law [.codeWith yL_address cL_address 6 (some .int) [(0, 9, 12, 13), (0, 9, 16, 19)]] := goodIn_r _ [253] (by decide +kernel) (by decide +kernel)
set_option maxRecDepth 20000 in
theorem ggL_law_L_address_a1 : GoodIn wsL_law wsL_address_r1 := goodIn_r _ [76, 111, 254, 255, 256, 2, 257, 81, 82, 258, 259, 46, 47, 48, 49, 50, 51, 52, 187, 188, 16, 189, 180, 181] (by decide +kernel) (by decide +kernel)
set_option maxRecDepth 20000 in
theorem ggL_law_L_address_a2 : GoodIn wsL_law wsL_address_r2 := goodIn_r _ [182, 183, 116, 117, 17, 184, 185, 186, 190, 191, 192, 193, 194, 195, 196, 32, 31, 197, 198, 199, 200, 201, 202, 203] (by decide +kernel) (by decide +kernel)
set_option maxRecDepth 20000 in
theorem ggL_law_L_address_a3 : GoodIn wsL_law wsL_address_r3 := goodIn_r _ [204, 205, 206, 207, 208, 209, 210, 211, 212, 213, 214, 215, 216, 217, 218, 219, 220, 221, 222] (by decide +kernel) (by decide +kernel)
set_option maxRecDepth 20000 in
theorem ggL_law_L_address_a4 : GoodIn wsL_law wsX60 := goodIn_r _ [700, 701, 702, 703] (by decide +kernel) (by decide +kernel)
set_option maxRecDepth 20000 in
theorem ggL_law_L_address_a5 : GoodIn wsL_law wsX10 := goodIn_r _ [719] (by decide +kernel) (by decide +kernel)
theorem ggL_law_L_address : GoodIn wsL_law wsL_address := fun w h => (List.mem_cons.mp h).elim (fun e => ggL_law_L_address_a0 w (List.mem_singleton.mpr e)) (fun h => (goodIn_app (goodIn_app (goodIn_app (goodIn_app (goodIn_app ggL_law_L_address_a1 (goodIn_app ggL_law_L_address_a2 ggL_law_L_address_a3)) ggL_law_L_address_a4) ggL_law_L_address_a5) (goodIn_sub (fun _ h => List.mem_append_left _ (List.mem_append_left _ (List.mem_append_left _ (List.mem_append_right _ h)))) (by decide +kernel))) (goodIn_sub (fun _ h => List.mem_append_left _ (List.mem_append_left _ (List.mem_append_right _ h))) (by decide +kernel))) w h)
set_option maxRecDepth 20000 in
theorem gL_law_L_address : GoodIn wsL_law (va_wsS RL 91 yL_address wsL_address) := goodIn_app (goodIn_of _ (by decide +kernel)) ggL_law_L_address
set_option maxRecDepth 20000 in
theorem ggL_law_X7_address_a0 : GoodIn wsL_law [.code yX7_address cX7_address 6 none] := goodIn_r _ [263] (by decide +kernel) (by decide +kernel)
set_option maxRecDepth 20000 in
theorem ggL_law_X7_address_a1 : GoodIn wsL_law wsX7_address_r1 := goodIn_r _ [96, 97, 5, 98, 231, 232, 233, 234, 64, 66, 67, 235, 236, 237, 238, 239, 240, 241, 242, 243, 244, 245, 246, 247] (by decide +kernel) (by decide +kernel)
set_option maxRecDepth 20000 in
theorem ggL_law_X7_address_a2 : GoodIn wsL_law wsX7_address_r2 := goodIn_r _ [248, 249, 250, 99, 100, 101, 102, 103] (by decide +kernel) (by decide +kernel)
set_option maxRecDepth 20000 in
theorem ggL_law_X7_address_a3 : GoodIn wsL_law wsX70 := goodIn_r _ [704, 705, 706, 707, 708, 709, 710, 711, 712, 713, 714, 715, 716, 717, 718] (by decide +kernel) (by decide +kernel)
theorem ggL_law_X7_address : GoodIn wsL_law wsX7_address := fun w h => (List.mem_cons.mp h).elim (fun e => ggL_law_X7_address_a0 w (List.mem_singleton.mpr e)) (fun h => (goodIn_app (goodIn_app ggL_law_X7_address_a1 ggL_law_X7_address_a2) ggL_law_X7_address_a3) w h)
set_option maxRecDepth 20000 in
theorem gL_law_X7_address : GoodIn wsL_law (wsV RL 94 RX7 yX7_address wsX7_address) := goodIn_app (goodIn_of _ (by decide +kernel)) ggL_law_X7_address
set_option maxRecDepth 20000 in
theorem ggL_law_L_start_a0 : GoodIn wsL_law [.codeWith yL_start cL_start 5 (some .int) [(0, 7, 10, 13)]] := goodIn_r _ [266] (by decide +kernel) (by decide +kernel)
set_option maxRecDepth 20000 in
theorem ggL_law_L_start_a1 : GoodIn wsL_law wsL_start_r1 := goodIn_r _ [76, 267, 268, 269, 2, 270, 81, 82, 21, 25, 26, 190, 191, 16, 192, 271, 272, 273, 20, 274, 42, 43, 44, 45] (by decide +kernel) (by decide +kernel)
set_option maxRecDepth 20000 in
theorem ggL_law_L_start_a2 : GoodIn wsL_law wsL_start_r2 := goodIn_r _ [46, 47, 48, 49, 50, 51, 52, 275, 276, 277, 24, 278, 58] (by decide +kernel) (by decide +kernel)
set_option maxRecDepth 20000 in
theorem ggL_law_L_start_a3 : GoodIn wsL_law wsX60 := goodIn_r _ [700, 701, 702, 703] (by decide +kernel) (by decide +kernel)
set_option maxRecDepth 20000 in
theorem ggL_law_L_start_a4 : GoodIn wsL_law wsX20 := goodIn_r _ [720, 721, 722, 723, 724, 725, 726, 727, 728, 729, 730, 731, 732] (by decide +kernel) (by decide +kernel)
set_option maxRecDepth 20000 in
theorem ggL_law_L_start_a5 : GoodIn wsL_law wsX30 := goodIn_r _ [733, 734] (by decide +kernel) (by decide +kernel)
theorem ggL_law_L_start : GoodIn wsL_law wsL_start := fun w h => (List.mem_cons.mp h).elim (fun e => ggL_law_L_start_a0 w (List.mem_singleton.mpr e)) (fun h => (goodIn_app (goodIn_app (goodIn_app (goodIn_app (goodIn_app ggL_law_L_start_a1 ggL_law_L_start_a2) ggL_law_L_start_a3) ggL_law_L_start_a4) ggL_law_L_start_a5) (goodIn_sub (fun _ h => List.mem_append_left _ (List.mem_append_left _ (List.mem_append_left _ (List.mem_append_right _ h)))) (by decide +kernel))) w h)
set_option maxRecDepth 20000 in
theorem gL_law_L_start : GoodIn wsL_law (va_wsS RL 95 yL_start wsL_start) := goodIn_app (goodIn_of _ (by decide +kernel)) ggL_law_L_start
set_option maxRecDepth 20000 in
theorem ggL_law_X7_start : GoodIn wsL_law wsX7_start := goodIn_r _ [282, 68, 69, 283, 284, 96, 97, 5, 98, 99, 100, 101, 102, 103, 704, 705, 706, 707, 708, 709, 710, 711, 712, 713, 714, 715, 716, 717, 718] (by decide +kernel) (by decide +kernel)
set_option maxRecDepth 20000 in
theorem gL_law_X7_start : GoodIn wsL_law (wsV RL 98 RX7 yX7_start wsX7_start) := goodIn_app (goodIn_of _ (by decide +kernel)) ggL_law_X7_start
set_option maxRecDepth 20000 in
theorem ggL_law_L_run_a0 : GoodIn wsL_law [.codeWith yL_run cL_run 4 (some .int) [(0, 9, 12, 13)]] := goodIn_r _ [287] (by decide +kernel) (by decide +kernel)
set_option maxRecDepth 20000 in
theorem ggL_law_L_run_a1 : GoodIn wsL_law wsL_run_r1 := goodIn_r _ [76, 288, 289, 290, 2, 291, 81, 82, 25, 21, 26, 292, 293, 294, 24, 295, 58, 296, 297, 298, 20, 299, 300, 301] (by decide +kernel) (by decide +kernel)
set_option maxRecDepth 20000 in
theorem ggL_law_L_run_a2 : GoodIn wsL_law wsL_run_r2 := goodIn_r _ [302, 303, 304, 305, 42, 306, 307, 308, 309, 310, 311, 312, 41, 313, 314, 47, 315, 52, 316, 317, 318, 319, 320, 212] (by decide +kernel) (by decide +kernel)
set_option maxRecDepth 20000 in
theorem ggL_law_L_run_a3 : GoodIn wsL_law wsL_run_r3 := goodIn_r _ [213, 16, 214, 31, 32, 197, 188, 189, 198, 191, 192, 199, 200, 201, 321, 209, 210, 322, 119, 85, 120, 121, 122, 123] (by decide +kernel) (by decide +kernel)
set_option maxRecDepth 20000 in
theorem ggL_law_L_run_a4 : GoodIn wsL_law wsL_run_r4 := goodIn_r _ [124, 125, 126, 127, 128, 129, 130, 131, 132, 133, 134, 135, 136, 137, 138, 139, 140, 141, 142, 143, 144, 323, 324, 325] (by decide +kernel) (by decide +kernel)
set_option maxRecDepth 20000 in
theorem ggL_law_L_run_a5 : GoodIn wsL_law wsL_run_r5 := goodIn_r _ [326, 327, 44, 43, 328, 329, 330, 331, 332, 333, 334, 335, 336, 337, 338, 339, 46, 48, 49, 50, 51, 340, 341, 342] (by decide +kernel) (by decide +kernel)
set_option maxRecDepth 20000 in
theorem ggL_law_L_run_a6 : GoodIn wsL_law wsL_run_r6 := goodIn_r _ [343, 344, 345, 346, 347, 348, 349, 350, 351, 194, 195, 196, 202, 203, 204, 205, 206, 207, 208, 211, 215, 216, 217, 218] (by decide +kernel) (by decide +kernel)
set_option maxRecDepth 20000 in
theorem ggL_law_L_run_a7 : GoodIn wsL_law wsL_run_r7 := goodIn_r _ [219, 220, 221, 222, 352, 353, 354, 355, 356, 147, 148, 357, 358, 359, 360, 361, 362, 363, 364, 365, 366, 367, 368, 369] (by decide +kernel) (by decide +kernel)
set_option maxRecDepth 20000 in
theorem ggL_law_L_run_a8 : GoodIn wsL_law wsL_run_r8 := goodIn_r _ [370, 371, 372, 373, 374, 173, 375, 175, 376, 377, 378, 379, 380, 381, 382, 383, 172, 174, 176, 177, 178, 179, 384, 385] (by decide +kernel) (by decide +kernel)
set_option maxRecDepth 20000 in
theorem ggL_law_L_run_a9 : GoodIn wsL_law wsL_run_r9 := goodIn_r _ [386, 387, 388, 389, 390, 391, 392, 393, 394, 395, 396, 397, 398, 399, 400, 401, 402, 403, 404, 405, 406, 407, 408, 409] (by decide +kernel) (by decide +kernel)
set_option maxRecDepth 20000 in
theorem ggL_law_L_run_a10 : GoodIn wsL_law wsL_run_r10 := goodIn_r _ [410, 411, 412, 413, 414, 415, 416, 417, 418, 419, 420, 421, 422, 423, 424, 425, 426, 427, 428, 429, 430, 431, 432, 433] (by decide +kernel) (by decide +kernel)
set_option maxRecDepth 20000 in
theorem ggL_law_L_run_a11 : GoodIn wsL_law wsL_run_r11 := goodIn_r _ [434, 435, 436, 437, 438, 439, 57, 440] (by decide +kernel) (by decide +kernel)
set_option maxRecDepth 20000 in
theorem ggL_law_L_run_a12 : GoodIn wsL_law wsX60 := goodIn_r _ [700, 701, 702, 703] (by decide +kernel) (by decide +kernel)
set_option maxRecDepth 20000 in
theorem ggL_law_L_run_a13 : GoodIn wsL_law wsX20 := goodIn_r _ [720, 721, 722, 723, 724, 725, 726, 727, 728, 729, 730, 731, 732] (by decide +kernel) (by decide +kernel)
set_option maxRecDepth 20000 in
theorem ggL_law_L_run_a14 : GoodIn wsL_law wsX30 := goodIn_r _ [733, 734] (by decide +kernel) (by decide +kernel)
set_option maxRecDepth 20000 in
theorem ggL_law_L_run_a15 : GoodIn wsL_law wsX10 := goodIn_r _ [719] (by decide +kernel) (by decide +kernel)
theorem ggL_law_L_run : GoodIn wsL_law wsL_run := fun w h => (List.mem_cons.mp h).elim (fun e => ggL_law_L_run_a0 w (List.mem_singleton.mpr e)) (fun h => (goodIn_app (goodIn_app (goodIn_app (goodIn_app (goodIn_app (goodIn_app ggL_law_L_run_a1 (goodIn_app ggL_law_L_run_a2 (goodIn_app ggL_law_L_run_a3 (goodIn_app ggL_law_L_run_a4 (goodIn_app ggL_law_L_run_a5 (goodIn_app ggL_law_L_run_a6 (goodIn_app ggL_law_L_run_a7 (goodIn_app ggL_law_L_run_a8 (goodIn_app ggL_law_L_run_a9 (goodIn_app ggL_law_L_run_a10 ggL_law_L_run_a11)))))))))) ggL_law_L_run_a12) ggL_law_L_run_a13) ggL_law_L_run_a14) ggL_law_L_run_a15) (goodIn_sub (fun _ h => List.mem_append_left _ (List.mem_append_left _ (List.mem_append_left _ (List.mem_append_right _ h)))) (by decide +kernel))) w h)
set_option maxRecDepth 20000 in
theorem gL_law_L_run : GoodIn wsL_law (va_wsS RL 99 yL_run wsL_run) := goodIn_app (goodIn_of _ (by decide +kernel)) ggL_law_L_run
set_option maxRecDepth 20000 in
theorem ggL_law_X7_run_a0 : GoodIn wsL_law [.code yX7_run cX7_run 3 (some .int)] := goodIn_r _ [444] (by decide +kernel) (by decide +kernel)
set_option maxRecDepth 20000 in
theorem ggL_law_X7_run_a1 : GoodIn wsL_law wsX7_run_r1 := goodIn_r _ [283, 96, 97, 5, 98, 99, 100, 101, 102, 103, 445, 446, 447, 448, 449, 284, 70, 68, 71, 69, 450, 451, 452, 453] (by decide +kernel) (by decide +kernel)
set_option maxRecDepth 20000 in
theorem ggL_law_X7_run_a2 : GoodIn wsL_law wsX7_run_r2 := goodIn_r _ [454, 455, 456, 457, 458, 459, 460, 461, 462, 463, 464, 465, 466, 64, 66, 67, 235, 236, 237, 238, 467, 468, 469, 470] (by decide +kernel) (by decide +kernel)
set_option maxRecDepth 20000 in
theorem ggL_law_X7_run_a3 : GoodIn wsL_law wsX7_run_r3 := goodIn_r _ [154, 155, 156, 157, 158, 159, 160, 161, 162, 163, 471, 472, 473, 474, 475, 476, 477, 478, 479, 480, 481, 482, 483, 484] (by decide +kernel) (by decide +kernel)
set_option maxRecDepth 20000 in
theorem ggL_law_X7_run_a4 : GoodIn wsL_law wsX7_run_r4 := goodIn_r _ [485, 486, 487, 488, 489, 490, 491, 492, 493, 494, 495, 496, 231, 232, 233, 234, 239, 240, 241, 242, 243, 244, 245, 246] (by decide +kernel) (by decide +kernel)
set_option maxRecDepth 20000 in
theorem ggL_law_X7_run_a5 : GoodIn wsL_law wsX7_run_r5 := goodIn_r _ [247, 248, 249, 250, 497, 498, 499, 500, 501, 502, 503, 504, 505, 506, 507, 508, 509, 510, 511, 512, 513, 514, 515, 227] (by decide +kernel) (by decide +kernel)
set_option maxRecDepth 20000 in
theorem ggL_law_X7_run_a6 : GoodIn wsL_law wsX7_run_r6 := goodIn_r _ [228, 229, 230, 516, 517, 518, 519, 520, 521, 522, 523, 524, 525, 526, 527, 528, 529, 530, 531, 532, 533, 534, 535, 536] (by decide +kernel) (by decide +kernel)
set_option maxRecDepth 20000 in
theorem ggL_law_X7_run_a7 : GoodIn wsL_law wsX7_run_r7 := goodIn_r _ [537, 538, 539, 540, 541, 542, 543, 544, 545, 546] (by decide +kernel) (by decide +kernel)
set_option maxRecDepth 20000 in
theorem ggL_law_X7_run_a8 : GoodIn wsL_law wsX70 := goodIn_r _ [704, 705, 706, 707, 708, 709, 710, 711, 712, 713, 714, 715, 716, 717, 718] (by decide +kernel) (by decide +kernel)
theorem ggL_law_X7_run : GoodIn wsL_law wsX7_run := fun w h => (List.mem_cons.mp h).elim (fun e => ggL_law_X7_run_a0 w (List.mem_singleton.mpr e)) (fun h => (goodIn_app (goodIn_app ggL_law_X7_run_a1 (goodIn_app ggL_law_X7_run_a2 (goodIn_app ggL_law_X7_run_a3 (goodIn_app ggL_law_X7_run_a4 (goodIn_app ggL_law_X7_run_a5 (goodIn_app ggL_law_X7_run_a6 ggL_law_X7_run_a7)))))) ggL_law_X7_run_a8) w h)
set_option maxRecDepth 20000 in
theorem gL_law_X7_run : GoodIn wsL_law (wsV RL 102 RX7 yX7_run wsX7_run) := goodIn_app (goodIn_of _ (by decide +kernel)) ggL_law_X7_run
set_option maxRecDepth 20000 in
theorem ggL_law_X6_failure : GoodIn wsL_law wsX6_failure := goodIn_r _ [550, 26, 700, 701, 702, 703] (by decide +kernel) (by decide +kernel)
set_option maxRecDepth 20000 in
theorem gL_law_X6_failure : GoodIn wsL_law (wsV RL 103 RX6 yX6_failure wsX6_failure) := goodIn_app (goodIn_of _ (by decide +kernel)) ggL_law_X6_failure
set_option maxRecDepth 20000 in
theorem ggL_law_X7_failure : GoodIn wsL_law wsX7_failure := goodIn_r _ [554, 103, 284, 704, 705, 706, 707, 708, 709, 710, 711, 712, 713, 714, 715, 716, 717, 718] (by decide +kernel) (by decide +kernel)
set_option maxRecDepth 20000 in
theorem gL_law_X7_failure : GoodIn wsL_law (wsV RL 106 RX7 yX7_failure wsX7_failure) := goodIn_app (goodIn_of _ (by decide +kernel)) ggL_law_X7_failure
set_option maxRecDepth 20000 in
theorem ggL_law_L_register : GoodIn wsL_law wsL_register := goodIn_ca (goodIn_r _ [557, 76, 558, 559, 560, 2, 561, 21, 562, 563, 564, 81, 82, 565, 317, 47, 318, 52, 319, 566, 314, 315, 700, 701, 702, 703, 720, 721, 722, 723, 724, 725, 726, 727, 728, 729, 730, 731, 732] (by decide +kernel) (by decide +kernel)) (goodIn_sub (fun _ h => List.mem_append_left _ (List.mem_append_left _ (List.mem_append_left _ (List.mem_append_right _ h)))) (by decide +kernel))
set_option maxRecDepth 20000 in
theorem gL_law_L_register : GoodIn wsL_law (va_wsS RL 107 yL_register wsL_register) := goodIn_app (goodIn_of _ (by decide +kernel)) ggL_law_L_register
set_option maxRecDepth 20000 in
theorem ggL_law_X7_register : GoodIn wsL_law wsX7_register := goodIn_r _ [570, 69, 68, 96, 97, 5, 98, 99, 100, 101, 102, 103, 704, 705, 706, 707, 708, 709, 710, 711, 712, 713, 714, 715, 716, 717, 718] (by decide +kernel) (by decide +kernel)
set_option maxRecDepth 20000 in
theorem gL_law_X7_register : GoodIn wsL_law (wsV RL 110 RX7 yX7_register wsX7_register) := goodIn_app (goodIn_of _ (by decide +kernel)) ggL_law_X7_register
set_option maxRecDepth 20000 in
theorem ggL_law_L_segment_a0 : GoodIn wsL_law [.codeWith yL_segment cL_segment 5 (some .int) [(0, 10, 13, 13), (0, 10, 17, 45)]] := goodIn_r _ [573] (by decide +kernel) (by decide +kernel)
set_option maxRecDepth 20000 in
theorem ggL_law_L_segment_a1 : GoodIn wsL_law wsL_segment_r1 := goodIn_r _ [76, 574, 575, 576, 577, 2, 578, 579, 580, 581, 582, 583, 584, 17, 258, 184, 185, 186, 81, 82, 187, 188, 16, 189] (by decide +kernel) (by decide +kernel)
set_option maxRecDepth 20000 in
theorem ggL_law_L_segment_a2 : GoodIn wsL_law wsL_segment_r2 := goodIn_r _ [190, 191, 192, 585, 212, 213, 214, 31, 32, 197, 198, 199, 200, 201, 586, 363, 47, 364, 52, 566, 314, 315] (by decide +kernel) (by decide +kernel)
set_option maxRecDepth 20000 in
theorem ggL_law_L_segment_a3 : GoodIn wsL_law wsX60 := goodIn_r _ [700, 701, 702, 703] (by decide +kernel) (by decide +kernel)
set_option maxRecDepth 20000 in
theorem ggL_law_L_segment_a4 : GoodIn wsL_law wsX10 := goodIn_r _ [719] (by decide +kernel) (by decide +kernel)
theorem ggL_law_L_segment : GoodIn wsL_law wsL_segment := fun w h => (List.mem_cons.mp h).elim (fun e => ggL_law_L_segment_a0 w (List.mem_singleton.mpr e)) (fun h => (goodIn_app (goodIn_app (goodIn_app (goodIn_app (goodIn_app ggL_law_L_segment_a1 ggL_law_L_segment_a2) ggL_law_L_segment_a3) ggL_law_L_segment_a4) (goodIn_sub (fun _ h => List.mem_append_left _ (List.mem_append_right _ h)) (by decide +kernel))) (goodIn_sub (fun _ h => List.mem_append_left _ (List.mem_append_left _ (List.mem_append_left _ (List.mem_append_right _ h)))) (by decide +kernel))) w h)
set_option maxRecDepth 20000 in
theorem gL_law_L_segment : GoodIn wsL_law (va_wsS RL 111 yL_segment wsL_segment) := goodIn_app (goodIn_of _ (by decide +kernel)) ggL_law_L_segment
set_option maxRecDepth 20000 in
theorem ggL_law_X7_segment : GoodIn wsL_law wsX7_segment := goodIn_r _ [590, 66, 591, 592, 593, 5, 594, 64, 96, 97, 98, 99, 100, 101, 102, 103, 704, 705, 706, 707, 708, 709, 710, 711, 712, 713, 714, 715, 716, 717, 718] (by decide +kernel) (by decide +kernel)
set_option maxRecDepth 20000 in
theorem gL_law_X7_segment : GoodIn wsL_law (wsV RL 114 RX7 yX7_segment wsX7_segment) := goodIn_app (goodIn_of _ (by decide +kernel)) ggL_law_X7_segment
set_option maxRecDepth 20000 in
theorem ggL_law_L_value_a0 : GoodIn wsL_law [.codeWith yL_value cL_value 5 (some .int) [(0, 9, 12, 13), (0, 9, 16, 45)]] := goodIn_r _ [597] (by decide +kernel) (by decide +kernel)
set_option maxRecDepth 20000 in
theorem ggL_law_L_value_a1 : GoodIn wsL_law wsL_value_r1 := goodIn_r _ [76, 574, 598, 599, 600, 2, 601, 579, 580, 581, 582, 583, 584, 17, 258, 184, 185, 186, 81, 82, 187, 188, 16, 189] (by decide +kernel) (by decide +kernel)
set_option maxRecDepth 20000 in
theorem ggL_law_L_value_a2 : GoodIn wsL_law wsL_value_r2 := goodIn_r _ [190, 191, 192, 585, 212, 213, 214, 31, 32, 197, 198, 199, 200, 201, 586, 363, 47, 364, 52, 565, 317, 318, 319] (by decide +kernel) (by decide +kernel)
set_option maxRecDepth 20000 in
theorem ggL_law_L_value_a3 : GoodIn wsL_law wsX60 := goodIn_r _ [700, 701, 702, 703] (by decide +kernel) (by decide +kernel)
set_option maxRecDepth 20000 in
theorem ggL_law_L_value_a4 : GoodIn wsL_law wsX10 := goodIn_r _ [719] (by decide +kernel) (by decide +kernel)
theorem ggL_law_L_value : GoodIn wsL_law wsL_value := fun w h => (List.mem_cons.mp h).elim (fun e => ggL_law_L_value_a0 w (List.mem_singleton.mpr e)) (fun h => (goodIn_app (goodIn_app (goodIn_app (goodIn_app (goodIn_app ggL_law_L_value_a1 ggL_law_L_value_a2) ggL_law_L_value_a3) ggL_law_L_value_a4) (goodIn_sub (fun _ h => List.mem_append_left _ (List.mem_append_right _ h)) (by decide +kernel))) (goodIn_sub (fun _ h => List.mem_append_left _ (List.mem_append_left _ (List.mem_append_left _ (List.mem_append_right _ h)))) (by decide +kernel))) w h)
set_option maxRecDepth 20000 in
theorem gL_law_L_value : GoodIn wsL_law (va_wsS RL 115 yL_value wsL_value) := goodIn_app (goodIn_of _ (by decide +kernel)) ggL_law_L_value
set_option maxRecDepth 20000 in
theorem ggL_law_X7_value : GoodIn wsL_law wsX7_value := goodIn_r _ [605, 67, 591, 592, 593, 5, 594, 64, 96, 97, 98, 99, 100, 101, 102, 103, 704, 705, 706, 707, 708, 709, 710, 711, 712, 713, 714, 715, 716, 717, 718] (by decide +kernel) (by decide +kernel)
set_option maxRecDepth 20000 in
theorem gL_law_X7_value : GoodIn wsL_law (wsV RL 117 RX7 yX7_value wsX7_value) := goodIn_app (goodIn_of _ (by decide +kernel)) ggL_law_X7_value
set_option maxRecDepth 20000 in
theorem ggL_law_X6_rows : GoodIn wsL_law wsX6_rows := goodIn_r _ [609, 25, 700, 701, 702, 703, 733, 734] (by decide +kernel) (by decide +kernel)
set_option maxRecDepth 20000 in
theorem gL_law_X6_rows : GoodIn wsL_law (wsV RL 118 RX6 yX6_rows wsX6_rows) := goodIn_app (goodIn_of _ (by decide +kernel)) ggL_law_X6_rows
set_option maxRecDepth 20000 in
theorem ggL_law_X7_rows : GoodIn wsL_law wsX7_rows := goodIn_r _ [613, 103, 283, 704, 705, 706, 707, 708, 709, 710, 711, 712, 713, 714, 715, 716, 717, 718] (by decide +kernel) (by decide +kernel)
set_option maxRecDepth 20000 in
theorem gL_law_X7_rows : GoodIn wsL_law (wsV RL 121 RX7 yX7_rows wsX7_rows) := goodIn_app (goodIn_of _ (by decide +kernel)) ggL_law_X7_rows
set_option maxRecDepth 20000 in
theorem ggL_law_L_traced_a0 : GoodIn wsL_law [.codeWith yL_traced cL_traced 5 (some .int) [(0, 9, 12, 13), (0, 9, 16, 45)]] := goodIn_r _ [616] (by decide +kernel) (by decide +kernel)
set_option maxRecDepth 20000 in
theorem ggL_law_L_traced_a1 : GoodIn wsL_law wsL_traced_r1 := goodIn_r _ [76, 574, 617, 618, 619, 2, 620, 583, 584, 25, 17, 562, 563, 564, 81, 82, 621, 622, 623, 24, 624, 58, 625, 57] (by decide +kernel) (by decide +kernel)
set_option maxRecDepth 20000 in
theorem ggL_law_L_traced_a2 : GoodIn wsL_law wsL_traced_r2 := goodIn_r _ [626, 627, 628, 16, 629, 630, 363, 47, 364, 52, 631, 314, 315, 632, 633, 634, 635, 636, 637, 638, 639, 32, 211, 212] (by decide +kernel) (by decide +kernel)
set_option maxRecDepth 20000 in
theorem ggL_law_L_traced_a3 : GoodIn wsL_law wsL_traced_r3 := goodIn_r _ [213, 214, 31, 197, 188, 189, 198, 191, 192, 199, 200, 201, 640, 317, 318, 319, 641, 172, 173, 174, 175, 176, 177, 178] (by decide +kernel) (by decide +kernel)
set_option maxRecDepth 20000 in
theorem ggL_law_L_traced_a4 : GoodIn wsL_law wsL_traced_r4 := goodIn_r _ [179] (by decide +kernel) (by decide +kernel)
set_option maxRecDepth 20000 in
theorem ggL_law_L_traced_a5 : GoodIn wsL_law wsX60 := goodIn_r _ [700, 701, 702, 703] (by decide +kernel) (by decide +kernel)
set_option maxRecDepth 20000 in
theorem ggL_law_L_traced_a6 : GoodIn wsL_law wsX30 := goodIn_r _ [733, 734] (by decide +kernel) (by decide +kernel)
set_option maxRecDepth 20000 in
theorem ggL_law_L_traced_a7 : GoodIn wsL_law wsX10 := goodIn_r _ [719] (by decide +kernel) (by decide +kernel)
theorem ggL_law_L_traced : GoodIn wsL_law wsL_traced := fun w h => (List.mem_cons.mp h).elim (fun e => ggL_law_L_traced_a0 w (List.mem_singleton.mpr e)) (fun h => (goodIn_app (goodIn_app (goodIn_app (goodIn_app (goodIn_app (goodIn_app ggL_law_L_traced_a1 (goodIn_app ggL_law_L_traced_a2 (goodIn_app ggL_law_L_traced_a3 ggL_law_L_traced_a4))) ggL_law_L_traced_a5) ggL_law_L_traced_a6) ggL_law_L_traced_a7) (goodIn_sub (fun _ h => List.mem_append_left _ (List.mem_append_right _ h)) (by decide +kernel))) (goodIn_sub (fun _ h => List.mem_append_left _ (List.mem_append_left _ (List.mem_append_left _ (List.mem_append_right _ h)))) (by decide +kernel))) w h)
set_option maxRecDepth 20000 in
theorem gL_law_L_traced : GoodIn wsL_law (va_wsS RL 122 yL_traced wsL_traced) := goodIn_app (goodIn_of _ (by decide +kernel)) ggL_law_L_traced
set_option maxRecDepth 20000 in
theorem ggL_law_X7_traced_a0 : GoodIn wsL_law [.code yX7_traced cX7_traced 3 (some .long)] := goodIn_r _ [645] (by decide +kernel) (by decide +kernel)
set_option maxRecDepth 20000 in
theorem ggL_law_X7_traced_a1 : GoodIn wsL_law wsX7_traced_r1 := goodIn_r _ [283, 70, 71, 96, 97, 5, 98, 99, 100, 101, 102, 103, 646, 647, 648, 649, 650, 651, 652, 653, 64, 227, 228, 229] (by decide +kernel) (by decide +kernel)
set_option maxRecDepth 20000 in
theorem ggL_law_X7_traced_a2 : GoodIn wsL_law wsX7_traced_r2 := goodIn_r _ [230] (by decide +kernel) (by decide +kernel)
set_option maxRecDepth 20000 in
theorem ggL_law_X7_traced_a3 : GoodIn wsL_law wsX70 := goodIn_r _ [704, 705, 706, 707, 708, 709, 710, 711, 712, 713, 714, 715, 716, 717, 718] (by decide +kernel) (by decide +kernel)
theorem ggL_law_X7_traced : GoodIn wsL_law wsX7_traced := fun w h => (List.mem_cons.mp h).elim (fun e => ggL_law_X7_traced_a0 w (List.mem_singleton.mpr e)) (fun h => (goodIn_app (goodIn_app ggL_law_X7_traced_a1 ggL_law_X7_traced_a2) ggL_law_X7_traced_a3) w h)
set_option maxRecDepth 20000 in
theorem gL_law_X7_traced : GoodIn wsL_law (wsV RL 124 RX7 yX7_traced wsX7_traced) := goodIn_app (goodIn_of _ (by decide +kernel)) ggL_law_X7_traced
set_option maxRecDepth 20000 in
theorem ggL_law_L_begins_a0 : GoodIn wsL_law [.codeWith yL_begins cL_begins 4 (some .int) [(0, 9, 12, 13)]] := goodIn_r _ [656] (by decide +kernel) (by decide +kernel)
set_option maxRecDepth 20000 in
theorem ggL_law_L_begins_a1 : GoodIn wsL_law wsL_begins_r1 := goodIn_r _ [76, 657, 658, 659, 2, 660, 81, 82, 17, 661, 633, 634, 16, 635, 636, 637, 638, 639, 32, 211, 212, 213, 214, 31] (by decide +kernel) (by decide +kernel)
set_option maxRecDepth 20000 in
theorem ggL_law_L_begins_a2 : GoodIn wsL_law wsL_begins_r2 := goodIn_r _ [197, 188, 189, 198, 191, 192, 199, 200, 201] (by decide +kernel) (by decide +kernel)
set_option maxRecDepth 20000 in
theorem ggL_law_L_begins_a3 : GoodIn wsL_law wsX60 := goodIn_r _ [700, 701, 702, 703] (by decide +kernel) (by decide +kernel)
set_option maxRecDepth 20000 in
theorem ggL_law_L_begins_a4 : GoodIn wsL_law wsX10 := goodIn_r _ [719] (by decide +kernel) (by decide +kernel)
theorem ggL_law_L_begins : GoodIn wsL_law wsL_begins := fun w h => (List.mem_cons.mp h).elim (fun e => ggL_law_L_begins_a0 w (List.mem_singleton.mpr e)) (fun h => (goodIn_app (goodIn_app (goodIn_app (goodIn_app ggL_law_L_begins_a1 ggL_law_L_begins_a2) ggL_law_L_begins_a3) ggL_law_L_begins_a4) (goodIn_sub (fun _ h => List.mem_append_left _ (List.mem_append_left _ (List.mem_append_left _ (List.mem_append_right _ h)))) (by decide +kernel))) w h)
set_option maxRecDepth 20000 in
theorem gL_law_L_begins : GoodIn wsL_law (va_wsS RL 125 yL_begins wsL_begins) := goodIn_app (goodIn_of _ (by decide +kernel)) ggL_law_L_begins
set_option maxRecDepth 20000 in
theorem ggL_law_X7_begins : GoodIn wsL_law wsX7_begins := goodIn_r _ [665, 96, 97, 5, 98, 99, 100, 101, 102, 103, 650, 651, 652, 653, 64, 704, 705, 706, 707, 708, 709, 710, 711, 712, 713, 714, 715, 716, 717, 718] (by decide +kernel) (by decide +kernel)
set_option maxRecDepth 20000 in
theorem gL_law_X7_begins : GoodIn wsL_law (wsV RL 127 RX7 yX7_begins wsX7_begins) := goodIn_app (goodIn_of _ (by decide +kernel)) ggL_law_X7_begins
set_option maxRecDepth 20000 in
theorem ggL_law_L_relocated_a0 : GoodIn wsL_law [.codeWith yL_relocated cL_relocated 4 (some .int) [(0, 8, 11, 45)]] := goodIn_r _ [668] (by decide +kernel) (by decide +kernel)
set_option maxRecDepth 20000 in
theorem ggL_law_L_relocated_a1 : GoodIn wsL_law wsL_relocated_r1 := goodIn_r _ [574, 669, 670, 671, 2, 672, 583, 584, 17, 661, 633, 634, 16, 635, 636, 637, 638, 639, 32, 211, 212, 213, 214, 31] (by decide +kernel) (by decide +kernel)
set_option maxRecDepth 20000 in
theorem ggL_law_L_relocated_a2 : GoodIn wsL_law wsL_relocated_r2 := goodIn_r _ [197, 188, 189, 198, 191, 192, 199, 200, 201, 673, 674, 675, 676, 632, 677, 627, 628, 629, 630, 363, 47, 364, 52, 631] (by decide +kernel) (by decide +kernel)
set_option maxRecDepth 20000 in
theorem ggL_law_L_relocated_a3 : GoodIn wsL_law wsL_relocated_r3 := goodIn_r _ [314, 315, 640, 317, 318, 319, 641, 172, 173, 174, 175, 176, 177, 178, 179] (by decide +kernel) (by decide +kernel)
set_option maxRecDepth 20000 in
theorem ggL_law_L_relocated_a4 : GoodIn wsL_law wsX60 := goodIn_r _ [700, 701, 702, 703] (by decide +kernel) (by decide +kernel)
set_option maxRecDepth 20000 in
theorem ggL_law_L_relocated_a5 : GoodIn wsL_law wsX10 := goodIn_r _ [719] (by decide +kernel) (by decide +kernel)
theorem ggL_law_L_relocated : GoodIn wsL_law wsL_relocated := fun w h => (List.mem_cons.mp h).elim (fun e => ggL_law_L_relocated_a0 w (List.mem_singleton.mpr e)) (fun h => (goodIn_app (goodIn_app (goodIn_app (goodIn_app ggL_law_L_relocated_a1 (goodIn_app ggL_law_L_relocated_a2 ggL_law_L_relocated_a3)) ggL_law_L_relocated_a4) ggL_law_L_relocated_a5) (goodIn_sub (fun _ h => List.mem_append_left _ (List.mem_append_right _ h)) (by decide +kernel))) w h)
set_option maxRecDepth 20000 in
theorem gL_law_L_relocated : GoodIn wsL_law (va_wsS RL 128 yL_relocated wsL_relocated) := goodIn_app (goodIn_of _ (by decide +kernel)) ggL_law_L_relocated
set_option maxRecDepth 20000 in
theorem ggL_law_X7_relocated : GoodIn wsL_law wsX7_relocated := goodIn_r _ [681, 64, 66, 67, 650, 651, 652, 5, 653, 96, 97, 98, 99, 100, 101, 102, 103, 646, 647, 648, 649, 227, 228, 229, 230, 704, 705, 706, 707, 708, 709, 710, 711, 712, 713, 714, 715, 716, 717, 718] (by decide +kernel) (by decide +kernel)
set_option maxRecDepth 20000 in
theorem gL_law_X7_relocated : GoodIn wsL_law (wsV RL 130 RX7 yX7_relocated wsX7_relocated) := goodIn_app (goodIn_of _ (by decide +kernel)) ggL_law_X7_relocated
set_option maxRecDepth 20000 in
theorem ggL_law_L_reckon_a0 : GoodIn wsL_law [.codeWith yL_reckon cL_reckon 8 (some .int) [(0, 12, 15, 13), (0, 12, 19, 65)]] := goodIn_r _ [684] (by decide +kernel) (by decide +kernel)
set_option maxRecDepth 20000 in
theorem ggL_law_L_reckon_a1 : GoodIn wsL_law wsL_reckon_r1 := goodIn_r _ [76, 685, 686, 687, 688, 2, 689, 81, 82, 690, 691, 171, 172, 173, 174, 175, 176, 177, 178, 179, 692, 398, 399, 693] (by decide +kernel) (by decide +kernel)
set_option maxRecDepth 20000 in
theorem ggL_law_L_reckon_a2 : GoodIn wsL_law wsL_reckon_r2 := goodIn_r _ [374, 375, 694, 392, 393, 394, 395, 396, 397, 695, 388, 389, 390, 391] (by decide +kernel) (by decide +kernel)
theorem ggL_law_L_reckon : GoodIn wsL_law wsL_reckon := fun w h => (List.mem_cons.mp h).elim (fun e => ggL_law_L_reckon_a0 w (List.mem_singleton.mpr e)) (fun h => (goodIn_app (goodIn_app (goodIn_app ggL_law_L_reckon_a1 ggL_law_L_reckon_a2) (goodIn_sub (fun _ h => List.mem_append_left _ (List.mem_append_left _ (List.mem_append_left _ (List.mem_append_right _ h)))) (by decide +kernel))) (goodIn_sub (fun _ h => List.mem_append_right _ h) (by decide +kernel))) w h)
set_option maxRecDepth 20000 in
theorem gL_law_L_reckon : GoodIn wsL_law (va_wsS RL 131 yL_reckon wsL_reckon) := goodIn_app (goodIn_of _ (by decide +kernel)) ggL_law_L_reckon
set_option maxRecDepth 20000 in
theorem ggL_law_X7_reckon : GoodIn wsL_law wsX7_reckon := goodIn_r _ [699, 96, 97, 5, 98, 227, 228, 229, 230, 99, 100, 101, 102, 103, 513, 514, 515, 516, 517, 518, 519, 520, 521, 704, 705, 706, 707, 708, 709, 710, 711, 712, 713, 714, 715, 716, 717, 718] (by decide +kernel) (by decide +kernel)
set_option maxRecDepth 20000 in
theorem gL_law_X7_reckon : GoodIn wsL_law (wsV RL 134 RX7 yX7_reckon wsX7_reckon) := goodIn_app (goodIn_of _ (by decide +kernel)) ggL_law_X7_reckon

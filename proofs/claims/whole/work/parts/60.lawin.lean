/-! the law's words lie in the tables -/
theorem lw_pos {l : List Cond} (ws : List Cond) (ps : List Nat) (hp : ws = ps.filterMap (fun i => l[i]?)) : ∀ w ∈ ws, w ∈ l := by
  intro w hw
  rw [hp] at hw
  obtain ⟨i, -, h⟩ := List.mem_filterMap.mp hw
  exact List.mem_of_getElem? h
set_option maxRecDepth 20000 in
theorem lwi_1 : ∀ w ∈ wsL_law0_r1, w ∈ lw_tbl := lw_pos wsL_law0_r1 [69, 70, 51, 686, 687, 57, 91, 956, 71, 72, 73, 74, 75, 76, 77, 78, 52, 162, 92, 93, 54, 163, 148, 149] (by decide +kernel)
set_option maxRecDepth 20000 in
theorem lwi_2 : ∀ w ∈ wsL_law0_r2, w ∈ lw_tbl := lw_pos wsL_law0_r2 [56, 164, 165, 79, 80, 81, 82, 87, 83, 84, 85, 53, 86, 94, 95, 96, 97, 105, 106, 108, 110, 98, 99, 55] (by decide +kernel)
set_option maxRecDepth 20000 in
theorem lwi_3 : ∀ w ∈ wsL_law0_r3, w ∈ lw_tbl := lw_pos wsL_law0_r3 [100, 101, 102, 103, 104, 150, 151, 152, 153, 154, 155, 688, 689, 690, 691, 738, 693, 739, 694, 695, 696, 697, 705, 706] (by decide +kernel)
set_option maxRecDepth 20000 in
theorem lwi_4 : ∀ w ∈ wsL_law0_r4, w ∈ lw_tbl := lw_pos wsL_law0_r4 [183, 184, 50, 185, 186, 187, 188, 189, 190, 194, 62, 191, 192, 58, 193, 264, 265, 266, 886, 887, 888, 889, 890, 891] (by decide +kernel)
set_option maxRecDepth 20000 in
theorem lwi_5 : ∀ w ∈ wsL_law0_r5, w ∈ lw_tbl := lw_pos wsL_law0_r5 [748, 749, 750, 751, 753, 22, 754, 692, 740, 741, 742, 743, 267, 268, 269, 270, 271, 272, 273, 274, 302, 64, 276, 277] (by decide +kernel)
set_option maxRecDepth 20000 in
theorem lwi_6 : ∀ w ∈ wsL_law0_r6, w ∈ lw_tbl := lw_pos wsL_law0_r6 [278, 279, 280, 281, 282, 283, 284, 285, 286, 287, 288, 289, 290, 291, 292, 293, 294, 63, 295, 296, 297, 298, 299, 300] (by decide +kernel)
set_option maxRecDepth 20000 in
theorem lwi_7 : ∀ w ∈ wsL_law0_r7, w ∈ lw_tbl := lw_pos wsL_law0_r7 [301, 318, 319, 320, 321, 322, 892, 893, 894, 895, 779, 780, 781, 782, 783, 784, 785, 786, 787, 788, 323, 324, 325, 326] (by decide +kernel)
set_option maxRecDepth 20000 in
theorem lwi_8 : ∀ w ∈ wsL_law0_r8, w ∈ lw_tbl := lw_pos wsL_law0_r8 [327, 328, 329, 330, 331, 65, 332, 333, 334, 335, 66, 336, 337, 339, 1, 340, 341, 342, 343, 344, 345, 346, 347, 348] (by decide +kernel)
set_option maxRecDepth 20000 in
theorem lwi_9 : ∀ w ∈ wsL_law0_r9, w ∈ lw_tbl := lw_pos wsL_law0_r9 [349, 351, 352, 353, 354, 355, 356, 357, 358, 359, 360, 362, 2, 363, 367, 368, 364, 365, 366, 369, 370, 371, 372, 373] (by decide +kernel)
set_option maxRecDepth 20000 in
theorem lwi_10 : ∀ w ∈ wsL_law0_r10, w ∈ lw_tbl := lw_pos wsL_law0_r10 [375, 3, 376, 377, 379, 4, 380, 896, 897, 898, 899, 851, 852, 853, 854, 816, 818, 34, 819, 771, 772, 773, 774, 820] (by decide +kernel)
set_option maxRecDepth 20000 in
theorem lwi_11 : ∀ w ∈ wsL_law0_r11, w ∈ lw_tbl := lw_pos wsL_law0_r11 [822, 35, 823, 824, 825, 826, 827, 828, 830, 36, 831, 382, 383, 384, 385, 386, 387, 388, 390, 389, 900, 901, 902, 903] (by decide +kernel)
set_option maxRecDepth 20000 in
theorem lwi_12 : ∀ w ∈ wsL_law0_r12, w ∈ lw_tbl := lw_pos wsL_law0_r12 [392, 393, 394, 395, 396, 397, 398, 400, 401, 402, 403, 404, 405, 406, 407, 904, 905, 906, 907, 704, 702, 408, 409, 410] (by decide +kernel)
set_option maxRecDepth 20000 in
theorem lwi_13 : ∀ w ∈ wsL_law0_r13, w ∈ lw_tbl := lw_pos wsL_law0_r13 [411, 412, 413, 414, 416, 417, 418, 419, 420, 421, 422, 423, 117, 120, 424, 426, 5, 427, 115, 440, 116, 428, 430, 6] (by decide +kernel)
set_option maxRecDepth 20000 in
theorem lwi_14 : ∀ w ∈ wsL_law0_r14, w ∈ lw_tbl := lw_pos wsL_law0_r14 [431, 432, 433, 434, 435, 436, 437, 438, 439, 441, 442, 443, 444, 446, 7, 447, 118, 448, 450, 8, 451, 452, 453, 454] (by decide +kernel)
set_option maxRecDepth 20000 in
theorem lwi_15 : ∀ w ∈ wsL_law0_r15, w ∈ lw_tbl := lw_pos wsL_law0_r15 [455, 456, 457, 458, 459, 460, 461, 462, 464, 9, 465, 466, 468, 10, 469, 470, 471, 473, 11, 474, 475, 476, 478, 12] (by decide +kernel)
set_option maxRecDepth 20000 in
theorem lwi_16 : ∀ w ∈ wsL_law0_r16, w ∈ lw_tbl := lw_pos wsL_law0_r16 [479, 119, 480, 481, 482, 483, 485, 13, 486, 487, 488, 489, 490, 491, 492, 493, 494, 495, 496, 497, 499, 500, 498, 501] (by decide +kernel)
set_option maxRecDepth 20000 in
theorem lwi_17 : ∀ w ∈ wsL_law0_r17, w ∈ lw_tbl := lw_pos wsL_law0_r17 [502, 503, 504, 505, 506, 507, 508, 509, 510, 511, 512, 513, 514, 515, 516, 517, 518, 520, 14, 521, 522, 523, 524, 525] (by decide +kernel)
set_option maxRecDepth 20000 in
theorem lwi_18 : ∀ w ∈ wsL_law0_r18, w ∈ lw_tbl := lw_pos wsL_law0_r18 [526, 527, 528, 529, 530, 532, 15, 533, 112, 113, 114, 534, 536, 16, 537, 538, 540, 17, 541, 542, 544, 18, 545, 546] (by decide +kernel)
set_option maxRecDepth 20000 in
theorem lwi_19 : ∀ w ∈ wsL_law0_r19, w ∈ lw_tbl := lw_pos wsL_law0_r19 [547, 549, 19, 550, 551, 552, 553, 554, 555, 744, 745, 746, 747, 755, 757, 23, 758, 701, 759, 761, 24, 762, 700, 703] (by decide +kernel)
set_option maxRecDepth 20000 in
theorem lwi_20 : ∀ w ∈ wsL_law0_r20, w ∈ lw_tbl := lw_pos wsL_law0_r20 [699, 811, 763, 765, 25, 766, 698, 767, 769, 26, 770, 775, 777, 27, 778, 789, 791, 28, 792, 793, 795, 29, 796, 801] (by decide +kernel)
set_option maxRecDepth 20000 in
theorem lwi_21 : ∀ w ∈ wsL_law0_r21, w ∈ lw_tbl := lw_pos wsL_law0_r21 [802, 797, 799, 30, 800, 803, 805, 31, 806, 807, 809, 32, 810, 812, 814, 33, 815, 832, 834, 37, 835, 836, 838, 38] (by decide +kernel)
set_option maxRecDepth 20000 in
theorem lwi_22 : ∀ w ∈ wsL_law0_r22, w ∈ lw_tbl := lw_pos wsL_law0_r22 [839, 840, 842, 39, 843, 844, 846, 40, 847, 848, 849, 850, 855, 856, 857, 858, 859, 860, 861, 863, 41, 864, 865, 866] (by decide +kernel)
set_option maxRecDepth 20000 in
theorem lwi_23 : ∀ w ∈ wsL_law0_r23, w ∈ lw_tbl := lw_pos wsL_law0_r23 [868, 42, 869, 870, 872, 43, 873, 874, 876, 44, 877, 878, 880, 45, 881, 882, 884, 46, 885, 175, 176, 177, 178, 908] (by decide +kernel)
set_option maxRecDepth 20000 in
theorem lwi_24 : ∀ w ∈ wsL_law0_r24, w ∈ lw_tbl := lw_pos wsL_law0_r24 [909, 910, 911, 556, 557, 558, 559, 560, 561, 562, 563, 564, 565, 567, 568, 912, 913, 914, 915, 569, 570, 571, 572, 573] (by decide +kernel)
set_option maxRecDepth 20000 in
theorem lwi_25 : ∀ w ∈ wsL_law0_r25, w ∈ lw_tbl := lw_pos wsL_law0_r25 [574, 575, 576, 577, 579, 20, 580, 582, 67, 581, 598, 916, 917, 918, 919, 920, 922, 47, 923, 599, 600, 601, 602, 603] (by decide +kernel)
set_option maxRecDepth 20000 in
theorem lwi_26 : ∀ w ∈ wsL_law0_r26, w ∈ lw_tbl := lw_pos wsL_law0_r26 [604, 605, 924, 925, 926, 927, 179, 180, 181, 182, 928, 929, 930, 931, 606, 607, 608, 609, 610, 611, 612, 614, 615, 616] (by decide +kernel)
set_option maxRecDepth 20000 in
theorem lwi_27 : ∀ w ∈ wsL_law0_r27, w ∈ lw_tbl := lw_pos wsL_law0_r27 [617, 618, 619, 620, 621, 622, 623, 624, 625, 626, 627, 628, 629, 631, 21, 632, 633, 634, 932, 933, 934, 935, 936, 938] (by decide +kernel)
set_option maxRecDepth 20000 in
theorem lwi_28 : ∀ w ∈ wsL_law0_r28, w ∈ lw_tbl := lw_pos wsL_law0_r28 [48, 939, 940, 942, 49, 943, 635, 636, 637, 638, 639, 640, 641, 643, 944, 945, 946, 947, 644, 645, 646, 647, 648, 649] (by decide +kernel)
set_option maxRecDepth 20000 in
theorem lwi_29 : ∀ w ∈ wsL_law0_r29, w ∈ lw_tbl := lw_pos wsL_law0_r29 [650, 652, 653, 654, 655, 656, 948, 949, 950, 951, 657, 658, 659, 660, 661, 662, 663, 664, 666, 68, 682, 683, 684, 685] (by decide +kernel)
set_option maxRecDepth 20000 in
theorem lwi_30 : ∀ w ∈ wsL_law0_r30, w ∈ lw_tbl := lw_pos wsL_law0_r30 [952, 953, 954, 955] (by decide +kernel)
theorem lwx_6 : ∀ w ∈ wsX60, w ∈ lw_tbl := by decide +kernel
theorem lwx_7 : ∀ w ∈ wsX70, w ∈ lw_tbl := by decide +kernel
theorem lwx_1 : ∀ w ∈ wsX10, w ∈ lw_tbl := by decide +kernel
theorem lwx_2 : ∀ w ∈ wsX20, w ∈ lw_tbl := by decide +kernel
theorem lwx_3 : ∀ w ∈ wsX30, w ∈ lw_tbl := by decide +kernel
theorem wsL_law_in0 : ∀ w ∈ wsL_law0, w ∈ lw_tbl := by
  unfold wsL_law0
  exact (List.forall_mem_append.mpr ⟨(List.forall_mem_append.mpr ⟨(List.forall_mem_append.mpr ⟨(List.forall_mem_append.mpr ⟨(List.forall_mem_append.mpr ⟨(List.forall_mem_append.mpr ⟨(List.forall_mem_append.mpr ⟨lwi_1, (List.forall_mem_append.mpr ⟨lwi_2, (List.forall_mem_append.mpr ⟨lwi_3, (List.forall_mem_append.mpr ⟨lwi_4, (List.forall_mem_append.mpr ⟨lwi_5, (List.forall_mem_append.mpr ⟨lwi_6, (List.forall_mem_append.mpr ⟨lwi_7, (List.forall_mem_append.mpr ⟨lwi_8, (List.forall_mem_append.mpr ⟨lwi_9, (List.forall_mem_append.mpr ⟨lwi_10, (List.forall_mem_append.mpr ⟨lwi_11, (List.forall_mem_append.mpr ⟨lwi_12, (List.forall_mem_append.mpr ⟨lwi_13, (List.forall_mem_append.mpr ⟨lwi_14, (List.forall_mem_append.mpr ⟨lwi_15, (List.forall_mem_append.mpr ⟨lwi_16, (List.forall_mem_append.mpr ⟨lwi_17, (List.forall_mem_append.mpr ⟨lwi_18, (List.forall_mem_append.mpr ⟨lwi_19, (List.forall_mem_append.mpr ⟨lwi_20, (List.forall_mem_append.mpr ⟨lwi_21, (List.forall_mem_append.mpr ⟨lwi_22, (List.forall_mem_append.mpr ⟨lwi_23, (List.forall_mem_append.mpr ⟨lwi_24, (List.forall_mem_append.mpr ⟨lwi_25, (List.forall_mem_append.mpr ⟨lwi_26, (List.forall_mem_append.mpr ⟨lwi_27, (List.forall_mem_append.mpr ⟨lwi_28, (List.forall_mem_append.mpr ⟨lwi_29, lwi_30⟩)⟩)⟩)⟩)⟩)⟩)⟩)⟩)⟩)⟩)⟩)⟩)⟩)⟩)⟩)⟩)⟩)⟩)⟩)⟩)⟩)⟩)⟩)⟩)⟩)⟩)⟩)⟩)⟩), lwx_6⟩), lwx_7⟩), lwx_1⟩), lwx_2⟩), lwx_3⟩), fun _ h => absurd h List.not_mem_nil⟩)
theorem wsL_law_x0 : ∀ w ∈ (vx_atS RX6 46 "java/lang/IllegalArgumentException" ["java/lang/RuntimeException", "java/lang/Exception"]).filter goodWord, w ∈ lw_tbl := by decide +kernel
theorem wsL_law_x1 : ∀ w ∈ (vx_atS RX6 65 "java/lang/IllegalStateException" ["java/lang/RuntimeException", "java/lang/Exception"]).filter goodWord, w ∈ lw_tbl := by decide +kernel
theorem wsL_law_x2 : ∀ w ∈ (vx_atN RX6 160 "java/util/NoSuchElementException" ["java/lang/RuntimeException", "java/lang/Exception"]).filter goodWord, w ∈ lw_tbl := by decide +kernel
theorem wsL_law_x3 : ∀ w ∈ (vx_atS RX6 185 "java/lang/ArithmeticException" ["java/lang/RuntimeException", "java/lang/Exception"]).filter goodWord, w ∈ lw_tbl := by decide +kernel
theorem wsL_law_in : ∀ w ∈ wsL_law, w ∈ lw_tbl := by
  unfold wsL_law
  exact (List.forall_mem_append.mpr ⟨(List.forall_mem_append.mpr ⟨(List.forall_mem_append.mpr ⟨(List.forall_mem_append.mpr ⟨wsL_law_in0, wsL_law_x0⟩), wsL_law_x1⟩), wsL_law_x2⟩), wsL_law_x3⟩)

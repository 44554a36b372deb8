set_option maxRecDepth 20000 in
theorem ggL_war_X5_init : GoodIn wsL_war wsX5_init := goodIn_r _ [9, 10, 11, 12, 13, 14, 15, 16, 17, 18, 19, 20, 21, 22, 23, 24, 25, 26, 27, 28, 29, 30, 31, 32, 33, 34, 35, 36, 37, 38, 39, 40, 41, 42, 43, 44, 45, 46, 47, 48, 49, 50, 51, 52, 53, 54, 55, 56, 57, 58, 59, 60, 61, 62, 63, 64, 65, 66, 67, 68, 69, 70, 71, 72, 73, 74, 75, 76, 77, 78, 79, 80, 81, 82, 83, 84, 85, 86, 87, 88, 89, 90, 91, 92, 459, 460, 449, 450, 451, 452, 453, 454, 461, 462, 463, 464, 465, 466, 467, 468, 469, 470, 471, 472, 473, 474, 475, 476, 477, 478, 479, 480, 481, 482, 483, 484, 485, 486, 487, 488, 489, 490, 491, 492, 493, 494] (by decide +kernel) (by decide +kernel)
set_option maxRecDepth 20000 in
theorem gL_war_X5_init : GoodIn wsL_war (wsX5_init) := ggL_war_X5_init
set_option maxRecDepth 20000 in
theorem ggL_war_J4_init_da8c8 : GoodIn wsL_war wsJ4_init_da8c8 := goodIn_r _ [95, 96, 97, 98, 99, 100, 11, 12, 101, 102, 103, 104, 105, 106, 107, 108, 109, 110, 111, 112, 455, 456, 457, 458] (by decide +kernel) (by decide +kernel)
set_option maxRecDepth 20000 in
theorem gL_war_J4_init_da8c8 : GoodIn wsL_war (wsJ4_init_da8c8) := ggL_war_J4_init_da8c8
set_option maxRecDepth 20000 in
theorem ggL_war_L_ground : GoodIn wsL_war wsL_ground := goodIn_r _ [116, 117, 118, 115, 119, 120, 121, 122, 123, 124] (by decide +kernel) (by decide +kernel)
set_option maxRecDepth 20000 in
theorem gL_war_L_ground : GoodIn wsL_war (va_wsS RL 50 yL_ground wsL_ground) := goodIn_app (goodIn_of _ (by decide +kernel)) ggL_war_L_ground
set_option maxRecDepth 20000 in
theorem ggL_war_J4_append_cf468 : GoodIn wsL_war wsJ4_append_cf468 := goodIn_r _ [128, 129, 130, 131, 132, 98, 133, 134, 103, 135, 136, 137, 138, 139, 104, 140, 141, 142, 143, 144, 145, 146, 147, 148, 149, 150, 151, 152, 153, 154, 155, 156, 157, 158, 159, 66, 160, 161, 162, 163, 164, 165, 166, 102, 167, 168, 169, 170, 171, 172, 173, 174, 175, 176, 177, 178, 101, 179, 180, 181, 182, 183, 184, 185, 186, 187, 105, 106, 107, 108, 109, 110, 111, 112, 188, 189, 190, 191, 192, 193, 194, 195, 196, 197, 198, 199, 200, 201, 202, 203, 204, 205, 206, 207, 208, 209, 210, 211, 212, 213, 214, 215, 216, 217, 218, 219, 220, 221, 222, 223, 224, 225, 226, 455, 456, 457, 458] (by decide +kernel) (by decide +kernel)
set_option maxRecDepth 20000 in
theorem gL_war_J4_append_cf468 : GoodIn wsL_war (wsV RL 54 RJ4 yJ4_append_cf468 wsJ4_append_cf468) := goodIn_app (goodIn_of _ (by decide +kernel)) ggL_war_J4_append_cf468
set_option maxRecDepth 20000 in
theorem ggL_war_J4_toString_0e30d : GoodIn wsL_war wsJ4_toString_0e30d := goodIn_r _ [230, 231, 232, 202, 233, 234, 235, 236, 237, 238, 239, 11, 12, 240, 241, 242, 243, 244, 245, 246, 247, 98, 248, 103, 249, 250, 251, 252, 253, 6, 254, 255, 131, 256, 257, 134, 258, 175, 176, 177, 178, 101, 104, 259, 260, 66, 261, 161, 162, 163, 164, 165, 166, 262, 263, 264, 102, 167, 168, 152, 169, 170, 171, 172, 173, 265, 266, 267, 268, 269, 107, 270, 271, 272, 273, 194, 195, 196, 197, 198, 199, 200, 201, 203, 204, 205, 206, 207, 208, 274, 275, 276, 212, 213, 214, 109, 110, 111, 112, 277, 278, 279, 280, 495, 496, 497, 498, 455, 456, 457, 458] (by decide +kernel) (by decide +kernel)
set_option maxRecDepth 20000 in
theorem gL_war_J4_toString_0e30d : GoodIn wsL_war (wsV RL 58 RJ4 yJ4_toString_0e30d wsJ4_toString_0e30d) := goodIn_app (goodIn_of _ (by decide +kernel)) ggL_war_J4_toString_0e30d
set_option maxRecDepth 20000 in
theorem ggL_war_L_type : GoodIn wsL_war wsL_type := goodIn_ca (goodIn_ca (goodIn_ca (goodIn_r _ [283, 284, 285, 286, 3, 287, 288, 289, 290, 291, 292, 293, 23, 294, 295, 296, 297, 16, 298, 19, 299, 300, 301, 22, 302, 44, 43, 303, 304, 305, 306, 47, 307, 73, 308, 309, 310, 40, 311, 54, 312, 313, 314, 315, 53, 316, 317, 318, 319, 320, 321, 322, 323, 57, 324, 325, 326, 327, 328, 329, 330, 331, 202, 332, 241, 333, 334, 335, 336, 242, 240, 337, 338, 115, 339, 340, 341, 342, 343, 344, 345, 346, 347, 348, 349, 181, 350, 351, 222, 223, 204, 224, 225, 207, 226, 352, 353, 107, 354, 218, 219, 220, 197, 198, 199, 221, 274, 275, 276, 212, 213, 214, 355, 356, 357, 358, 359, 360, 361, 362, 363, 15, 364, 33, 32, 365, 366, 367, 368, 369, 370, 449, 450, 451, 452, 453, 454, 461, 462, 463, 464, 467, 468, 469, 470, 471, 472, 473, 474, 475, 476, 477, 478, 459, 460, 479, 480, 481, 482, 483, 484, 485, 486, 487, 488, 489, 490, 491, 492, 493, 494, 495, 496, 497, 498] (by decide +kernel) (by decide +kernel)) (goodIn_sub (fun _ h => List.mem_cons_of_mem _ (List.mem_append_left _ (List.mem_append_left _ (List.mem_append_right _ h)))) (by decide +kernel))) (goodIn_sub (fun _ h => List.mem_cons_of_mem _ (List.mem_append_left _ (List.mem_append_right _ h))) (by decide +kernel))) (goodIn_sub (fun _ h => List.mem_cons_of_mem _ (List.mem_append_right _ h)) (by decide +kernel))
set_option maxRecDepth 20000 in
theorem gL_war_L_type : GoodIn wsL_war (va_wsS RL 62 yL_type wsL_type) := goodIn_app (goodIn_of _ (by decide +kernel)) ggL_war_L_type
set_option maxRecDepth 20000 in
theorem ggL_war_X5_map : GoodIn wsL_war wsX5_map := goodIn_r _ [374, 16, 23, 294, 375, 296, 298, 376, 377, 378, 15, 379, 33, 380, 381, 382, 383, 32, 384, 385, 386, 40, 387, 388, 389, 390, 391, 53, 52, 392, 393, 394, 395, 54, 396, 397, 398, 399, 55, 56, 57, 58, 59, 400, 401, 402, 403, 449, 450, 451, 452, 453, 454, 461, 462, 463, 464, 459, 460, 467, 468, 469, 470, 471, 472, 473, 474, 475, 476, 477, 478] (by decide +kernel) (by decide +kernel)
set_option maxRecDepth 20000 in
theorem gL_war_X5_map : GoodIn wsL_war (wsV RL 66 RX5 yX5_map wsX5_map) := goodIn_app (goodIn_of _ (by decide +kernel)) ggL_war_X5_map
set_option maxRecDepth 20000 in
theorem ggL_war_L_cell : GoodIn wsL_war wsL_cell := goodIn_r _ [119, 120] (by decide +kernel) (by decide +kernel)
set_option maxRecDepth 20000 in
theorem gL_war_L_cell : GoodIn wsL_war (va_wsS RL 38 yL_cell wsL_cell) := goodIn_app (goodIn_of _ (by decide +kernel)) ggL_war_L_cell
set_option maxRecDepth 20000 in
theorem ggL_war_L_below : GoodIn wsL_war wsL_below := goodIn_r _ [123, 124] (by decide +kernel) (by decide +kernel)
set_option maxRecDepth 20000 in
theorem gL_war_L_below : GoodIn wsL_war (va_wsS RL 42 yL_below wsL_below) := goodIn_app (goodIn_of _ (by decide +kernel)) ggL_war_L_below
set_option maxRecDepth 20000 in
theorem ggL_war_X5_cell : GoodIn wsL_war wsX5_cell := goodIn_ca (goodIn_r _ [407, 288, 289, 23, 294, 408, 409, 3, 410, 411, 412, 413, 414, 415, 416, 40, 417, 52, 53, 54, 55, 56, 57, 58, 59, 449, 450, 451, 452, 453, 454, 461, 462, 463, 464, 467, 468, 469, 470, 471, 472, 473, 474, 475, 476, 477, 478] (by decide +kernel) (by decide +kernel)) (goodIn_sub (fun _ h => List.mem_cons_of_mem _ (List.mem_append_left _ (List.mem_append_left _ (List.mem_append_right _ h)))) (by decide +kernel))
set_option maxRecDepth 20000 in
theorem gL_war_X5_cell : GoodIn wsL_war (wsV RL 69 RX5 yX5_cell wsX5_cell) := goodIn_app (goodIn_of _ (by decide +kernel)) ggL_war_X5_cell
set_option maxRecDepth 20000 in
theorem ggL_war_X5_come : GoodIn wsL_war wsX5_come := goodIn_ca (goodIn_ca (goodIn_ca (goodIn_r _ [421, 288, 289, 369, 370, 359, 360, 23, 296, 294, 422, 408, 409, 3, 410, 411, 412, 413, 423, 424, 425, 40, 426, 54, 427, 428, 429, 47, 430, 71, 72, 73, 74, 75, 80, 81, 82, 83, 431, 432, 433, 434, 76, 77, 78, 79, 449, 450, 451, 452, 453, 454, 461, 462, 463, 464, 467, 468, 469, 470, 471, 472, 473, 474, 475, 476, 477, 478, 479, 480, 481, 482, 483, 484, 485, 486, 487, 488, 489, 490, 491, 492, 493, 494] (by decide +kernel) (by decide +kernel)) (goodIn_sub (fun _ h => List.mem_cons_of_mem _ (List.mem_append_left _ (List.mem_append_left _ (List.mem_append_right _ h)))) (by decide +kernel))) (goodIn_sub (fun _ h => List.mem_cons_of_mem _ (List.mem_append_right _ h)) (by decide +kernel))) (goodIn_sub (fun _ h => List.mem_cons_of_mem _ (List.mem_append_left _ (List.mem_append_right _ h))) (by decide +kernel))
set_option maxRecDepth 20000 in
theorem gL_war_X5_come : GoodIn wsL_war (wsV RL 72 RX5 yX5_come wsX5_come) := goodIn_app (goodIn_of _ (by decide +kernel)) ggL_war_X5_come
set_option maxRecDepth 20000 in
theorem ggL_war_X5_order : GoodIn wsL_war wsX5_order := goodIn_ca (goodIn_ca (goodIn_ca (goodIn_r _ [438, 288, 289, 369, 370, 359, 360, 23, 422, 439, 440, 441, 442, 22, 443, 44, 444, 305, 306, 47, 307, 73, 445, 446, 447, 448, 83, 84, 85, 86, 449, 450, 451, 452, 453, 454, 461, 462, 463, 464, 479, 480, 481, 482, 483, 484, 485, 486, 487, 488, 489, 490, 491, 492, 493, 494] (by decide +kernel) (by decide +kernel)) (goodIn_sub (fun _ h => List.mem_cons_of_mem _ (List.mem_append_left _ (List.mem_append_left _ (List.mem_append_right _ h)))) (by decide +kernel))) (goodIn_sub (fun _ h => List.mem_cons_of_mem _ (List.mem_append_right _ h)) (by decide +kernel))) (goodIn_sub (fun _ h => List.mem_cons_of_mem _ (List.mem_append_left _ (List.mem_append_right _ h))) (by decide +kernel))
set_option maxRecDepth 20000 in
theorem gL_war_X5_order : GoodIn wsL_war (wsV RL 75 RX5 yX5_order wsX5_order) := goodIn_app (goodIn_of _ (by decide +kernel)) ggL_war_X5_order
theorem dL_war_0 : decode cL_war 0 = .ok (.new 20, 3) := by decide +kernel
theorem dL_war_3 : decode cL_war 3 = .ok (.dup, 1) := by decide +kernel
theorem dL_war_4 : decode cL_war 4 = .ok (.invokespecial 46, 3) := by decide +kernel
theorem dL_war_7 : decode cL_war 7 = .ok (.astore_n 1, 1) := by decide +kernel
theorem dL_war_8 : decode cL_war 8 = .ok (.new 47, 3) := by decide +kernel
theorem dL_war_11 : decode cL_war 11 = .ok (.dup, 1) := by decide +kernel
theorem dL_war_12 : decode cL_war 12 = .ok (.invokespecial 49, 3) := by decide +kernel
theorem dL_war_15 : decode cL_war 15 = .ok (.astore_n 2, 1) := by decide +kernel
theorem dL_war_16 : decode cL_war 16 = .ok (.iconst 0, 1) := by decide +kernel
theorem dL_war_17 : decode cL_war 17 = .ok (.istore_n 3, 1) := by decide +kernel
theorem dL_war_18 : decode cL_war 18 = .ok (.iload_n 3, 1) := by decide +kernel
theorem dL_war_19 : decode cL_war 19 = .ok (.sipush 144, 3) := by decide +kernel
theorem dL_war_22 : decode cL_war 22 = .ok (.if_icmp .ge 35, 3) := by decide +kernel
theorem dL_war_25 : decode cL_war 25 = .ok (.aload_n 2, 1) := by decide +kernel
theorem dL_war_26 : decode cL_war 26 = .ok (.aload_n 0, 1) := by decide +kernel
theorem dL_war_27 : decode cL_war 27 = .ok (.iload_n 3, 1) := by decide +kernel
theorem dL_war_28 : decode cL_war 28 = .ok (.invokestatic 50, 3) := by decide +kernel
theorem dL_war_31 : decode cL_war 31 = .ok (.invokevirtual 54, 3) := by decide +kernel
theorem dL_war_34 : decode cL_war 34 = .ok (.pop, 1) := by decide +kernel
theorem dL_war_35 : decode cL_war 35 = .ok (.iload_n 3, 1) := by decide +kernel
theorem dL_war_36 : decode cL_war 36 = .ok (.bipush 12, 2) := by decide +kernel
theorem dL_war_38 : decode cL_war 38 = .ok (.irem, 1) := by decide +kernel
theorem dL_war_39 : decode cL_war 39 = .ok (.bipush 11, 2) := by decide +kernel
theorem dL_war_41 : decode cL_war 41 = .ok (.if_icmp .ne 10, 3) := by decide +kernel
theorem dL_war_44 : decode cL_war 44 = .ok (.aload_n 2, 1) := by decide +kernel
theorem dL_war_45 : decode cL_war 45 = .ok (.bipush 10, 2) := by decide +kernel
theorem dL_war_47 : decode cL_war 47 = .ok (.invokevirtual 54, 3) := by decide +kernel
theorem dL_war_50 : decode cL_war 50 = .ok (.pop, 1) := by decide +kernel
theorem dL_war_51 : decode cL_war 51 = .ok (.iinc 3 1, 3) := by decide +kernel
theorem dL_war_54 : decode cL_war 54 = .ok (.goto (-36), 3) := by decide +kernel
theorem dL_war_57 : decode cL_war 57 = .ok (.aload_n 1, 1) := by decide +kernel
theorem dL_war_58 : decode cL_war 58 = .ok (.aload_n 2, 1) := by decide +kernel
theorem dL_war_59 : decode cL_war 59 = .ok (.invokevirtual 58, 3) := by decide +kernel
theorem dL_war_62 : decode cL_war 62 = .ok (.invokestatic 62, 3) := by decide +kernel
theorem dL_war_65 : decode cL_war 65 = .ok (.aload_n 1, 1) := by decide +kernel
theorem dL_war_66 : decode cL_war 66 = .ok (.invokevirtual 66, 3) := by decide +kernel
theorem dL_war_69 : decode cL_war 69 = .ok (.pop, 1) := by decide +kernel
theorem dL_war_70 : decode cL_war 70 = .ok (.iconst 1, 1) := by decide +kernel
theorem dL_war_71 : decode cL_war 71 = .ok (.aload_n 0, 1) := by decide +kernel
theorem dL_war_72 : decode cL_war 72 = .ok (.bipush 9, 2) := by decide +kernel
theorem dL_war_74 : decode cL_war 74 = .ok (.invokestatic 38, 3) := by decide +kernel
theorem dL_war_77 : decode cL_war 77 = .ok (.bipush 8, 2) := by decide +kernel
theorem dL_war_79 : decode cL_war 79 = .ok (.invokestatic 42, 3) := by decide +kernel
theorem dL_war_82 : decode cL_war 82 = .ok (.iadd, 1) := by decide +kernel
theorem dL_war_83 : decode cL_war 83 = .ok (.istore_n 3, 1) := by decide +kernel
theorem dL_war_84 : decode cL_war 84 = .ok (.iconst 0, 1) := by decide +kernel
theorem dL_war_85 : decode cL_war 85 = .ok (.istore 4, 2) := by decide +kernel
theorem dL_war_87 : decode cL_war 87 = .ok (.iconst 0, 1) := by decide +kernel
theorem dL_war_88 : decode cL_war 88 = .ok (.istore 5, 2) := by decide +kernel
theorem dL_war_90 : decode cL_war 90 = .ok (.iload 5, 2) := by decide +kernel
theorem dL_war_92 : decode cL_war 92 = .ok (.bipush 60, 2) := by decide +kernel
theorem dL_war_94 : decode cL_war 94 = .ok (.if_icmp .ge 188, 3) := by decide +kernel
theorem dL_war_97 : decode cL_war 97 = .ok (.iload 4, 2) := by decide +kernel
theorem dL_war_99 : decode cL_war 99 = .ok (.iload_n 3, 1) := by decide +kernel
theorem dL_war_100 : decode cL_war 100 = .ok (.if_icmp .ge 182, 3) := by decide +kernel
theorem dL_war_103 : decode cL_war 103 = .ok (.aload_n 0, 1) := by decide +kernel
theorem dL_war_104 : decode cL_war 104 = .ok (.bipush 10, 2) := by decide +kernel
theorem dL_war_106 : decode cL_war 106 = .ok (.iload 5, 2) := by decide +kernel
theorem dL_war_108 : decode cL_war 108 = .ok (.iconst 3, 1) := by decide +kernel
theorem dL_war_109 : decode cL_war 109 = .ok (.irem, 1) := by decide +kernel
theorem dL_war_110 : decode cL_war 110 = .ok (.iadd, 1) := by decide +kernel
theorem dL_war_111 : decode cL_war 111 = .ok (.invokestatic 38, 3) := by decide +kernel
theorem dL_war_114 : decode cL_war 114 = .ok (.iload 5, 2) := by decide +kernel
theorem dL_war_116 : decode cL_war 116 = .ok (.iconst 3, 1) := by decide +kernel
theorem dL_war_117 : decode cL_war 117 = .ok (.idiv, 1) := by decide +kernel
theorem dL_war_118 : decode cL_war 118 = .ok (.ishr, 1) := by decide +kernel
theorem dL_war_119 : decode cL_war 119 = .ok (.istore 6, 2) := by decide +kernel
theorem dL_war_121 : decode cL_war 121 = .ok (.iload 6, 2) := by decide +kernel
theorem dL_war_123 : decode cL_war 123 = .ok (.iconst 1, 1) := by decide +kernel
theorem dL_war_124 : decode cL_war 124 = .ok (.ishr, 1) := by decide +kernel
theorem dL_war_125 : decode cL_war 125 = .ok (.sipush 144, 3) := by decide +kernel
theorem dL_war_128 : decode cL_war 128 = .ok (.invokestatic 42, 3) := by decide +kernel
theorem dL_war_131 : decode cL_war 131 = .ok (.istore 7, 2) := by decide +kernel
theorem dL_war_133 : decode cL_war 133 = .ok (.aload_n 1, 1) := by decide +kernel
theorem dL_war_134 : decode cL_war 134 = .ok (.iload 7, 2) := by decide +kernel
theorem dL_war_136 : decode cL_war 136 = .ok (.bipush 12, 2) := by decide +kernel
theorem dL_war_138 : decode cL_war 138 = .ok (.irem, 1) := by decide +kernel
theorem dL_war_139 : decode cL_war 139 = .ok (.iload 7, 2) := by decide +kernel
theorem dL_war_141 : decode cL_war 141 = .ok (.bipush 12, 2) := by decide +kernel
theorem dL_war_143 : decode cL_war 143 = .ok (.idiv, 1) := by decide +kernel
theorem dL_war_144 : decode cL_war 144 = .ok (.iconst 2, 1) := by decide +kernel
theorem dL_war_145 : decode cL_war 145 = .ok (.invokevirtual 69, 3) := by decide +kernel
theorem dL_war_148 : decode cL_war 148 = .ok (.ifCond .ne 6, 3) := by decide +kernel
theorem dL_war_151 : decode cL_war 151 = .ok (.goto 125, 3) := by decide +kernel
theorem dL_war_154 : decode cL_war 154 = .ok (.aload_n 1, 1) := by decide +kernel
theorem dL_war_155 : decode cL_war 155 = .ok (.iload 6, 2) := by decide +kernel
theorem dL_war_157 : decode cL_war 157 = .ok (.iconst 2, 1) := by decide +kernel
theorem dL_war_158 : decode cL_war 158 = .ok (.invokestatic 42, 3) := by decide +kernel
theorem dL_war_161 : decode cL_war 161 = .ok (.iload 7, 2) := by decide +kernel
theorem dL_war_163 : decode cL_war 163 = .ok (.bipush 12, 2) := by decide +kernel
theorem dL_war_165 : decode cL_war 165 = .ok (.irem, 1) := by decide +kernel
theorem dL_war_166 : decode cL_war 166 = .ok (.iload 7, 2) := by decide +kernel
theorem dL_war_168 : decode cL_war 168 = .ok (.bipush 12, 2) := by decide +kernel
theorem dL_war_170 : decode cL_war 170 = .ok (.idiv, 1) := by decide +kernel
theorem dL_war_171 : decode cL_war 171 = .ok (.iconst 1, 1) := by decide +kernel
theorem dL_war_172 : decode cL_war 172 = .ok (.iload 6, 2) := by decide +kernel
theorem dL_war_174 : decode cL_war 174 = .ok (.iconst 3, 1) := by decide +kernel
theorem dL_war_175 : decode cL_war 175 = .ok (.ishr, 1) := by decide +kernel
theorem dL_war_176 : decode cL_war 176 = .ok (.bipush 9, 2) := by decide +kernel
theorem dL_war_178 : decode cL_war 178 = .ok (.invokestatic 42, 3) := by decide +kernel
theorem dL_war_181 : decode cL_war 181 = .ok (.iadd, 1) := by decide +kernel
theorem dL_war_182 : decode cL_war 182 = .ok (.iconst 1, 1) := by decide +kernel
theorem dL_war_183 : decode cL_war 183 = .ok (.iload 6, 2) := by decide +kernel
theorem dL_war_185 : decode cL_war 185 = .ok (.iconst 5, 1) := by decide +kernel
theorem dL_war_186 : decode cL_war 186 = .ok (.ishr, 1) := by decide +kernel
theorem dL_war_187 : decode cL_war 187 = .ok (.iconst 5, 1) := by decide +kernel
theorem dL_war_188 : decode cL_war 188 = .ok (.invokestatic 42, 3) := by decide +kernel
theorem dL_war_191 : decode cL_war 191 = .ok (.iadd, 1) := by decide +kernel
theorem dL_war_192 : decode cL_war 192 = .ok (.invokevirtual 72, 3) := by decide +kernel
theorem dL_war_195 : decode cL_war 195 = .ok (.pop, 1) := by decide +kernel
theorem dL_war_196 : decode cL_war 196 = .ok (.iload 6, 2) := by decide +kernel
theorem dL_war_198 : decode cL_war 198 = .ok (.iconst 4, 1) := by decide +kernel
theorem dL_war_199 : decode cL_war 199 = .ok (.ishr, 1) := by decide +kernel
theorem dL_war_200 : decode cL_war 200 = .ok (.bipush 7, 2) := by decide +kernel
theorem dL_war_202 : decode cL_war 202 = .ok (.invokestatic 42, 3) := by decide +kernel
theorem dL_war_205 : decode cL_war 205 = .ok (.istore 8, 2) := by decide +kernel
theorem dL_war_207 : decode cL_war 207 = .ok (.iload 8, 2) := by decide +kernel
theorem dL_war_209 : decode cL_war 209 = .ok (.ifCond .le 64, 3) := by decide +kernel
theorem dL_war_212 : decode cL_war 212 = .ok (.aload_n 0, 1) := by decide +kernel
theorem dL_war_213 : decode cL_war 213 = .ok (.bipush 13, 2) := by decide +kernel
theorem dL_war_215 : decode cL_war 215 = .ok (.iload 8, 2) := by decide +kernel
theorem dL_war_217 : decode cL_war 217 = .ok (.iconst 3, 1) := by decide +kernel
theorem dL_war_218 : decode cL_war 218 = .ok (.irem, 1) := by decide +kernel
theorem dL_war_219 : decode cL_war 219 = .ok (.iadd, 1) := by decide +kernel
theorem dL_war_220 : decode cL_war 220 = .ok (.invokestatic 38, 3) := by decide +kernel
theorem dL_war_223 : decode cL_war 223 = .ok (.iload 8, 2) := by decide +kernel
theorem dL_war_225 : decode cL_war 225 = .ok (.iload 5, 2) := by decide +kernel
theorem dL_war_227 : decode cL_war 227 = .ok (.bipush 11, 2) := by decide +kernel
theorem dL_war_229 : decode cL_war 229 = .ok (.irem, 1) := by decide +kernel
theorem dL_war_230 : decode cL_war 230 = .ok (.iadd, 1) := by decide +kernel
theorem dL_war_231 : decode cL_war 231 = .ok (.ishr, 1) := by decide +kernel
theorem dL_war_232 : decode cL_war 232 = .ok (.istore 9, 2) := by decide +kernel
theorem dL_war_234 : decode cL_war 234 = .ok (.aload_n 1, 1) := by decide +kernel
theorem dL_war_235 : decode cL_war 235 = .ok (.iload 4, 2) := by decide +kernel
theorem dL_war_237 : decode cL_war 237 = .ok (.iload 9, 2) := by decide +kernel
theorem dL_war_239 : decode cL_war 239 = .ok (.bipush 7, 2) := by decide +kernel
theorem dL_war_241 : decode cL_war 241 = .ok (.invokestatic 42, 3) := by decide +kernel
theorem dL_war_244 : decode cL_war 244 = .ok (.iload 9, 2) := by decide +kernel
theorem dL_war_246 : decode cL_war 246 = .ok (.iconst 2, 1) := by decide +kernel
theorem dL_war_247 : decode cL_war 247 = .ok (.ishr, 1) := by decide +kernel
theorem dL_war_248 : decode cL_war 248 = .ok (.iconst 4, 1) := by decide +kernel
theorem dL_war_249 : decode cL_war 249 = .ok (.invokestatic 42, 3) := by decide +kernel
theorem dL_war_252 : decode cL_war 252 = .ok (.iconst 1, 1) := by decide +kernel
theorem dL_war_253 : decode cL_war 253 = .ok (.iload 9, 2) := by decide +kernel
theorem dL_war_255 : decode cL_war 255 = .ok (.iconst 4, 1) := by decide +kernel
theorem dL_war_256 : decode cL_war 256 = .ok (.ishr, 1) := by decide +kernel
theorem dL_war_257 : decode cL_war 257 = .ok (.bipush 9, 2) := by decide +kernel
theorem dL_war_259 : decode cL_war 259 = .ok (.invokestatic 42, 3) := by decide +kernel
theorem dL_war_262 : decode cL_war 262 = .ok (.iadd, 1) := by decide +kernel
theorem dL_war_263 : decode cL_war 263 = .ok (.invokevirtual 75, 3) := by decide +kernel
theorem dL_war_266 : decode cL_war 266 = .ok (.pop, 1) := by decide +kernel
theorem dL_war_267 : decode cL_war 267 = .ok (.iinc 8 (-1), 3) := by decide +kernel
theorem dL_war_270 : decode cL_war 270 = .ok (.goto (-63), 3) := by decide +kernel
theorem dL_war_273 : decode cL_war 273 = .ok (.iinc 4 1, 3) := by decide +kernel
theorem dL_war_276 : decode cL_war 276 = .ok (.iinc 5 1, 3) := by decide +kernel
theorem dL_war_279 : decode cL_war 279 = .ok (.goto (-189), 3) := by decide +kernel
theorem dL_war_282 : decode cL_war 282 = .ok (.aload_n 1, 1) := by decide +kernel
theorem dL_war_283 : decode cL_war 283 = .ok (.areturn, 1) := by decide +kernel
section ZL4
variable {l : Launch} {G : va_G} {K : Nat × Nat × (Nat → Int32)} {cI cZ cT cB : ClassId}
theorem cell_no (a : Nat) : 12 * (a / 12) + a % 12 = a := by omega
theorem c_X5_cellA (l : Launch) (G : va_G) (cI cZ cT : ClassId) (o : Nat) (S : zS) (a k : Nat) (ha : a < 144) (hk : k < 8) : zI l G cI cZ cT o yX5_cell wsX5_cell { frames := 1, cells := 0, slots := 0, locals := 22 } [.ref (o + 0), .int (nI (a % 12)), .int (nI (a / 12)), .int (nI k)] S (fun r u => r = S 0 k a ∧ u = S) := by
  have h := c_X5_cell l G cI cZ cT o S (a % 12) (a / 12) k (by omega) (by omega) hk
  rw [cell_no a] at h
  exact h
theorem c_X5_openA (l : Launch) (G : va_G) (cI cZ cT : ClassId) (o : Nat) (S : zS) (a : Nat) (ha : a < 144) (h1 : s_isRock S 0 a = 0) (h2 : s_isTunnel S 0 a = 0) : zI l G cI cZ cT o yX5_openAt wsX5_openAt { frames := 2, cells := 0, slots := 0, locals := 42 } [.ref (o + 0), .int (nI (a % 12)), .int (nI (a / 12))] S (fun r u => r = s_openTunnel S 0 a 0 0 a ∧ u = s_openTunnel S 0 a) := by
  have h := c_X5_openAt l G cI cZ cT o S (a % 12) (a / 12) (by omega) (by omega) (by rw [cell_no a]; exact h1) (by rw [cell_no a]; exact h2)
  rw [cell_no a] at h
  exact h
theorem c_X5_comeA (l : Launch) (G : va_G) (cI cZ cT : ClassId) (o : Nat) (S : zS) (n sd a hh kk : Nat) (hok : z_ok S 0 n) (hn : n < 8) (hsd : sd < 2) (ha : a < 144) (hh9 : hh < 9) (hk5 : kk < 5) (ht : s_isTunnel S 0 a = 1) : zI l G cI cZ cT o yX5_come wsX5_come { frames := 2, cells := 0, slots := 0, locals := 44 } [.ref (o + 0), .int (nI sd), .int (nI (a % 12)), .int (nI (a / 12)), .int (nI (1 + hh)), .int (nI (1 + kk))] S (fun r u => r = nI n ∧ u = s_come S n (nI sd) (nI a) (nI (1 + hh)) (nI (1 + kk))) := by
  have h := c_X5_come l G cI cZ cT o S n sd (a % 12) (a / 12) (1 + hh) (1 + kk) hok hn hsd (by omega) (by omega) (by omega) (by omega) (by omega) (by omega) (by rw [cell_no a]; exact ht)
  rw [cell_no a] at h
  exact h
theorem tun_of {S : zS} {n a : Nat} (h : zJ S n) (q : S 0 2 a ≠ 0) : S 0 2 a = 1 := Decidable.byContradiction fun r => q (h.2.2.1.1.non r).1
theorem tunl_1 {S : zS} {a : Nat} (q : S 0 2 a = 1) : s_isTunnel S 0 a = 1 := if_pos q
theorem come_at (S : zS) (n : Nat) (a c h d : Int32) : s_come S n a c h d 0 26 n = 0 ∧ s_come S n a c h d 0 16 n = h := by
  have e : ∀ k, k ≠ 12 → s_come S n a c h d 0 k n = s_start S 0 n a c h d 0 k n := fun k hk => z_up_ne _ _ (by omega)
  rw [e 26 (by decide), e 16 (by decide), start_at, start_at]
  exact ⟨rfl, rfl⟩
theorem add_at (S : zS) (t m : Nat) (a b c : Int32) : s_addOrder S 0 t m a b c 0 26 t = nI (m + 1) ∧ s_addOrder S 0 t m a b c 0 16 t = S 0 16 t := by
  unfold s_addOrder
  exact ⟨z_up_at _ _ _ _ _, by rw [z_up_ne _ _ (by omega), z_up_ne _ _ (by omega), z_up_ne _ _ (by omega), z_up_ne _ _ (by omega)]⟩
theorem gonl_0 {S : zS} {t : Nat} (h : 0 < S 0 16 t) : s_isGone S 0 t = 0 := if_pos h
theorem nI_0lt {a : Nat} (h0 : 0 < a) (h : a < 2 ^ 31) : (0 : Int32) < nI a := (nI_ltI (a := 0) (by decide) h).2 h0
theorem jw4_1 : ∀ w ∈ u_ws RX5 TX5 6, w ∈ wsL_war := by decide +kernel
theorem jw4_2 : ∀ w ∈ u_ws RJ4 TJ4 4, w ∈ wsL_war := by decide +kernel
theorem jw4_3 : Cond.classLink RL 20 RX5 ∈ wsL_war := by decide +kernel
theorem jw4_4 : Cond.instantiable RX5 6 ∈ wsL_war := by decide +kernel
theorem jw4_5 : Cond.initialized RX5 ∈ wsL_war := by decide +kernel
theorem jw4_6 : Cond.classLink RL 47 RJ4 ∈ wsL_war := by decide +kernel
theorem jw4_7 : Cond.instantiable RJ4 4 ∈ wsL_war := by decide +kernel
theorem jw4_8 : Cond.initialized RJ4 ∈ wsL_war := by decide +kernel
theorem jw4_9 : Cond.methodLink RL 46 yX5_init ∈ wsL_war := by decide +kernel
theorem jw4_10 : Cond.initialized yX5_init.cls ∈ wsL_war := by decide +kernel
theorem jw4_11 : Cond.instanceMethod yX5_init ∈ wsL_war := by decide +kernel
theorem jw4_12 : Cond.methodLink RL 49 yJ4_init_da8c8 ∈ wsL_war := by decide +kernel
theorem jw4_13 : Cond.initialized yJ4_init_da8c8.cls ∈ wsL_war := by decide +kernel
theorem jw4_14 : Cond.instanceMethod yJ4_init_da8c8 ∈ wsL_war := by decide +kernel
set_option maxRecDepth 100000 in
set_option maxHeartbeats 4000000 in
/-- a siege that the script chooses -/
theorem c_L_war (hL : K.2.1 < 2 ^ 31) : jR l G K (j_ty cI cZ cT cB) yL_war wsL_war { frames := 6, cells := 600, slots := 120000, locals := 180 } [] [.ref K.1] 600 120000 (fun (u : zS × Nat) (_ : Nat) => zJ u.1 u.2) (fun (u : zS × Nat) (a : Nat) => z_w cI cZ cT a u.1) := by
  refine j_ofR (cc := cL_war) (maxL := 10) (rty := .object "SapperWar") (by decide) rfl (Nat.le_of_ble_eq_true rfl) ?_
  intro p e s m args below meth c X hnm hZ
  have hA : ∀ q, s.heap.size ≤ q → (va_A ([] : va_W) s.heap.size) q := fun _ h => Or.inr h
  have hA2 : ∀ q, (va_A ([] : va_W) s.heap.size) q → s.heap.size ≤ q := fun q h => h.elim (fun ⟨k, e, h⟩ => by cases h) id
  refine j_new X hA (ci := 7) (C := RX5) (T := TX5) (N := 6) (fs := [.null, .null, .int 0, .null, .null, .null]) jw4_1 tyX5_ok jw4_3 jw4_4 jw4_5 rfl (fun j hj => by rcases (show j = 0 ∨ j = 1 ∨ j = 2 ∨ j = 3 ∨ j = 4 ∨ j = 5 by omega) with rfl | rfl | rfl | rfl | rfl | rfl <;> rfl) (Nat.le_of_ble_eq_true rfl) (Nat.le_of_ble_eq_true rfl) dL_war_0 (fun o => ?_)
  refine j_dup X rfl dL_war_3 ?_
  refine j_callZN X hA hA2 hZ (rest := [.ref o]) jw4_9 gL_war_X5_init jw4_10 jw4_11 rfl ⟨by decide +kernel, by decide +kernel, by decide +kernel⟩ ⟨Nat.le_of_ble_eq_true rfl, Nat.le_of_ble_eq_true rfl⟩ (Nat.le_of_ble_eq_true rfl) ⟨Nat.le_of_ble_eq_true rfl, Nat.le_of_ble_eq_true rfl⟩ dL_war_4 ?_
  refine j_astore_n (lo' := [(1, .ref o), (0, .ref K.1)]) X dL_war_7 rfl (by decide) rfl ?_
  refine j_new X hA (ci := 1) (C := RJ4) (T := TJ4) (N := 4) (fs := [.null, .int 0, .int 0, .int 0]) jw4_2 tyJ4_ok jw4_6 jw4_7 jw4_8 rfl (fun j hj => by rcases (show j = 0 ∨ j = 1 ∨ j = 2 ∨ j = 3 by omega) with rfl | rfl | rfl | rfl <;> rfl) (Nat.le_of_ble_eq_true rfl) (Nat.le_of_ble_eq_true rfl) dL_war_8 (fun hb => ?_)
  refine j_dup X rfl dL_war_11 ?_
  refine p_callIU X hA hZ (rest := [.ref hb]) [(hb, .inr (1, [.null, .int 0, .int 0, .int 0]))] (z_w cI cZ cT o z_S0) (fun hv => (j_sb cB hb hv 0 0 16 (fun _ => 0)) ++ (z_w cI cZ cT o z_S0)) List.perm_append_comm (fun _ => List.perm_append_comm) [] (b := hb) (c_J4_init (cI := cI) (cZ := cZ) (cT := cT) hb) 0 rfl jw4_12 gL_war_J4_init_da8c8 jw4_13 jw4_14 rfl rfl ⟨rfl, rfl⟩ ⟨by decide +kernel, by decide +kernel, by decide +kernel⟩ ⟨Nat.le_of_ble_eq_true rfl, Nat.le_of_ble_eq_true rfl⟩ rfl (Nat.le_of_ble_eq_true rfl) ⟨Nat.le_of_ble_eq_true rfl, Nat.le_of_ble_eq_true rfl⟩ dL_war_12 (fun hv0 _ => ?_)
  refine j_wid (k1 := 99) (q1 := 4434) (Nat.le_of_ble_eq_true rfl) (Nat.le_of_ble_eq_true rfl) ?_
  refine j_astore_n (lo' := [(2, .ref hb), (1, .ref o), (0, .ref K.1)]) X dL_war_15 rfl (by decide) rfl ?_
  refine j_iconst (v := nI 0) X (by decide) dL_war_16 ?_
  refine j_istore_n (lo' := [(3, .int (nI 0)), (2, .ref hb), (1, .ref o), (0, .ref K.1)]) X dL_war_17 rfl (by decide) rfl ?_
  have L18 : ∀ (d i : Nat), i + d = 144 → ∀ (hv cap : Nat) (f : Nat → Int32), j_cap cap → i + i / 12 ≤ cap → (∀ j, fits .byte (.int (f j)) = true) → j_V p l e (headSpec wsL_war { frames := 6, cells := 600, slots := 120000, locals := 180 }).room s m args below meth c (MQ below (va_Qr (fun _ : zS × Nat => True) (j_Br G (va_A ([] : va_W) s.heap.size) (fun (u : zS × Nat) (_ : Nat) => zJ u.1 u.2) (fun (u : zS × Nat) (a : Nat) => z_w cI cZ cT a u.1)) (va_A ([] : va_W) s.heap.size)) args s 600 120000 (va_A ([] : va_W) s.heap.size)) G 10 (va_A ([] : va_W) s.heap.size) (99 + 2 * i) (4434 + 580 * i) ((j_sb cB hb hv 0 (i + i / 12) cap f) ++ (z_w cI cZ cT o z_S0)) 18 [(3, .int (nI i)), (2, .ref hb), (1, .ref o), (0, .ref K.1)] [] := by
    intro d
    induction d with
    | zero =>
      intro i hi hv cap f hc hn hf
      refine j_iload_n X 0 dL_war_18 rfl rfl ?_
      refine j_sipush (v := nI 144) X (by decide) dL_war_19 ?_
      refine j_ncmp_ge X i 144 rfl rfl (by omega) (by omega) (tgt := 57) dL_war_22 (by decide) (fun h1 => ?_) (fun h1 => ?_)
      · have e144 : i = 144 := by omega
        subst e144
        have e286 : cap = 286 := by rcases hc with q | q | q | q | q <;> omega
        subst e286
        refine j_weq (ws' := (j_sb cB hb hv 0 156 286 f) ++ (z_w cI cZ cT o z_S0)) rfl ?_
        refine j_wid (k1 := 390) (q1 := 88000) (Nat.le_of_ble_eq_true rfl) (Nat.le_of_ble_eq_true rfl) ?_
        refine j_aload_n X 2 dL_war_57 rfl rfl ?_
        refine j_aload_n X 1 dL_war_58 rfl rfl ?_
        refine p_callVR X hA hZ (rest := [.ref o]) (j_sb cB hb hv 0 156 286 f) (z_w cI cZ cT o z_S0) (fun (u : Nat × (Nat → Int32)) hs => ([(hs, .inr (0, [.ref u.1, .int 0, .int 0, .int 0])), (hb, .inr (1, [.ref hv, .int 0, .int 0, .int (nI 156)])), (hv, .inl (cB, 286, .inl f)), (u.1, .inl (cB, 156, .inl u.2))] : va_W) ++ (z_w cI cZ cT o z_S0)) (List.Perm.refl _) (fun _ _ => List.perm_append_comm) [] 0 rfl rfl (c_J4_toString (cI := cI) (cZ := cZ) (cT := cT) hb hv 0 156 286 f (by decide) (by decide) hf) 0 rfl gL_war_J4_toString_0e30d rfl ⟨rfl, rfl⟩ ⟨by decide +kernel, by decide +kernel, by decide +kernel, by decide +kernel⟩ ⟨Nat.le_of_ble_eq_true rfl, Nat.le_of_ble_eq_true rfl⟩ rfl (Nat.le_of_ble_eq_true rfl) ⟨Nat.le_of_ble_eq_true rfl, Nat.le_of_ble_eq_true rfl⟩ dL_war_59 (fun u hs hu => ?_)
        refine j_sublist (ws' := (j_str cB hs u.1 156 u.2) ++ (z_w cI cZ cT o z_S0)) (List.Sublist.append_right (List.Sublist.cons_cons _ (List.Sublist.cons _ (List.Sublist.cons _ (List.Sublist.refl _)))) _) ?_
        refine p_callSU X hA hZ (rest := []) ((j_str cB hs u.1 156 u.2) ++ (z_w cI cZ cT o z_S0)) [] (fun S1 => (j_str cB hs u.1 156 u.2) ++ (z_w cI cZ cT o S1)) (nil_perm _).symm (fun _ => List.Perm.refl _) [.ref o, .ref hs] (c_L_type o hs u.1 u.2 z_S0 J_S0 rfl) 2 rfl gL_war_L_type rfl ⟨rfl, rfl⟩ ⟨by decide +kernel, by decide +kernel, by decide +kernel⟩ ⟨Nat.le_of_ble_eq_true rfl, Nat.le_of_ble_eq_true rfl⟩ rfl (Nat.le_of_ble_eq_true rfl) ⟨Nat.le_of_ble_eq_true rfl, Nat.le_of_ble_eq_true rfl⟩ dL_war_62 (fun S1 hS1 => ?_)
        obtain ⟨hJ1, hl1⟩ := hS1
        refine j_sublist (ws' := (z_w cI cZ cT o S1)) (List.sublist_append_right _ _) ?_
        refine j_wid (k1 := 400) (q1 := 90000) (Nat.le_of_ble_eq_true rfl) (Nat.le_of_ble_eq_true rfl) ?_
        refine j_aload_n X 2 dL_war_65 rfl rfl ?_
        refine j_callZIf X hA hZ (rest := []) ([]) (S := S1) [] (c_X5_map l G cI cZ cT o S1 156 (by decide) hl1) 0 rfl gL_war_X5_map rfl ⟨rfl, rfl⟩ hz_X5_map ⟨Nat.le_of_ble_eq_true rfl, Nat.le_of_ble_eq_true rfl⟩ rfl (Nat.le_of_ble_eq_true rfl) ⟨by show 400 ≤ 600; omega, by show 90000 ≤ 120000; omega⟩ dL_war_66 ?_
        refine j_pop X rfl dL_war_69 ?_
        refine j_iconst (v := nI 1) X (by decide) dL_war_70 ?_
        refine j_aload_n X 3 dL_war_71 rfl rfl ?_
        refine j_bipush (v := nI 9) X (by decide) dL_war_72 ?_
        refine q_cell X hA hZ (rest := [.int (nI 1)]) 9 (by omega) hL gL_war_L_cell ⟨Nat.le_of_ble_eq_true rfl, Nat.le_of_ble_eq_true rfl⟩ (Nat.le_of_ble_eq_true rfl) ⟨by show 400 ≤ 600; omega, by show 90000 ≤ 120000; omega⟩ dL_war_74 (fun r9 => ?_)
        refine j_bipush (v := nI 8) X (by decide) dL_war_77 ?_
        refine q_below X hA hZ (rest := [.int (nI 1)]) r9 8 (by decide) (by decide) gL_war_L_below ⟨Nat.le_of_ble_eq_true rfl, Nat.le_of_ble_eq_true rfl⟩ (Nat.le_of_ble_eq_true rfl) ⟨by show 400 ≤ 600; omega, by show 90000 ≤ 120000; omega⟩ dL_war_79 (fun j0 hj0 => ?_)
        refine j_iadd X dL_war_82 ?_
        refine j_top (y := nI (1 + j0)) (nI_add 1 j0) ?_
        refine j_istore_n (lo' := [(3, .int (nI (1 + j0))), (2, .ref hb), (1, .ref o), (0, .ref K.1)]) X dL_war_83 rfl (by decide) rfl ?_
        refine j_iconst (v := nI 0) X (by decide) dL_war_84 ?_
        refine j_istore (lo' := [(4, .int (nI 0)), (3, .int (nI (1 + j0))), (2, .ref hb), (1, .ref o), (0, .ref K.1)]) X dL_war_85 (by decide) rfl ?_
        refine j_iconst (v := nI 0) X (by decide) dL_war_87 ?_
        refine j_istore (lo' := [(5, .int (nI 0)), (4, .int (nI 0)), (3, .int (nI (1 + j0))), (2, .ref hb), (1, .ref o), (0, .ref K.1)]) X dL_war_88 (by decide) rfl ?_
        have L90 : ∀ (d k : Nat), k + d = 60 → ∀ (n : Nat) (S : zS), zJ S n → n ≤ 1 + j0 → j_V p l e (headSpec wsL_war { frames := 6, cells := 600, slots := 120000, locals := 180 }).room s m args below meth c (MQ below (va_Qr (fun _ : zS × Nat => True) (j_Br G (va_A ([] : va_W) s.heap.size) (fun (u : zS × Nat) (_ : Nat) => zJ u.1 u.2) (fun (u : zS × Nat) (a : Nat) => z_w cI cZ cT a u.1)) (va_A ([] : va_W) s.heap.size)) args s 600 120000 (va_A ([] : va_W) s.heap.size)) G 10 (va_A ([] : va_W) s.heap.size) 400 90000 (z_w cI cZ cT o S) 90 [(5, .int (nI k)), (4, .int (nI n)), (3, .int (nI (1 + j0))), (1, .ref o), (0, .ref K.1)] [] := by
          intro d
          induction d with
          | zero =>
            intro k hk n S hJ hn
            refine j_iload X 0 dL_war_90 rfl ?_
            refine j_bipush (v := nI 60) X (by decide) dL_war_92 ?_
            refine j_ncmp_ge X k 60 rfl rfl (by omega) (by omega) (tgt := 282) dL_war_94 (by decide) (fun h3 => ?_) (fun h3 => ?_)
            · refine j_aload_n X 3 dL_war_282 rfl rfl ?_
              refine j_wid (k1 := 600) (q1 := 120000) (Nat.le_of_ble_eq_true rfl) (Nat.le_of_ble_eq_true rfl) ?_
              exact j_aret X (Or.inl ⟨_, rfl⟩) (S, n) rfl dL_war_283 hJ
            · exact absurd h3 (by omega)
          | succ d ih =>
            intro k hk n S hJ hn
            refine j_iload X 0 dL_war_90 rfl ?_
            refine j_bipush (v := nI 60) X (by decide) dL_war_92 ?_
            refine j_ncmp_ge X k 60 rfl rfl (by omega) (by omega) (tgt := 282) dL_war_94 (by decide) (fun h3 => ?_) (fun h3 => ?_)
            · exact absurd h3 (by omega)
            · refine j_iload X 1 dL_war_97 rfl ?_
              refine j_iload_n X 2 dL_war_99 rfl rfl ?_
              refine j_ncmp_ge X n (1 + j0) rfl rfl (by omega) (by omega) (tgt := 282) dL_war_100 (by decide) (fun h4 => ?_) (fun h4 => ?_)
              · refine j_aload_n X 3 dL_war_282 rfl rfl ?_
                refine j_wid (k1 := 600) (q1 := 120000) (Nat.le_of_ble_eq_true rfl) (Nat.le_of_ble_eq_true rfl) ?_
                exact j_aret X (Or.inl ⟨_, rfl⟩) (S, n) rfl dL_war_283 hJ
              · refine j_aload_n X 4 dL_war_103 rfl rfl ?_
                refine j_bipush (v := nI 10) X (by decide) dL_war_104 ?_
                refine j_iload X 0 dL_war_106 rfl ?_
                refine j_iconst (v := nI 3) X (by decide) dL_war_108 ?_
                refine j_irem X (by decide) dL_war_109 ?_
                refine j_top (y := nI (k % 3)) (pk_rem (a := k) (d := 3) (by omega) (by decide) (by decide)) ?_
                refine j_iadd X dL_war_110 ?_
                refine j_top (y := nI (10 + (k % 3))) (nI_add 10 (k % 3)) ?_
                refine q_cell X hA hZ (rest := []) (10 + (k % 3)) (by omega) hL gL_war_L_cell ⟨Nat.le_of_ble_eq_true rfl, Nat.le_of_ble_eq_true rfl⟩ (Nat.le_of_ble_eq_true rfl) ⟨by show 400 ≤ 600; omega, by show 90000 ≤ 120000; omega⟩ dL_war_111 (fun r1 => ?_)
                refine j_iload X 0 dL_war_114 rfl ?_
                refine j_iconst (v := nI 3) X (by decide) dL_war_116 ?_
                refine j_idiv X (by decide) dL_war_117 ?_
                refine j_top (y := nI (k / 3)) (pk_div (a := k) (d := 3) (by omega) (by decide) (by decide)) ?_
                refine j_ishrA X dL_war_118 (fun x118 => ?_)
                refine j_istore (lo' := [(6, .int x118), (5, .int (nI k)), (4, .int (nI n)), (3, .int (nI (1 + j0))), (1, .ref o), (0, .ref K.1)]) X dL_war_119 (by decide) rfl ?_
                refine j_iload X 0 dL_war_121 rfl ?_
                refine j_iconst (v := nI 1) X (by decide) dL_war_123 ?_
                refine j_ishrA X dL_war_124 (fun x124 => ?_)
                refine j_sipush (v := nI 144) X (by decide) dL_war_125 ?_
                refine q_below X hA hZ (rest := []) x124 144 (by decide) (by decide) gL_war_L_below ⟨Nat.le_of_ble_eq_true rfl, Nat.le_of_ble_eq_true rfl⟩ (Nat.le_of_ble_eq_true rfl) ⟨by show 400 ≤ 600; omega, by show 90000 ≤ 120000; omega⟩ dL_war_128 (fun a ha => ?_)
                refine j_istore (lo' := [(7, .int (nI a)), (6, .int x118), (5, .int (nI k)), (4, .int (nI n)), (3, .int (nI (1 + j0))), (1, .ref o), (0, .ref K.1)]) X dL_war_131 (by decide) rfl ?_
                refine j_aload_n X 5 dL_war_133 rfl rfl ?_
                refine j_iload X 0 dL_war_134 rfl ?_
                refine j_bipush (v := nI 12) X (by decide) dL_war_136 ?_
                refine j_irem X (by decide) dL_war_138 ?_
                refine j_top (y := nI (a % 12)) (pk_rem (a := a) (d := 12) (by omega) (by decide) (by decide)) ?_
                refine j_iload X 0 dL_war_139 rfl ?_
                refine j_bipush (v := nI 12) X (by decide) dL_war_141 ?_
                refine j_idiv X (by decide) dL_war_143 ?_
                refine j_top (y := nI (a / 12)) (pk_div (a := a) (d := 12) (by omega) (by decide) (by decide)) ?_
                refine j_iconst (v := nI 2) X (by decide) dL_war_144 ?_
                refine j_callZIf X hA hZ (rest := []) ([]) (S := S) [.int (nI (a % 12)), .int (nI (a / 12)), .int (nI 2)] (c_X5_cellA l G cI cZ cT o S a 2 ha (by decide)) 3 rfl gL_war_X5_cell rfl ⟨rfl, rfl⟩ hz_X5_cell ⟨Nat.le_of_ble_eq_true rfl, Nat.le_of_ble_eq_true rfl⟩ rfl (Nat.le_of_ble_eq_true rfl) ⟨by show 400 ≤ 600; omega, by show 90000 ≤ 120000; omega⟩ dL_war_145 ?_
                refine j_if_ne X (tgt := 154) dL_war_148 (by decide) (fun h5 => ?_) (fun h5 => ?_)
                · refine j_aload_n X 5 dL_war_154 rfl rfl ?_
                  refine j_iload X 1 dL_war_155 rfl ?_
                  refine j_iconst (v := nI 2) X (by decide) dL_war_157 ?_
                  refine q_below X hA hZ (rest := [.ref o]) x118 2 (by decide) (by decide) gL_war_L_below ⟨Nat.le_of_ble_eq_true rfl, Nat.le_of_ble_eq_true rfl⟩ (Nat.le_of_ble_eq_true rfl) ⟨by show 400 ≤ 600; omega, by show 90000 ≤ 120000; omega⟩ dL_war_158 (fun sd hsd => ?_)
                  refine j_iload X 0 dL_war_161 rfl ?_
                  refine j_bipush (v := nI 12) X (by decide) dL_war_163 ?_
                  refine j_irem X (by decide) dL_war_165 ?_
                  refine j_top (y := nI (a % 12)) (pk_rem (a := a) (d := 12) (by omega) (by decide) (by decide)) ?_
                  refine j_iload X 0 dL_war_166 rfl ?_
                  refine j_bipush (v := nI 12) X (by decide) dL_war_168 ?_
                  refine j_idiv X (by decide) dL_war_170 ?_
                  refine j_top (y := nI (a / 12)) (pk_div (a := a) (d := 12) (by omega) (by decide) (by decide)) ?_
                  refine j_iconst (v := nI 1) X (by decide) dL_war_171 ?_
                  refine j_iload X 1 dL_war_172 rfl ?_
                  refine j_iconst (v := nI 3) X (by decide) dL_war_174 ?_
                  refine j_ishrA X dL_war_175 (fun x175 => ?_)
                  refine j_bipush (v := nI 9) X (by decide) dL_war_176 ?_
                  refine q_below X hA hZ (rest := [.int (nI 1), .int (nI (a / 12)), .int (nI (a % 12)), .int (nI sd), .ref o]) x175 9 (by decide) (by decide) gL_war_L_below ⟨Nat.le_of_ble_eq_true rfl, Nat.le_of_ble_eq_true rfl⟩ (Nat.le_of_ble_eq_true rfl) ⟨by show 400 ≤ 600; omega, by show 90000 ≤ 120000; omega⟩ dL_war_178 (fun hh hhh => ?_)
                  refine j_iadd X dL_war_181 ?_
                  refine j_top (y := nI (1 + hh)) (nI_add 1 hh) ?_
                  refine j_iconst (v := nI 1) X (by decide) dL_war_182 ?_
                  refine j_iload X 1 dL_war_183 rfl ?_
                  refine j_iconst (v := nI 5) X (by decide) dL_war_185 ?_
                  refine j_ishrA X dL_war_186 (fun x186 => ?_)
                  refine j_iconst (v := nI 5) X (by decide) dL_war_187 ?_
                  refine q_below X hA hZ (rest := [.int (nI 1), .int (nI (1 + hh)), .int (nI (a / 12)), .int (nI (a % 12)), .int (nI sd), .ref o]) x186 5 (by decide) (by decide) gL_war_L_below ⟨Nat.le_of_ble_eq_true rfl, Nat.le_of_ble_eq_true rfl⟩ (Nat.le_of_ble_eq_true rfl) ⟨by show 400 ≤ 600; omega, by show 90000 ≤ 120000; omega⟩ dL_war_188 (fun sk hsk => ?_)
                  refine j_iadd X dL_war_191 ?_
                  refine j_top (y := nI (1 + sk)) (nI_add 1 sk) ?_
                  have ht9 := tun_of hJ h5
                  refine j_callZIf X hA hZ (rest := []) ([]) (S := S) [.int (nI sd), .int (nI (a % 12)), .int (nI (a / 12)), .int (nI (1 + hh)), .int (nI (1 + sk))] (c_X5_comeA l G cI cZ cT o S n sd a hh sk hJ.1 (by omega) hsd ha hhh hsk (tunl_1 ht9)) 5 rfl gL_war_X5_come rfl ⟨rfl, rfl⟩ hz_X5_come ⟨Nat.le_of_ble_eq_true rfl, Nat.le_of_ble_eq_true rfl⟩ rfl (Nat.le_of_ble_eq_true rfl) ⟨by show 400 ≤ 600; omega, by show 90000 ≤ 120000; omega⟩ dL_war_192 ?_
                  refine j_pop X rfl dL_war_195 ?_
                  refine j_iload X 1 dL_war_196 rfl ?_
                  refine j_iconst (v := nI 4) X (by decide) dL_war_198 ?_
                  refine j_ishrA X dL_war_199 (fun x199 => ?_)
                  refine j_bipush (v := nI 7) X (by decide) dL_war_200 ?_
                  refine q_below X hA hZ (rest := []) x199 7 (by decide) (by decide) gL_war_L_below ⟨Nat.le_of_ble_eq_true rfl, Nat.le_of_ble_eq_true rfl⟩ (Nat.le_of_ble_eq_true rfl) ⟨by show 400 ≤ 600; omega, by show 90000 ≤ 120000; omega⟩ dL_war_202 (fun j6 hj6 => ?_)
                  refine j_istore (lo' := [(8, .int (nI j6)), (7, .int (nI a)), (6, .int x118), (5, .int (nI k)), (4, .int (nI n)), (3, .int (nI (1 + j0))), (1, .ref o), (0, .ref K.1)]) X dL_war_205 (by decide) rfl ?_
                  have L207 : ∀ (i mm : Nat) (S2 : zS), zJ S2 (n + 1) → S2 0 26 n = nI mm → mm + i ≤ 6 → 0 < S2 0 16 n → j_V p l e (headSpec wsL_war { frames := 6, cells := 600, slots := 120000, locals := 180 }).room s m args below meth c (MQ below (va_Qr (fun _ : zS × Nat => True) (j_Br G (va_A ([] : va_W) s.heap.size) (fun (u : zS × Nat) (_ : Nat) => zJ u.1 u.2) (fun (u : zS × Nat) (a : Nat) => z_w cI cZ cT a u.1)) (va_A ([] : va_W) s.heap.size)) args s 600 120000 (va_A ([] : va_W) s.heap.size)) G 10 (va_A ([] : va_W) s.heap.size) 400 90000 (z_w cI cZ cT o S2) 207 [(8, .int (nI i)), (5, .int (nI k)), (4, .int (nI n)), (3, .int (nI (1 + j0))), (1, .ref o), (0, .ref K.1)] [] := by
                    intro i
                    induction i with
                    | zero =>
                      intro mm S2 hJ2 hm2 hi2 hg2
                      refine j_iload X 0 dL_war_207 rfl ?_
                      refine j_nif_le X 0 rfl (by omega) (tgt := 273) dL_war_209 (by decide) (fun h6 => ?_) (fun h6 => ?_)
                      · refine j_iinc (v := nI (n + 1)) (lo' := [(4, .int (nI (n + 1))), (8, .int (nI 0)), (5, .int (nI k)), (3, .int (nI (1 + j0))), (1, .ref o), (0, .ref K.1)]) X 2 dL_war_273 rfl ((congrArg (nI n + ·) (show Int32.ofInt 1 = nI 1 by decide)).trans (nI_add n 1)) (by decide) rfl ?_
                        refine j_iinc (v := nI (k + 1)) (lo' := [(5, .int (nI (k + 1))), (4, .int (nI (n + 1))), (8, .int (nI 0)), (3, .int (nI (1 + j0))), (1, .ref o), (0, .ref K.1)]) X 2 dL_war_276 rfl ((congrArg (nI k + ·) (show Int32.ofInt 1 = nI 1 by decide)).trans (nI_add k 1)) (by decide) rfl ?_
                        refine j_goto X (tgt := 90) dL_war_279 (by decide) ?_
                        refine j_lo [0, 1, 3, 4, 5] (lo' := [(5, .int (nI (k + 1))), (4, .int (nI (n + 1))), (3, .int (nI (1 + j0))), (1, .ref o), (0, .ref K.1)]) rfl ?_
                        exact ih (k + 1) (by omega) (n + 1) S2 hJ2 (by omega)
                      · exact absurd h6 (by omega)
                    | succ i ih2 =>
                      intro mm S2 hJ2 hm2 hi2 hg2
                      refine j_iload X 0 dL_war_207 rfl ?_
                      refine j_nif_le X ((i + 1)) rfl (by omega) (tgt := 273) dL_war_209 (by decide) (fun h6 => ?_) (fun h6 => ?_)
                      · exact absurd h6 (by omega)
                      · refine j_aload_n X 5 dL_war_212 rfl rfl ?_
                        refine j_bipush (v := nI 13) X (by decide) dL_war_213 ?_
                        refine j_iload X 0 dL_war_215 rfl ?_
                        refine j_iconst (v := nI 3) X (by decide) dL_war_217 ?_
                        refine j_irem X (by decide) dL_war_218 ?_
                        refine j_top (y := nI (((i + 1)) % 3)) (pk_rem (a := (i + 1)) (d := 3) (by omega) (by decide) (by decide)) ?_
                        refine j_iadd X dL_war_219 ?_
                        refine j_top (y := nI (13 + (((i + 1)) % 3))) (nI_add 13 (((i + 1)) % 3)) ?_
                        refine q_cell X hA hZ (rest := []) (13 + (((i + 1)) % 3)) (by omega) hL gL_war_L_cell ⟨Nat.le_of_ble_eq_true rfl, Nat.le_of_ble_eq_true rfl⟩ (Nat.le_of_ble_eq_true rfl) ⟨by show 400 ≤ 600; omega, by show 90000 ≤ 120000; omega⟩ dL_war_220 (fun r2 => ?_)
                        refine j_iload X 0 dL_war_223 rfl ?_
                        refine j_iload X 1 dL_war_225 rfl ?_
                        refine j_bipush (v := nI 11) X (by decide) dL_war_227 ?_
                        refine j_irem X (by decide) dL_war_229 ?_
                        refine j_top (y := nI (k % 11)) (pk_rem (a := k) (d := 11) (by omega) (by decide) (by decide)) ?_
                        refine j_iadd X dL_war_230 ?_
                        refine j_top (y := nI (((i + 1)) + (k % 11))) (nI_add ((i + 1)) (k % 11)) ?_
                        refine j_ishrA X dL_war_231 (fun x231 => ?_)
                        refine j_istore (lo' := [(9, .int x231), (8, .int (nI ((i + 1)))), (5, .int (nI k)), (4, .int (nI n)), (3, .int (nI (1 + j0))), (1, .ref o), (0, .ref K.1)]) X dL_war_232 (by decide) rfl ?_
                        refine j_aload_n X 5 dL_war_234 rfl rfl ?_
                        refine j_iload X 3 dL_war_235 rfl ?_
                        refine j_iload X 0 dL_war_237 rfl ?_
                        refine j_bipush (v := nI 7) X (by decide) dL_war_239 ?_
                        refine q_below X hA hZ (rest := [.int (nI n), .ref o]) x231 7 (by decide) (by decide) gL_war_L_below ⟨Nat.le_of_ble_eq_true rfl, Nat.le_of_ble_eq_true rfl⟩ (Nat.le_of_ble_eq_true rfl) ⟨by show 400 ≤ 600; omega, by show 90000 ≤ 120000; omega⟩ dL_war_241 (fun kd hkd => ?_)
                        refine j_iload X 0 dL_war_244 rfl ?_
                        refine j_iconst (v := nI 2) X (by decide) dL_war_246 ?_
                        refine j_ishrA X dL_war_247 (fun x247 => ?_)
                        refine j_iconst (v := nI 4) X (by decide) dL_war_248 ?_
                        refine q_below X hA hZ (rest := [.int (nI kd), .int (nI n), .ref o]) x247 4 (by decide) (by decide) gL_war_L_below ⟨Nat.le_of_ble_eq_true rfl, Nat.le_of_ble_eq_true rfl⟩ (Nat.le_of_ble_eq_true rfl) ⟨by show 400 ≤ 600; omega, by show 90000 ≤ 120000; omega⟩ dL_war_249 (fun dr hdr => ?_)
                        refine j_iconst (v := nI 1) X (by decide) dL_war_252 ?_
                        refine j_iload X 0 dL_war_253 rfl ?_
                        refine j_iconst (v := nI 4) X (by decide) dL_war_255 ?_
                        refine j_ishrA X dL_war_256 (fun x256 => ?_)
                        refine j_bipush (v := nI 9) X (by decide) dL_war_257 ?_
                        refine q_below X hA hZ (rest := [.int (nI 1), .int (nI dr), .int (nI kd), .int (nI n), .ref o]) x256 9 (by decide) (by decide) gL_war_L_below ⟨Nat.le_of_ble_eq_true rfl, Nat.le_of_ble_eq_true rfl⟩ (Nat.le_of_ble_eq_true rfl) ⟨by show 400 ≤ 600; omega, by show 90000 ≤ 120000; omega⟩ dL_war_259 (fun tm htm => ?_)
                        refine j_iadd X dL_war_262 ?_
                        refine j_top (y := nI (1 + tm)) (nI_add 1 tm) ?_
                        refine j_callZIf X hA hZ (rest := []) ([]) (S := S2) [.int (nI n), .int (nI kd), .int (nI dr), .int (nI (1 + tm))] (c_X5_order l G cI cZ cT o S2 (n + 1) n kd dr (1 + tm) mm hJ2.1 (by omega) hkd hdr (by omega) (by omega) (by omega) hm2 (gonl_0 hg2)) 4 rfl gL_war_X5_order rfl ⟨rfl, rfl⟩ hz_X5_order ⟨Nat.le_of_ble_eq_true rfl, Nat.le_of_ble_eq_true rfl⟩ rfl (Nat.le_of_ble_eq_true rfl) ⟨by show 400 ≤ 600; omega, by show 90000 ≤ 120000; omega⟩ dL_war_263 ?_
                        refine j_pop X rfl dL_war_266 ?_
                        refine j_iinc (v := nI (((i + 1)) - 1)) (lo' := [(8, .int (nI (((i + 1)) - 1))), (9, .int x231), (5, .int (nI k)), (4, .int (nI n)), (3, .int (nI (1 + j0))), (1, .ref o), (0, .ref K.1)]) X 1 dL_war_267 rfl (nI_dec ((i + 1)) (by omega)) (by decide) rfl ?_
                        refine j_goto X (tgt := 207) dL_war_270 (by decide) ?_
                        refine j_lo [0, 2, 3, 4, 5, 6] (lo' := [(8, .int (nI (((i + 1)) - 1))), (5, .int (nI k)), (4, .int (nI n)), (3, .int (nI (1 + j0))), (1, .ref o), (0, .ref K.1)]) rfl ?_
                        exact ih2 (mm + 1) (s_addOrder S2 0 n mm (nI kd) (nI dr) (nI (1 + tm))) (J_order hJ2 _ (by omega) hkd hdr) (add_at _ _ _ _ _ _).1 (by omega) (by rw [(add_at _ _ _ _ _ _).2]; exact hg2)
                  refine j_lo [0, 3, 4, 5, 6, 7] (lo' := [(8, .int (nI j6)), (5, .int (nI k)), (4, .int (nI n)), (3, .int (nI (1 + j0))), (1, .ref o), (0, .ref K.1)]) rfl ?_
                  exact L207 j6 0 (s_come S n (nI sd) (nI a) (nI (1 + hh)) (nI (1 + sk))) (J_come hJ (by omega) _ _ ha (by omega) ht9) (come_at _ _ _ _ _ _).1 (by omega) (by rw [(come_at _ _ _ _ _ _).2]; exact nI_0lt (by omega) (by omega))
                · refine j_goto X (tgt := 276) dL_war_151 (by decide) ?_
                  refine j_iinc (v := nI (k + 1)) (lo' := [(5, .int (nI (k + 1))), (7, .int (nI a)), (6, .int x118), (4, .int (nI n)), (3, .int (nI (1 + j0))), (1, .ref o), (0, .ref K.1)]) X 2 dL_war_276 rfl ((congrArg (nI k + ·) (show Int32.ofInt 1 = nI 1 by decide)).trans (nI_add k 1)) (by decide) rfl ?_
                  refine j_goto X (tgt := 90) dL_war_279 (by decide) ?_
                  refine j_lo [0, 3, 4, 5, 6] (lo' := [(5, .int (nI (k + 1))), (4, .int (nI n)), (3, .int (nI (1 + j0))), (1, .ref o), (0, .ref K.1)]) rfl ?_
                  exact ih (k + 1) (by omega) n S hJ (by omega)
        refine j_lo [0, 1, 2, 4, 5] (lo' := [(5, .int (nI 0)), (4, .int (nI 0)), (3, .int (nI (1 + j0))), (1, .ref o), (0, .ref K.1)]) rfl ?_
        exact L90 60 0 (by omega) 0 (s_map S1 156) (J_map hJ1 (by decide)) (by omega)
      · exact absurd h1 (by omega)
    | succ d ih =>
      intro i hi hv cap f hc hn hf
      refine j_iload_n X 0 dL_war_18 rfl rfl ?_
      refine j_sipush (v := nI 144) X (by decide) dL_war_19 ?_
      refine j_ncmp_ge X i 144 rfl rfl (by omega) (by omega) (tgt := 57) dL_war_22 (by decide) (fun h1 => ?_) (fun h1 => ?_)
      · exact absurd h1 (by omega)
      · refine j_aload_n X 1 dL_war_25 rfl rfl ?_
        refine j_aload_n X 3 dL_war_26 rfl rfl ?_
        refine j_iload_n X 0 dL_war_27 rfl rfl ?_
        refine p_callSI X hA hZ (rest := [.ref hb]) [] ((j_sb cB hb hv 0 (i + i / 12) cap f) ++ (z_w cI cZ cT o z_S0)) (fun _ => ((j_sb cB hb hv 0 (i + i / 12) cap f) ++ (z_w cI cZ cT o z_S0))) (List.Perm.refl _) (fun _ => nil_perm _) [.ref K.1, .int (nI i)] (c_L_ground i (by omega) hL) 2 rfl gL_war_L_ground rfl ⟨rfl, rfl⟩ ⟨by decide +kernel, by decide +kernel, by decide +kernel⟩ ⟨Nat.le_of_ble_eq_true rfl, Nat.le_of_ble_eq_true rfl⟩ rfl (Nat.le_of_ble_eq_true rfl) ⟨by show 99 + 2 * i + 0 ≤ 600; omega, by show 4434 + 580 * i + 0 ≤ 120000; omega⟩ dL_war_28 (fun r u hr => ?_)
        obtain ⟨x, hx, rfl⟩ := hr
        refine p_callVR X hA hZ (rest := []) (j_sb cB hb hv 0 (i + i / 12) cap f) (z_w cI cZ cT o z_S0) (fun (u : Nat × Nat × (Nat → Int32)) _ => (j_sb cB hb u.1 0 (i + i / 12 + 1) u.2.1 u.2.2) ++ (z_w cI cZ cT o z_S0)) (List.Perm.refl _) (fun _ _ => List.perm_append_comm) [.int (nI x)] 0 rfl rfl (c_J4_append (cI := cI) (cZ := cZ) (cT := cT) hb hv 0 (i + i / 12) cap f x (by omega) hc (hn) (by omega) hf) 1 rfl gL_war_J4_append_cf468 rfl ⟨rfl, rfl⟩ ⟨by decide +kernel, by decide +kernel, by decide +kernel, by decide +kernel⟩ ⟨Nat.le_of_ble_eq_true rfl, Nat.le_of_ble_eq_true rfl⟩ rfl (Nat.le_of_ble_eq_true rfl) ⟨by show 99 + 2 * i + 1 ≤ 600; omega, by show 4434 + 580 * i + 290 ≤ 120000; omega⟩ dL_war_31 (fun u1 a1 hu1 => ?_)
        obtain ⟨e1, hc1, hn1, hf1⟩ := hu1
        have g1 := e1.symm
        subst g1
        refine j_pop X rfl dL_war_34 ?_
        refine j_iload_n X 0 dL_war_35 rfl rfl ?_
        refine j_bipush (v := nI 12) X (by decide) dL_war_36 ?_
        refine j_irem X (by decide) dL_war_38 ?_
        refine j_top (y := nI (i % 12)) (pk_rem (a := i) (d := 12) (by omega) (by decide) (by decide)) ?_
        refine j_bipush (v := nI 11) X (by decide) dL_war_39 ?_
        refine j_ncmp_ne X (i % 12) 11 rfl rfl (by omega) (by omega) (tgt := 51) dL_war_41 (by decide) (fun h2 => ?_) (fun h2 => ?_)
        · refine j_iinc (v := nI (i + 1)) (lo' := [(3, .int (nI (i + 1))), (2, .ref hb), (1, .ref o), (0, .ref K.1)]) X 0 dL_war_51 rfl ((congrArg (nI i + ·) (show Int32.ofInt 1 = nI 1 by decide)).trans (nI_add i 1)) (by decide) rfl ?_
          refine j_goto X (tgt := 18) dL_war_54 (by decide) ?_
          refine j_weq (ws' := ((j_sb cB hb u1.1 0 ((i + 1) + (i + 1) / 12) u1.2.1 u1.2.2) ++ (z_w cI cZ cT o z_S0))) (by rw [show i + i / 12 + 1 = i + 1 + (i + 1) / 12 by omega]) ?_
          refine j_wid (k1 := 99 + 2 * (i + 1)) (q1 := 4434 + 580 * (i + 1)) (by omega) (by omega) ?_
          exact ih (i + 1) (by omega) u1.1 u1.2.1 u1.2.2 hc1 (by omega) hf1
        · refine j_aload_n X 1 dL_war_44 rfl rfl ?_
          refine j_bipush (v := nI 10) X (by decide) dL_war_45 ?_
          refine p_callVR X hA hZ (rest := []) (j_sb cB hb u1.1 0 (i + i / 12 + 1) u1.2.1 u1.2.2) (z_w cI cZ cT o z_S0) (fun (u : Nat × Nat × (Nat → Int32)) _ => (j_sb cB hb u.1 0 (i + i / 12 + 1 + 1) u.2.1 u.2.2) ++ (z_w cI cZ cT o z_S0)) (List.Perm.refl _) (fun _ _ => List.perm_append_comm) [.int (nI 10)] 0 rfl rfl (c_J4_append (cI := cI) (cZ := cZ) (cT := cT) hb u1.1 0 (i + i / 12 + 1) u1.2.1 u1.2.2 10 (by omega) hc1 (hn1) (by omega) hf1) 1 rfl gL_war_J4_append_cf468 rfl ⟨rfl, rfl⟩ ⟨by decide +kernel, by decide +kernel, by decide +kernel, by decide +kernel⟩ ⟨Nat.le_of_ble_eq_true rfl, Nat.le_of_ble_eq_true rfl⟩ rfl (Nat.le_of_ble_eq_true rfl) ⟨by show 99 + 2 * i + 1 + 1 ≤ 600; omega, by show 4434 + 580 * i + 290 + 290 ≤ 120000; omega⟩ dL_war_47 (fun u2 a2 hu2 => ?_)
          obtain ⟨e2, hc2, hn2, hf2⟩ := hu2
          have g2 := e2.symm
          subst g2
          refine j_pop X rfl dL_war_50 ?_
          refine j_iinc (v := nI (i + 1)) (lo' := [(3, .int (nI (i + 1))), (2, .ref hb), (1, .ref o), (0, .ref K.1)]) X 0 dL_war_51 rfl ((congrArg (nI i + ·) (show Int32.ofInt 1 = nI 1 by decide)).trans (nI_add i 1)) (by decide) rfl ?_
          refine j_goto X (tgt := 18) dL_war_54 (by decide) ?_
          refine j_weq (ws' := ((j_sb cB hb u2.1 0 ((i + 1) + (i + 1) / 12) u2.2.1 u2.2.2) ++ (z_w cI cZ cT o z_S0))) (by rw [show i + i / 12 + 1 + 1 = i + 1 + (i + 1) / 12 by omega]) ?_
          refine j_wid (k1 := 99 + 2 * (i + 1)) (q1 := 4434 + 580 * (i + 1)) (by omega) (by omega) ?_
          exact ih (i + 1) (by omega) u2.1 u2.2.1 u2.2.2 hc2 (by omega) hf2
  exact L18 144 0 (by omega) hv0 16 (fun _ => 0) (Or.inl rfl) (by omega) (fun _ => rfl)
end ZL4

theorem dX3_numerator_26 : decode cX3_numerator 26 = .ok (.aload_n 0, 1) := by decide +kernel
theorem dX3_numerator_27 : decode cX3_numerator 27 = .ok (.getfield 41, 3) := by decide +kernel
theorem dX3_numerator_30 : decode cX3_numerator 30 = .ok (.ifCond .eq 7, 3) := by decide +kernel
theorem dX3_numerator_33 : decode cX3_numerator 33 = .ok (.iconst (-1), 1) := by decide +kernel
theorem dX3_numerator_34 : decode cX3_numerator 34 = .ok (.goto 4, 3) := by decide +kernel
theorem dX3_numerator_37 : decode cX3_numerator 37 = .ok (.iconst 1, 1) := by decide +kernel
theorem dX3_numerator_38 : decode cX3_numerator 38 = .ok (.invokevirtual 107, 3) := by decide +kernel
theorem dX3_numerator_41 : decode cX3_numerator 41 = .ok (.goto 4, 3) := by decide +kernel
theorem dX3_numerator_44 : decode cX3_numerator 44 = .ok (.iconst (-1), 1) := by decide +kernel
theorem dX3_numerator_45 : decode cX3_numerator 45 = .ok (.ireturn, 1) := by decide +kernel
set_option maxRecDepth 20000 in
theorem ggX3_pivot_X3_place : GoodIn wsX3_pivot wsX3_place := goodIn_r _ [6, 7, 18, 19, 20, 21, 22, 23, 24, 25, 26, 27, 28, 29] (by decide +kernel) (by decide +kernel)
set_option maxRecDepth 20000 in
theorem gX3_pivot_X3_place : GoodIn wsX3_pivot (wsV RX3 49 RX3 yX3_place wsX3_place) := goodIn_app (goodIn_of _ (by decide +kernel)) ggX3_pivot_X3_place
set_option maxRecDepth 20000 in
theorem ggX3_pivot_X3_told : GoodIn wsX3_pivot wsX3_told := goodIn_r _ [11, 12, 13, 14, 15, 16, 5, 17, 18, 19, 20, 21, 22, 23, 24, 25, 26, 27, 28, 29] (by decide +kernel) (by decide +kernel)
set_option maxRecDepth 20000 in
theorem gX3_pivot_X3_told : GoodIn wsX3_pivot (wsV RX3 107 RX3 yX3_told wsX3_told) := goodIn_app (goodIn_of _ (by decide +kernel)) ggX3_pivot_X3_told
theorem dX3_pivot_0 : decode cX3_pivot 0 = .ok (.iload_n 1, 1) := by decide +kernel
theorem dX3_pivot_1 : decode cX3_pivot 1 = .ok (.ifCond .lt 26, 3) := by decide +kernel
theorem dX3_pivot_4 : decode cX3_pivot 4 = .ok (.iload_n 1, 1) := by decide +kernel
theorem dX3_pivot_5 : decode cX3_pivot 5 = .ok (.aload_n 0, 1) := by decide +kernel
theorem dX3_pivot_6 : decode cX3_pivot 6 = .ok (.getfield 38, 3) := by decide +kernel
theorem dX3_pivot_9 : decode cX3_pivot 9 = .ok (.if_icmp .ge 18, 3) := by decide +kernel
theorem dX3_pivot_12 : decode cX3_pivot 12 = .ok (.aload_n 0, 1) := by decide +kernel
theorem dX3_pivot_13 : decode cX3_pivot 13 = .ok (.aload_n 0, 1) := by decide +kernel
theorem dX3_pivot_14 : decode cX3_pivot 14 = .ok (.iload_n 1, 1) := by decide +kernel
theorem dX3_pivot_15 : decode cX3_pivot 15 = .ok (.iload_n 1, 1) := by decide +kernel
theorem dX3_pivot_16 : decode cX3_pivot 16 = .ok (.invokevirtual 49, 3) := by decide +kernel
theorem dX3_pivot_19 : decode cX3_pivot 19 = .ok (.iload_n 2, 1) := by decide +kernel
theorem dX3_pivot_20 : decode cX3_pivot 20 = .ok (.iconst 1, 1) := by decide +kernel
theorem dX3_pivot_21 : decode cX3_pivot 21 = .ok (.invokevirtual 107, 3) := by decide +kernel
theorem dX3_pivot_24 : decode cX3_pivot 24 = .ok (.goto 4, 3) := by decide +kernel
theorem dX3_pivot_27 : decode cX3_pivot 27 = .ok (.iconst (-1), 1) := by decide +kernel
theorem dX3_pivot_28 : decode cX3_pivot 28 = .ok (.ireturn, 1) := by decide +kernel
set_option maxRecDepth 20000 in
theorem ggX3_number_X3_isPlace : GoodIn wsX3_number wsX3_isPlace := goodIn_r _ [5, 6, 21, 22, 23, 24, 25, 26, 27, 28, 29, 30, 31, 32] (by decide +kernel) (by decide +kernel)
set_option maxRecDepth 20000 in
theorem gX3_number_X3_isPlace : GoodIn wsX3_number (wsV RX3 45 RX3 yX3_isPlace wsX3_isPlace) := goodIn_app (goodIn_of _ (by decide +kernel)) ggX3_number_X3_isPlace
set_option maxRecDepth 20000 in
theorem ggX3_number_X3_place : GoodIn wsX3_number wsX3_place := goodIn_r _ [10, 6, 21, 22, 23, 24, 25, 26, 27, 28, 29, 30, 31, 32] (by decide +kernel) (by decide +kernel)
set_option maxRecDepth 20000 in
theorem gX3_number_X3_place : GoodIn wsX3_number (wsV RX3 49 RX3 yX3_place wsX3_place) := goodIn_app (goodIn_of _ (by decide +kernel)) ggX3_number_X3_place
set_option maxRecDepth 20000 in
theorem ggX3_number_X3_told : GoodIn wsX3_number wsX3_told := goodIn_r _ [14, 15, 16, 17, 18, 19, 4, 20, 21, 22, 23, 24, 25, 26, 27, 28, 29, 30, 31, 32] (by decide +kernel) (by decide +kernel)
set_option maxRecDepth 20000 in
theorem gX3_number_X3_told : GoodIn wsX3_number (wsV RX3 107 RX3 yX3_told wsX3_told) := goodIn_app (goodIn_of _ (by decide +kernel)) ggX3_number_X3_told
theorem dX3_number_0 : decode cX3_number 0 = .ok (.aload_n 0, 1) := by decide +kernel
theorem dX3_number_1 : decode cX3_number 1 = .ok (.iload_n 1, 1) := by decide +kernel
theorem dX3_number_2 : decode cX3_number 2 = .ok (.iload_n 2, 1) := by decide +kernel
theorem dX3_number_3 : decode cX3_number 3 = .ok (.invokevirtual 45, 3) := by decide +kernel
theorem dX3_number_6 : decode cX3_number 6 = .ok (.ifCond .eq 18, 3) := by decide +kernel
theorem dX3_number_9 : decode cX3_number 9 = .ok (.aload_n 0, 1) := by decide +kernel
theorem dX3_number_10 : decode cX3_number 10 = .ok (.aload_n 0, 1) := by decide +kernel
theorem dX3_number_11 : decode cX3_number 11 = .ok (.iload_n 1, 1) := by decide +kernel
theorem dX3_number_12 : decode cX3_number 12 = .ok (.iload_n 2, 1) := by decide +kernel
theorem dX3_number_13 : decode cX3_number 13 = .ok (.invokevirtual 49, 3) := by decide +kernel
theorem dX3_number_16 : decode cX3_number 16 = .ok (.iload_n 3, 1) := by decide +kernel
theorem dX3_number_17 : decode cX3_number 17 = .ok (.iconst 1, 1) := by decide +kernel
theorem dX3_number_18 : decode cX3_number 18 = .ok (.invokevirtual 107, 3) := by decide +kernel
theorem dX3_number_21 : decode cX3_number 21 = .ok (.goto 4, 3) := by decide +kernel
theorem dX3_number_24 : decode cX3_number 24 = .ok (.iconst (-1), 1) := by decide +kernel
theorem dX3_number_25 : decode cX3_number 25 = .ok (.ireturn, 1) := by decide +kernel
theorem dX3_row_0 : decode cX3_row 0 = .ok (.iload_n 1, 1) := by decide +kernel
theorem dX3_row_1 : decode cX3_row 1 = .ok (.ifCond .lt 20, 3) := by decide +kernel
theorem dX3_row_4 : decode cX3_row 4 = .ok (.iload_n 1, 1) := by decide +kernel
theorem dX3_row_5 : decode cX3_row 5 = .ok (.aload_n 0, 1) := by decide +kernel
theorem dX3_row_6 : decode cX3_row 6 = .ok (.getfield 19, 3) := by decide +kernel
theorem dX3_row_9 : decode cX3_row 9 = .ok (.if_icmp .ge 12, 3) := by decide +kernel
theorem dX3_row_12 : decode cX3_row 12 = .ok (.aload_n 0, 1) := by decide +kernel
theorem dX3_row_13 : decode cX3_row 13 = .ok (.getfield 16, 3) := by decide +kernel
theorem dX3_row_16 : decode cX3_row 16 = .ok (.iload_n 1, 1) := by decide +kernel
theorem dX3_row_17 : decode cX3_row 17 = .ok (.iaload, 1) := by decide +kernel
theorem dX3_row_18 : decode cX3_row 18 = .ok (.goto 4, 3) := by decide +kernel
theorem dX3_row_21 : decode cX3_row 21 = .ok (.iconst (-1), 1) := by decide +kernel
theorem dX3_row_22 : decode cX3_row 22 = .ok (.ireturn, 1) := by decide +kernel
theorem dX3_holds_0 : decode cX3_holds 0 = .ok (.aload_n 0, 1) := by decide +kernel
theorem dX3_holds_1 : decode cX3_holds 1 = .ok (.getfield 32, 3) := by decide +kernel
theorem dX3_holds_4 : decode cX3_holds 4 = .ok (.iconst 1, 1) := by decide +kernel
theorem dX3_holds_5 : decode cX3_holds 5 = .ok (.if_icmp .ne 7, 3) := by decide +kernel
theorem dX3_holds_8 : decode cX3_holds 8 = .ok (.iconst 1, 1) := by decide +kernel
theorem dX3_holds_9 : decode cX3_holds 9 = .ok (.goto 4, 3) := by decide +kernel
theorem dX3_holds_12 : decode cX3_holds 12 = .ok (.iconst 0, 1) := by decide +kernel
theorem dX3_holds_13 : decode cX3_holds 13 = .ok (.ireturn, 1) := by decide +kernel
theorem dL_cell_0 : decode cL_cell 0 = .ok (.iload_n 1, 1) := by decide +kernel
theorem dL_cell_1 : decode cL_cell 1 = .ok (.aload_n 0, 1) := by decide +kernel
theorem dL_cell_2 : decode cL_cell 2 = .ok (.arraylength, 1) := by decide +kernel
theorem dL_cell_3 : decode cL_cell 3 = .ok (.if_icmp .ge 9, 3) := by decide +kernel
theorem dL_cell_6 : decode cL_cell 6 = .ok (.aload_n 0, 1) := by decide +kernel
theorem dL_cell_7 : decode cL_cell 7 = .ok (.iload_n 1, 1) := by decide +kernel
theorem dL_cell_8 : decode cL_cell 8 = .ok (.iaload, 1) := by decide +kernel
theorem dL_cell_9 : decode cL_cell 9 = .ok (.goto 4, 3) := by decide +kernel
theorem dL_cell_12 : decode cL_cell 12 = .ok (.iconst 0, 1) := by decide +kernel
theorem dL_cell_13 : decode cL_cell 13 = .ok (.ireturn, 1) := by decide +kernel
set_option maxRecDepth 20000 in
theorem ggL_law_L_cell : GoodIn wsL_law wsL_cell := goodIn_r _ [9] (by decide +kernel) (by decide +kernel)
set_option maxRecDepth 20000 in
theorem gL_law_L_cell : GoodIn wsL_law (va_wsS RL 9 yL_cell wsL_cell) := goodIn_app (goodIn_of _ (by decide +kernel)) ggL_law_L_cell
set_option maxRecDepth 20000 in
theorem ggL_law_X2_init : GoodIn wsL_law wsX2_init := goodIn_r _ [12, 13, 14, 15, 16, 17, 18, 19, 20, 21, 22, 23, 24, 25, 26, 27, 28, 29, 30, 31, 2, 32, 33, 34, 35, 36, 37, 38, 39, 40, 41, 42, 43, 44, 45, 46, 47, 48, 49, 50, 51, 52, 53, 54, 55, 56, 57, 58, 59, 60, 61, 62, 63, 64, 65, 66, 67, 68, 69, 70, 71, 72, 73, 74, 401, 402, 403, 404, 405, 406, 407, 408, 409, 410, 411, 412, 413, 414, 427, 428, 429, 430, 431, 432, 433, 434, 435, 436] (by decide +kernel) (by decide +kernel)
set_option maxRecDepth 20000 in
theorem gL_law_X2_init : GoodIn wsL_law (wsX2_init) := ggL_law_X2_init
set_option maxRecDepth 20000 in
theorem ggL_law_X3_init : GoodIn wsL_law wsX3_init := goodIn_r _ [77, 78, 14, 15, 28, 79, 80, 81, 82, 83, 84, 85, 86, 5, 87, 88, 89, 90, 91, 92, 415, 416, 417, 418, 419, 420, 421, 422, 423, 424, 425, 426] (by decide +kernel) (by decide +kernel)
set_option maxRecDepth 20000 in
theorem gL_law_X3_init : GoodIn wsL_law (wsX3_init) := ggL_law_X3_init
set_option maxRecDepth 20000 in
theorem ggL_law_X2_reset : GoodIn wsL_law wsX2_reset := goodIn_r _ [96, 56, 57, 58, 2, 59, 21, 16, 29, 60, 61, 62, 63, 64, 65, 66, 67, 68, 69, 20, 70, 45, 46, 71, 72, 73, 74, 401, 402, 403, 404, 405, 406, 407, 408, 409, 410, 411, 412, 413, 414, 427, 428, 429, 430] (by decide +kernel) (by decide +kernel)
set_option maxRecDepth 20000 in
theorem gL_law_X2_reset : GoodIn wsL_law (wsV RL 21 RX2 yX2_reset wsX2_reset) := goodIn_app (goodIn_of _ (by decide +kernel)) ggL_law_X2_reset
set_option maxRecDepth 20000 in
theorem ggL_law_X3_reset : GoodIn wsL_law wsX3_reset := goodIn_r _ [87, 79, 80, 81, 88, 89, 90, 91, 92, 415, 416, 417, 418, 419, 420, 421, 422, 423, 424, 425, 426] (by decide +kernel) (by decide +kernel)
set_option maxRecDepth 20000 in
theorem gL_law_X3_reset : GoodIn wsL_law (wsV RL 24 RX3 yX3_reset wsX3_reset) := goodIn_app (goodIn_of _ (by decide +kernel)) ggL_law_X3_reset
set_option maxRecDepth 20000 in
theorem ggL_law_X2_entry : GoodIn wsL_law wsX2_entry := goodIn_r _ [101, 60, 64, 65, 66, 21, 102, 103, 104, 2, 105, 16, 106, 107, 108, 109, 29, 110, 111, 112, 20, 113, 45, 46, 401, 402, 403, 404, 405, 406, 407, 408, 409, 410, 411, 412, 413, 414, 427, 428, 429, 430] (by decide +kernel) (by decide +kernel)
set_option maxRecDepth 20000 in
theorem gL_law_X2_entry : GoodIn wsL_law (wsV RL 25 RX2 yX2_entry wsX2_entry) := goodIn_app (goodIn_of _ (by decide +kernel)) ggL_law_X2_entry
set_option maxRecDepth 20000 in
theorem ggL_law_X3_entry : GoodIn wsL_law wsX3_entry := goodIn_r _ [117, 89, 88, 118, 119, 120, 121, 122, 5, 123, 82, 124, 125, 126, 127, 128, 129, 130, 131, 79, 80, 415, 416, 417, 418, 419, 420, 421, 422, 423, 424, 425, 426] (by decide +kernel) (by decide +kernel)
set_option maxRecDepth 20000 in
theorem gL_law_X3_entry : GoodIn wsL_law (wsV RL 29 RX3 yX3_entry wsX3_entry) := goodIn_app (goodIn_of _ (by decide +kernel)) ggL_law_X3_entry
set_option maxRecDepth 20000 in
theorem ggL_law_X2_limb : GoodIn wsL_law wsX2_limb := goodIn_r _ [135, 64, 65, 66, 17, 21, 136, 137, 138, 20, 139, 47, 44, 46, 45, 401, 402, 403, 404, 405, 406, 407, 408, 409, 410, 411, 412, 413, 414, 427, 428, 429, 430] (by decide +kernel) (by decide +kernel)
set_option maxRecDepth 20000 in
theorem gL_law_X2_limb : GoodIn wsL_law (wsV RL 30 RX2 yX2_limb wsX2_limb) := goodIn_app (goodIn_of _ (by decide +kernel)) ggL_law_X2_limb
set_option maxRecDepth 20000 in
theorem ggL_law_X3_limb : GoodIn wsL_law wsX3_limb := goodIn_r _ [143, 89, 88, 118, 119, 83, 79, 80, 415, 416, 417, 418, 419, 420, 421, 422, 423, 424, 425, 426] (by decide +kernel) (by decide +kernel)
set_option maxRecDepth 20000 in
theorem gL_law_X3_limb : GoodIn wsL_law (wsV RL 34 RX3 yX3_limb wsX3_limb) := goodIn_app (goodIn_of _ (by decide +kernel)) ggL_law_X3_limb
set_option maxRecDepth 20000 in
theorem ggL_law_X2_step : GoodIn wsL_law wsX2_step := goodIn_r _ [147, 60, 61, 16, 148, 149, 150, 2, 151, 152, 153, 154, 155, 64, 22, 21, 156, 157, 158, 20, 159, 47, 44, 46, 160, 161, 162, 163, 45, 164, 165, 166, 167, 62, 168, 169, 170, 171, 106, 107, 108, 109, 29, 172, 173, 174, 175, 176, 177, 178, 179, 63, 180, 181, 182, 183, 27, 184, 185, 186, 26, 187, 53, 54, 188, 189, 190, 72, 73, 74, 191, 192, 193, 194, 195, 196, 197, 198, 199, 200, 201, 202, 203, 204, 205, 206, 207, 208, 209, 210, 211, 212, 213, 214, 215, 216, 217, 218, 219, 220, 221, 222, 55, 223, 224, 225, 226, 227, 228, 229, 230, 231, 232, 233, 234, 235, 236, 237, 38, 35, 39, 238, 239, 240, 241, 242, 243, 244, 245, 246, 247, 248, 249, 52, 250, 251, 252, 253, 254, 255, 256, 257, 23, 258, 259, 260, 261, 262, 263, 264, 265, 401, 402, 403, 404, 405, 406, 407, 408, 409, 410, 411, 412, 413, 414, 427, 428, 429, 430, 431, 432, 433, 434, 435, 436] (by decide +kernel) (by decide +kernel)
set_option maxRecDepth 20000 in
theorem gL_law_X2_step : GoodIn wsL_law (wsV RL 35 RX2 yX2_step wsX2_step) := goodIn_app (goodIn_of _ (by decide +kernel)) ggL_law_X2_step
set_option maxRecDepth 20000 in
theorem ggL_law_X3_step : GoodIn wsL_law wsX3_step := goodIn_r _ [269, 89, 90, 82, 270, 271, 272, 5, 273, 80, 91, 83, 124, 125, 126, 127, 274, 275, 276, 277, 81, 92, 278, 279, 280, 281, 79, 282, 283, 284, 285, 286, 128, 129, 130, 131, 287, 288, 289, 290, 291, 292, 293, 294, 295, 296, 297, 298, 299, 300, 301, 302, 303, 304, 305, 306, 307, 308, 309, 310, 311, 312, 313, 314, 315, 316, 317, 318, 319, 415, 416, 417, 418, 419, 420, 421, 422, 423, 424, 425, 426] (by decide +kernel) (by decide +kernel)
set_option maxRecDepth 20000 in
theorem gL_law_X3_step : GoodIn wsL_law (wsV RL 39 RX3 yX3_step wsX3_step) := goodIn_app (goodIn_of _ (by decide +kernel)) ggL_law_X3_step
set_option maxRecDepth 20000 in
theorem ggL_law_X2_status : GoodIn wsL_law wsX2_status := goodIn_r _ [323, 60, 401, 402, 403, 404, 405, 406, 407, 408, 409, 410, 411, 412, 413, 414] (by decide +kernel) (by decide +kernel)
set_option maxRecDepth 20000 in
theorem gL_law_X2_status : GoodIn wsL_law (wsV RL 40 RX2 yX2_status wsX2_status) := goodIn_app (goodIn_of _ (by decide +kernel)) ggL_law_X2_status
set_option maxRecDepth 20000 in
theorem ggL_law_X3_status : GoodIn wsL_law wsX3_status := goodIn_r _ [327, 89, 415, 416, 417, 418, 419, 420, 421, 422, 423, 424, 425, 426] (by decide +kernel) (by decide +kernel)
set_option maxRecDepth 20000 in
theorem gL_law_X3_status : GoodIn wsL_law (wsV RL 43 RX3 yX3_status wsX3_status) := goodIn_app (goodIn_of _ (by decide +kernel)) ggL_law_X3_status
set_option maxRecDepth 20000 in
theorem ggL_law_X2_steps : GoodIn wsL_law wsX2_steps := goodIn_r _ [331, 61, 401, 402, 403, 404, 405, 406, 407, 408, 409, 410, 411, 412, 413, 414] (by decide +kernel) (by decide +kernel)
set_option maxRecDepth 20000 in
theorem gL_law_X2_steps : GoodIn wsL_law (wsV RL 44 RX2 yX2_steps wsX2_steps) := goodIn_app (goodIn_of _ (by decide +kernel)) ggL_law_X2_steps
set_option maxRecDepth 20000 in
theorem ggL_law_X3_steps : GoodIn wsL_law wsX3_steps := goodIn_r _ [335, 90, 415, 416, 417, 418, 419, 420, 421, 422, 423, 424, 425, 426] (by decide +kernel) (by decide +kernel)
set_option maxRecDepth 20000 in
theorem gL_law_X3_steps : GoodIn wsL_law (wsV RL 47 RX3 yX3_steps wsX3_steps) := goodIn_app (goodIn_of _ (by decide +kernel)) ggL_law_X3_steps
set_option maxRecDepth 20000 in
theorem ggL_law_X2_determinant : GoodIn wsL_law wsX2_determinant := goodIn_r _ [339, 60, 23, 16, 340, 341, 342, 20, 343, 45, 46, 344, 201, 202, 203, 47, 44, 401, 402, 403, 404, 405, 406, 407, 408, 409, 410, 411, 412, 413, 414, 427, 428, 429, 430] (by decide +kernel) (by decide +kernel)
set_option maxRecDepth 20000 in
theorem gL_law_X2_determinant : GoodIn wsL_law (wsV RL 48 RX2 yX2_determinant wsX2_determinant) := goodIn_app (goodIn_of _ (by decide +kernel)) ggL_law_X2_determinant
set_option maxRecDepth 20000 in
theorem ggL_law_X3_determinant : GoodIn wsL_law wsX3_determinant := goodIn_r _ [348, 89, 82, 92, 124, 125, 126, 5, 127, 349, 350, 351, 352, 80, 79, 287, 288, 289, 290, 415, 416, 417, 418, 419, 420, 421, 422, 423, 424, 425, 426] (by decide +kernel) (by decide +kernel)
set_option maxRecDepth 20000 in
theorem gL_law_X3_determinant : GoodIn wsL_law (wsV RL 52 RX3 yX3_determinant wsX3_determinant) := goodIn_app (goodIn_of _ (by decide +kernel)) ggL_law_X3_determinant
set_option maxRecDepth 20000 in
theorem ggL_law_X2_numerator : GoodIn wsL_law wsX2_numerator := goodIn_r _ [356, 60, 16, 23, 340, 341, 342, 20, 343, 45, 46, 344, 201, 202, 203, 47, 44, 401, 402, 403, 404, 405, 406, 407, 408, 409, 410, 411, 412, 413, 414, 427, 428, 429, 430] (by decide +kernel) (by decide +kernel)
set_option maxRecDepth 20000 in
theorem gL_law_X2_numerator : GoodIn wsL_law (wsV RL 53 RX2 yX2_numerator wsX2_numerator) := goodIn_app (goodIn_of _ (by decide +kernel)) ggL_law_X2_numerator
set_option maxRecDepth 20000 in
theorem ggL_law_X3_numerator : GoodIn wsL_law wsX3_numerator := goodIn_r _ [360, 89, 82, 92, 349, 350, 351, 5, 352, 80, 79, 287, 288, 289, 290, 415, 416, 417, 418, 419, 420, 421, 422, 423, 424, 425, 426] (by decide +kernel) (by decide +kernel)
set_option maxRecDepth 20000 in
theorem gL_law_X3_numerator : GoodIn wsL_law (wsV RL 57 RX3 yX3_numerator wsX3_numerator) := goodIn_app (goodIn_of _ (by decide +kernel)) ggL_law_X3_numerator
set_option maxRecDepth 20000 in
theorem ggL_law_X2_pivot : GoodIn wsL_law wsX2_pivot := goodIn_r _ [364, 62, 21, 106, 107, 108, 2, 109, 29, 16, 340, 341, 342, 20, 343, 45, 46, 344, 201, 202, 203, 47, 44, 401, 402, 403, 404, 405, 406, 407, 408, 409, 410, 411, 412, 413, 414, 427, 428, 429, 430] (by decide +kernel) (by decide +kernel)
set_option maxRecDepth 20000 in
theorem gL_law_X2_pivot : GoodIn wsL_law (wsV RL 58 RX2 yX2_pivot wsX2_pivot) := goodIn_app (goodIn_of _ (by decide +kernel)) ggL_law_X2_pivot
set_option maxRecDepth 20000 in
theorem ggL_law_X3_pivot : GoodIn wsL_law wsX3_pivot := goodIn_r _ [368, 91, 124, 125, 126, 5, 127, 82, 349, 350, 351, 352, 80, 79, 287, 288, 289, 290, 415, 416, 417, 418, 419, 420, 421, 422, 423, 424, 425, 426] (by decide +kernel) (by decide +kernel)
set_option maxRecDepth 20000 in
theorem gL_law_X3_pivot : GoodIn wsL_law (wsV RL 61 RX3 yX3_pivot wsX3_pivot) := goodIn_app (goodIn_of _ (by decide +kernel)) ggL_law_X3_pivot
set_option maxRecDepth 20000 in
theorem ggL_law_X2_number : GoodIn wsL_law wsX2_number := goodIn_r _ [372, 21, 102, 103, 104, 2, 105, 16, 106, 107, 108, 109, 29, 340, 341, 342, 20, 343, 45, 46, 344, 201, 202, 203, 47, 44, 401, 402, 403, 404, 405, 406, 407, 408, 409, 410, 411, 412, 413, 414, 427, 428, 429, 430] (by decide +kernel) (by decide +kernel)
set_option maxRecDepth 20000 in
theorem gL_law_X2_number : GoodIn wsL_law (wsV RL 62 RX2 yX2_number wsX2_number) := goodIn_app (goodIn_of _ (by decide +kernel)) ggL_law_X2_number
set_option maxRecDepth 20000 in
theorem ggL_law_X3_number : GoodIn wsL_law wsX3_number := goodIn_r _ [376, 120, 121, 122, 5, 123, 82, 124, 125, 126, 127, 349, 350, 351, 352, 80, 79, 287, 288, 289, 290, 415, 416, 417, 418, 419, 420, 421, 422, 423, 424, 425, 426] (by decide +kernel) (by decide +kernel)
set_option maxRecDepth 20000 in
theorem gL_law_X3_number : GoodIn wsL_law (wsV RL 66 RX3 yX3_number wsX3_number) := goodIn_app (goodIn_of _ (by decide +kernel)) ggL_law_X3_number
set_option maxRecDepth 20000 in
theorem ggL_law_X2_row : GoodIn wsL_law wsX2_row := goodIn_r _ [380, 16, 29, 401, 402, 403, 404, 405, 406, 407, 408, 409, 410, 411, 412, 413, 414] (by decide +kernel) (by decide +kernel)
set_option maxRecDepth 20000 in
theorem gL_law_X2_row : GoodIn wsL_law (wsV RL 67 RX2 yX2_row wsX2_row) := goodIn_app (goodIn_of _ (by decide +kernel)) ggL_law_X2_row
set_option maxRecDepth 20000 in
theorem ggL_law_X3_row : GoodIn wsL_law wsX3_row := goodIn_r _ [384, 82, 81, 415, 416, 417, 418, 419, 420, 421, 422, 423, 424, 425, 426] (by decide +kernel) (by decide +kernel)
set_option maxRecDepth 20000 in
theorem gL_law_X3_row : GoodIn wsL_law (wsV RL 70 RX3 yX3_row wsX3_row) := goodIn_app (goodIn_of _ (by decide +kernel)) ggL_law_X3_row
set_option maxRecDepth 20000 in
theorem ggL_law_X2_holds : GoodIn wsL_law wsX2_holds := goodIn_r _ [388, 60, 16, 389, 390, 391, 2, 392, 27, 22, 23, 184, 185, 186, 26, 187, 53, 54, 188, 189, 190, 72, 73, 74, 191, 192, 193, 194, 195, 173, 174, 20, 175, 45, 196, 197, 198, 199, 46, 200, 201, 202, 203, 47, 44, 204, 205, 206, 207, 393, 394, 395, 396, 212, 213, 214, 215, 401, 402, 403, 404, 405, 406, 407, 408, 409, 410, 411, 412, 413, 414, 431, 432, 433, 434, 435, 436, 427, 428, 429, 430] (by decide +kernel) (by decide +kernel)
set_option maxRecDepth 20000 in
theorem gL_law_X2_holds : GoodIn wsL_law (wsV RL 71 RX2 yX2_holds wsX2_holds) := goodIn_app (goodIn_of _ (by decide +kernel)) ggL_law_X2_holds
set_option maxRecDepth 20000 in
theorem ggL_law_X3_holds : GoodIn wsL_law wsX3_holds := goodIn_r _ [400, 89, 415, 416, 417, 418, 419, 420, 421, 422, 423, 424, 425, 426] (by decide +kernel) (by decide +kernel)
set_option maxRecDepth 20000 in
theorem gL_law_X3_holds : GoodIn wsL_law (wsV RL 75 RX3 yX3_holds wsX3_holds) := goodIn_app (goodIn_of _ (by decide +kernel)) ggL_law_X3_holds
theorem dL_law_0 : decode cL_law 0 = .ok (.new 7, 3) := by decide +kernel
theorem dL_law_3 : decode cL_law 3 = .ok (.dup, 1) := by decide +kernel
theorem dL_law_4 : decode cL_law 4 = .ok (.aload_n 0, 1) := by decide +kernel
theorem dL_law_5 : decode cL_law 5 = .ok (.iconst 0, 1) := by decide +kernel
theorem dL_law_6 : decode cL_law 6 = .ok (.invokestatic 9, 3) := by decide +kernel
theorem dL_law_9 : decode cL_law 9 = .ok (.aload_n 0, 1) := by decide +kernel
theorem dL_law_10 : decode cL_law 10 = .ok (.iconst 1, 1) := by decide +kernel
theorem dL_law_11 : decode cL_law 11 = .ok (.invokestatic 9, 3) := by decide +kernel
theorem dL_law_14 : decode cL_law 14 = .ok (.invokespecial 15, 3) := by decide +kernel
theorem dL_law_17 : decode cL_law 17 = .ok (.astore_n 1, 1) := by decide +kernel
theorem dL_law_18 : decode cL_law 18 = .ok (.new 18, 3) := by decide +kernel
theorem dL_law_21 : decode cL_law 21 = .ok (.dup, 1) := by decide +kernel
theorem dL_law_22 : decode cL_law 22 = .ok (.aload_n 0, 1) := by decide +kernel
theorem dL_law_23 : decode cL_law 23 = .ok (.iconst 0, 1) := by decide +kernel
theorem dL_law_24 : decode cL_law 24 = .ok (.invokestatic 9, 3) := by decide +kernel
theorem dL_law_27 : decode cL_law 27 = .ok (.aload_n 0, 1) := by decide +kernel
theorem dL_law_28 : decode cL_law 28 = .ok (.iconst 1, 1) := by decide +kernel
theorem dL_law_29 : decode cL_law 29 = .ok (.invokestatic 9, 3) := by decide +kernel
theorem dL_law_32 : decode cL_law 32 = .ok (.invokespecial 20, 3) := by decide +kernel
theorem dL_law_35 : decode cL_law 35 = .ok (.astore_n 2, 1) := by decide +kernel
theorem dL_law_36 : decode cL_law 36 = .ok (.iconst 2, 1) := by decide +kernel
theorem dL_law_37 : decode cL_law 37 = .ok (.istore_n 3, 1) := by decide +kernel
theorem dL_law_38 : decode cL_law 38 = .ok (.iload_n 3, 1) := by decide +kernel
theorem dL_law_39 : decode cL_law 39 = .ok (.aload_n 0, 1) := by decide +kernel
theorem dL_law_40 : decode cL_law 40 = .ok (.arraylength, 1) := by decide +kernel
theorem dL_law_41 : decode cL_law 41 = .ok (.iconst 4, 1) := by decide +kernel
theorem dL_law_42 : decode cL_law 42 = .ok (.isub, 1) := by decide +kernel
theorem dL_law_43 : decode cL_law 43 = .ok (.if_icmp .gt 363, 3) := by decide +kernel
theorem dL_law_46 : decode cL_law 46 = .ok (.aload_n 0, 1) := by decide +kernel
theorem dL_law_47 : decode cL_law 47 = .ok (.iload_n 3, 1) := by decide +kernel
theorem dL_law_48 : decode cL_law 48 = .ok (.iaload, 1) := by decide +kernel
theorem dL_law_49 : decode cL_law 49 = .ok (.bipush 15, 2) := by decide +kernel
theorem dL_law_51 : decode cL_law 51 = .ok (.iand, 1) := by decide +kernel
theorem dL_law_52 : decode cL_law 52 = .ok (.tableswitch 348 0 11 #[64, 75, 118, 141, 154, 167, 180, 203, 236, 269, 312, 335], 64) := by decide +kernel
theorem dL_law_116 : decode cL_law 116 = .ok (.aload_n 1, 1) := by decide +kernel
theorem dL_law_117 : decode cL_law 117 = .ok (.invokevirtual 21, 3) := by decide +kernel
theorem dL_law_120 : decode cL_law 120 = .ok (.aload_n 2, 1) := by decide +kernel
theorem dL_law_121 : decode cL_law 121 = .ok (.invokevirtual 24, 3) := by decide +kernel
theorem dL_law_124 : decode cL_law 124 = .ok (.goto 276, 3) := by decide +kernel
theorem dL_law_127 : decode cL_law 127 = .ok (.aload_n 1, 1) := by decide +kernel
theorem dL_law_128 : decode cL_law 128 = .ok (.aload_n 0, 1) := by decide +kernel
theorem dL_law_129 : decode cL_law 129 = .ok (.iload_n 3, 1) := by decide +kernel
theorem dL_law_130 : decode cL_law 130 = .ok (.iconst 1, 1) := by decide +kernel
theorem dL_law_131 : decode cL_law 131 = .ok (.iadd, 1) := by decide +kernel
theorem dL_law_132 : decode cL_law 132 = .ok (.iaload, 1) := by decide +kernel
theorem dL_law_133 : decode cL_law 133 = .ok (.aload_n 0, 1) := by decide +kernel
theorem dL_law_134 : decode cL_law 134 = .ok (.iload_n 3, 1) := by decide +kernel
theorem dL_law_135 : decode cL_law 135 = .ok (.iconst 2, 1) := by decide +kernel
theorem dL_law_136 : decode cL_law 136 = .ok (.iadd, 1) := by decide +kernel
theorem dL_law_137 : decode cL_law 137 = .ok (.iaload, 1) := by decide +kernel
theorem dL_law_138 : decode cL_law 138 = .ok (.aload_n 0, 1) := by decide +kernel
theorem dL_law_139 : decode cL_law 139 = .ok (.iload_n 3, 1) := by decide +kernel
theorem dL_law_140 : decode cL_law 140 = .ok (.iconst 3, 1) := by decide +kernel
theorem dL_law_141 : decode cL_law 141 = .ok (.iadd, 1) := by decide +kernel
theorem dL_law_142 : decode cL_law 142 = .ok (.iaload, 1) := by decide +kernel
theorem dL_law_143 : decode cL_law 143 = .ok (.invokevirtual 25, 3) := by decide +kernel
theorem dL_law_146 : decode cL_law 146 = .ok (.aload_n 2, 1) := by decide +kernel
theorem dL_law_147 : decode cL_law 147 = .ok (.aload_n 0, 1) := by decide +kernel
theorem dL_law_148 : decode cL_law 148 = .ok (.iload_n 3, 1) := by decide +kernel
theorem dL_law_149 : decode cL_law 149 = .ok (.iconst 1, 1) := by decide +kernel
theorem dL_law_150 : decode cL_law 150 = .ok (.iadd, 1) := by decide +kernel
theorem dL_law_151 : decode cL_law 151 = .ok (.iaload, 1) := by decide +kernel
theorem dL_law_152 : decode cL_law 152 = .ok (.aload_n 0, 1) := by decide +kernel
theorem dL_law_153 : decode cL_law 153 = .ok (.iload_n 3, 1) := by decide +kernel
theorem dL_law_154 : decode cL_law 154 = .ok (.iconst 2, 1) := by decide +kernel
theorem dL_law_155 : decode cL_law 155 = .ok (.iadd, 1) := by decide +kernel
theorem dL_law_156 : decode cL_law 156 = .ok (.iaload, 1) := by decide +kernel
theorem dL_law_157 : decode cL_law 157 = .ok (.aload_n 0, 1) := by decide +kernel
theorem dL_law_158 : decode cL_law 158 = .ok (.iload_n 3, 1) := by decide +kernel
theorem dL_law_159 : decode cL_law 159 = .ok (.iconst 3, 1) := by decide +kernel
theorem dL_law_160 : decode cL_law 160 = .ok (.iadd, 1) := by decide +kernel
theorem dL_law_161 : decode cL_law 161 = .ok (.iaload, 1) := by decide +kernel
theorem dL_law_162 : decode cL_law 162 = .ok (.invokevirtual 29, 3) := by decide +kernel
theorem dL_law_165 : decode cL_law 165 = .ok (.if_icmp .eq 235, 3) := by decide +kernel
theorem dL_law_168 : decode cL_law 168 = .ok (.iconst 0, 1) := by decide +kernel
theorem dL_law_169 : decode cL_law 169 = .ok (.ireturn, 1) := by decide +kernel
theorem dL_law_170 : decode cL_law 170 = .ok (.aload_n 1, 1) := by decide +kernel
theorem dL_law_171 : decode cL_law 171 = .ok (.aload_n 0, 1) := by decide +kernel
theorem dL_law_172 : decode cL_law 172 = .ok (.iload_n 3, 1) := by decide +kernel
theorem dL_law_173 : decode cL_law 173 = .ok (.iconst 1, 1) := by decide +kernel
theorem dL_law_174 : decode cL_law 174 = .ok (.iadd, 1) := by decide +kernel
theorem dL_law_175 : decode cL_law 175 = .ok (.iaload, 1) := by decide +kernel
theorem dL_law_176 : decode cL_law 176 = .ok (.invokevirtual 30, 3) := by decide +kernel
theorem dL_law_179 : decode cL_law 179 = .ok (.aload_n 2, 1) := by decide +kernel
theorem dL_law_180 : decode cL_law 180 = .ok (.aload_n 0, 1) := by decide +kernel
theorem dL_law_181 : decode cL_law 181 = .ok (.iload_n 3, 1) := by decide +kernel
theorem dL_law_182 : decode cL_law 182 = .ok (.iconst 1, 1) := by decide +kernel
theorem dL_law_183 : decode cL_law 183 = .ok (.iadd, 1) := by decide +kernel
theorem dL_law_184 : decode cL_law 184 = .ok (.iaload, 1) := by decide +kernel
theorem dL_law_185 : decode cL_law 185 = .ok (.invokevirtual 34, 3) := by decide +kernel
theorem dL_law_188 : decode cL_law 188 = .ok (.if_icmp .eq 212, 3) := by decide +kernel
theorem dL_law_191 : decode cL_law 191 = .ok (.iconst 0, 1) := by decide +kernel
theorem dL_law_192 : decode cL_law 192 = .ok (.ireturn, 1) := by decide +kernel
theorem dL_law_193 : decode cL_law 193 = .ok (.aload_n 1, 1) := by decide +kernel
theorem dL_law_194 : decode cL_law 194 = .ok (.invokevirtual 35, 3) := by decide +kernel
theorem dL_law_197 : decode cL_law 197 = .ok (.aload_n 2, 1) := by decide +kernel
theorem dL_law_198 : decode cL_law 198 = .ok (.invokevirtual 39, 3) := by decide +kernel
theorem dL_law_201 : decode cL_law 201 = .ok (.if_icmp .eq 199, 3) := by decide +kernel
theorem dL_law_204 : decode cL_law 204 = .ok (.iconst 0, 1) := by decide +kernel
theorem dL_law_205 : decode cL_law 205 = .ok (.ireturn, 1) := by decide +kernel
theorem dL_law_206 : decode cL_law 206 = .ok (.aload_n 1, 1) := by decide +kernel
theorem dL_law_207 : decode cL_law 207 = .ok (.invokevirtual 40, 3) := by decide +kernel
theorem dL_law_210 : decode cL_law 210 = .ok (.aload_n 2, 1) := by decide +kernel
theorem dL_law_211 : decode cL_law 211 = .ok (.invokevirtual 43, 3) := by decide +kernel
theorem dL_law_214 : decode cL_law 214 = .ok (.if_icmp .eq 186, 3) := by decide +kernel
theorem dL_law_217 : decode cL_law 217 = .ok (.iconst 0, 1) := by decide +kernel
theorem dL_law_218 : decode cL_law 218 = .ok (.ireturn, 1) := by decide +kernel
theorem dL_law_219 : decode cL_law 219 = .ok (.aload_n 1, 1) := by decide +kernel
theorem dL_law_220 : decode cL_law 220 = .ok (.invokevirtual 44, 3) := by decide +kernel
theorem dL_law_223 : decode cL_law 223 = .ok (.aload_n 2, 1) := by decide +kernel
theorem dL_law_224 : decode cL_law 224 = .ok (.invokevirtual 47, 3) := by decide +kernel
theorem dL_law_227 : decode cL_law 227 = .ok (.if_icmp .eq 173, 3) := by decide +kernel
theorem dL_law_230 : decode cL_law 230 = .ok (.iconst 0, 1) := by decide +kernel
theorem dL_law_231 : decode cL_law 231 = .ok (.ireturn, 1) := by decide +kernel
theorem dL_law_232 : decode cL_law 232 = .ok (.aload_n 1, 1) := by decide +kernel
theorem dL_law_233 : decode cL_law 233 = .ok (.aload_n 0, 1) := by decide +kernel
theorem dL_law_234 : decode cL_law 234 = .ok (.iload_n 3, 1) := by decide +kernel
theorem dL_law_235 : decode cL_law 235 = .ok (.iconst 1, 1) := by decide +kernel
theorem dL_law_236 : decode cL_law 236 = .ok (.iadd, 1) := by decide +kernel
theorem dL_law_237 : decode cL_law 237 = .ok (.iaload, 1) := by decide +kernel
theorem dL_law_238 : decode cL_law 238 = .ok (.invokevirtual 48, 3) := by decide +kernel
theorem dL_law_241 : decode cL_law 241 = .ok (.aload_n 2, 1) := by decide +kernel
theorem dL_law_242 : decode cL_law 242 = .ok (.aload_n 0, 1) := by decide +kernel
theorem dL_law_243 : decode cL_law 243 = .ok (.iload_n 3, 1) := by decide +kernel
theorem dL_law_244 : decode cL_law 244 = .ok (.iconst 1, 1) := by decide +kernel
theorem dL_law_245 : decode cL_law 245 = .ok (.iadd, 1) := by decide +kernel
theorem dL_law_246 : decode cL_law 246 = .ok (.iaload, 1) := by decide +kernel
theorem dL_law_247 : decode cL_law 247 = .ok (.invokevirtual 52, 3) := by decide +kernel
theorem dL_law_250 : decode cL_law 250 = .ok (.if_icmp .eq 150, 3) := by decide +kernel
theorem dL_law_253 : decode cL_law 253 = .ok (.iconst 0, 1) := by decide +kernel
theorem dL_law_254 : decode cL_law 254 = .ok (.ireturn, 1) := by decide +kernel
theorem dL_law_255 : decode cL_law 255 = .ok (.aload_n 1, 1) := by decide +kernel
theorem dL_law_256 : decode cL_law 256 = .ok (.aload_n 0, 1) := by decide +kernel
theorem dL_law_257 : decode cL_law 257 = .ok (.iload_n 3, 1) := by decide +kernel
theorem dL_law_258 : decode cL_law 258 = .ok (.iconst 1, 1) := by decide +kernel
theorem dL_law_259 : decode cL_law 259 = .ok (.iadd, 1) := by decide +kernel
theorem dL_law_260 : decode cL_law 260 = .ok (.iaload, 1) := by decide +kernel
theorem dL_law_261 : decode cL_law 261 = .ok (.aload_n 0, 1) := by decide +kernel
theorem dL_law_262 : decode cL_law 262 = .ok (.iload_n 3, 1) := by decide +kernel
theorem dL_law_263 : decode cL_law 263 = .ok (.iconst 2, 1) := by decide +kernel
theorem dL_law_264 : decode cL_law 264 = .ok (.iadd, 1) := by decide +kernel
theorem dL_law_265 : decode cL_law 265 = .ok (.iaload, 1) := by decide +kernel
theorem dL_law_266 : decode cL_law 266 = .ok (.invokevirtual 53, 3) := by decide +kernel
theorem dL_law_269 : decode cL_law 269 = .ok (.aload_n 2, 1) := by decide +kernel
theorem dL_law_270 : decode cL_law 270 = .ok (.aload_n 0, 1) := by decide +kernel
theorem dL_law_271 : decode cL_law 271 = .ok (.iload_n 3, 1) := by decide +kernel
theorem dL_law_272 : decode cL_law 272 = .ok (.iconst 1, 1) := by decide +kernel
theorem dL_law_273 : decode cL_law 273 = .ok (.iadd, 1) := by decide +kernel
theorem dL_law_274 : decode cL_law 274 = .ok (.iaload, 1) := by decide +kernel
theorem dL_law_275 : decode cL_law 275 = .ok (.aload_n 0, 1) := by decide +kernel
theorem dL_law_276 : decode cL_law 276 = .ok (.iload_n 3, 1) := by decide +kernel
theorem dL_law_277 : decode cL_law 277 = .ok (.iconst 2, 1) := by decide +kernel
theorem dL_law_278 : decode cL_law 278 = .ok (.iadd, 1) := by decide +kernel
theorem dL_law_279 : decode cL_law 279 = .ok (.iaload, 1) := by decide +kernel
theorem dL_law_280 : decode cL_law 280 = .ok (.invokevirtual 57, 3) := by decide +kernel
theorem dL_law_283 : decode cL_law 283 = .ok (.if_icmp .eq 117, 3) := by decide +kernel
theorem dL_law_286 : decode cL_law 286 = .ok (.iconst 0, 1) := by decide +kernel
theorem dL_law_287 : decode cL_law 287 = .ok (.ireturn, 1) := by decide +kernel
theorem dL_law_288 : decode cL_law 288 = .ok (.aload_n 1, 1) := by decide +kernel
theorem dL_law_289 : decode cL_law 289 = .ok (.aload_n 0, 1) := by decide +kernel
theorem dL_law_290 : decode cL_law 290 = .ok (.iload_n 3, 1) := by decide +kernel
theorem dL_law_291 : decode cL_law 291 = .ok (.iconst 1, 1) := by decide +kernel
theorem dL_law_292 : decode cL_law 292 = .ok (.iadd, 1) := by decide +kernel
theorem dL_law_293 : decode cL_law 293 = .ok (.iaload, 1) := by decide +kernel
theorem dL_law_294 : decode cL_law 294 = .ok (.aload_n 0, 1) := by decide +kernel
theorem dL_law_295 : decode cL_law 295 = .ok (.iload_n 3, 1) := by decide +kernel
theorem dL_law_296 : decode cL_law 296 = .ok (.iconst 2, 1) := by decide +kernel
theorem dL_law_297 : decode cL_law 297 = .ok (.iadd, 1) := by decide +kernel
theorem dL_law_298 : decode cL_law 298 = .ok (.iaload, 1) := by decide +kernel
theorem dL_law_299 : decode cL_law 299 = .ok (.invokevirtual 58, 3) := by decide +kernel

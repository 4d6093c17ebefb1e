set_option maxRecDepth 20000 in
theorem giwsL_law_r1 : GoodIn lw_tbl wsL_law_r1 := goodIn_r _ [40, 41, 33, 351, 352, 38, 348, 349, 32, 350, 42, 43, 44, 45, 46, 47, 113, 114, 57, 58, 35, 115, 116, 117] (by decide +kernel) (by decide +kernel)
set_option maxRecDepth 20000 in
theorem giwsL_law_r2 : GoodIn lw_tbl wsL_law_r2 := goodIn_r _ [77, 78, 36, 118, 76, 119, 48, 49, 50, 51, 52, 34, 53, 54, 55, 56, 59, 60, 61, 62, 63, 64, 65, 66] (by decide +kernel) (by decide +kernel)
set_option maxRecDepth 20000 in
theorem giwsL_law_r3 : GoodIn lw_tbl wsL_law_r3 := goodIn_r _ [79, 80, 81, 82, 83, 84, 85, 86, 102, 104, 0, 105, 120, 121, 122, 123, 124, 125, 126, 106, 107, 108, 109, 110] (by decide +kernel) (by decide +kernel)
set_option maxRecDepth 20000 in
theorem giwsL_law_r4 : GoodIn lw_tbl wsL_law_r4 := goodIn_r _ [111, 37, 112, 353, 354, 355, 356, 363, 364, 365, 361, 362, 357, 358, 359, 360, 366, 369, 370, 371, 372, 156, 157, 158] (by decide +kernel) (by decide +kernel)
set_option maxRecDepth 20000 in
theorem giwsL_law_r5 : GoodIn lw_tbl wsL_law_r5 := goodIn_r _ [159, 398, 160, 161, 162, 163, 164, 166, 1, 167, 168, 170, 2, 171, 172, 173, 174, 175, 399, 400, 401, 402, 367, 368] (by decide +kernel) (by decide +kernel)
set_option maxRecDepth 20000 in
theorem giwsL_law_r6 : GoodIn lw_tbl wsL_law_r6 := goodIn_r _ [403, 405, 16, 406, 407, 409, 17, 410, 411, 413, 18, 414, 176, 177, 178, 179, 180, 181, 182, 183, 415, 416, 417, 418] (by decide +kernel) (by decide +kernel)
set_option maxRecDepth 20000 in
theorem giwsL_law_r7 : GoodIn lw_tbl wsL_law_r7 := goodIn_r _ [184, 185, 186, 187, 188, 190, 3, 191, 192, 194, 4, 195, 196, 197, 198, 199, 200, 202, 201, 39, 203, 205, 5, 206] (by decide +kernel) (by decide +kernel)
set_option maxRecDepth 20000 in
theorem giwsL_law_r8 : GoodIn lw_tbl wsL_law_r8 := goodIn_r _ [207, 209, 6, 210, 211, 212, 213, 214, 215, 217, 7, 218, 219, 221, 8, 222, 223, 224, 225, 226, 87, 88, 227, 228] (by decide +kernel) (by decide +kernel)
set_option maxRecDepth 20000 in
theorem giwsL_law_r9 : GoodIn lw_tbl wsL_law_r9 := goodIn_r _ [229, 230, 231, 232, 233, 234, 235, 236, 237, 238, 239, 240, 241, 242, 243, 244, 245, 246, 247, 248, 249, 251, 9, 252] (by decide +kernel) (by decide +kernel)
set_option maxRecDepth 20000 in
theorem giwsL_law_r10 : GoodIn lw_tbl wsL_law_r10 := goodIn_r _ [253, 254, 255, 256, 257, 258, 259, 260, 262, 10, 263, 264, 265, 266, 267, 268, 269, 270, 272, 11, 273, 274, 278, 275] (by decide +kernel) (by decide +kernel)
set_option maxRecDepth 20000 in
theorem giwsL_law_r11 : GoodIn lw_tbl wsL_law_r11 := goodIn_r _ [276, 277, 279, 281, 12, 282, 283, 284, 285, 286, 287, 288, 289, 290, 291, 293, 13, 294, 295, 297, 14, 298, 299, 300] (by decide +kernel) (by decide +kernel)
set_option maxRecDepth 20000 in
theorem giwsL_law_r12 : GoodIn lw_tbl wsL_law_r12 := goodIn_r _ [301, 302, 419, 420, 421, 422, 423, 425, 19, 426, 427, 429, 20, 430, 431, 433, 21, 434, 435, 437, 22, 438, 443, 439] (by decide +kernel) (by decide +kernel)
set_option maxRecDepth 20000 in
theorem giwsL_law_r13 : GoodIn lw_tbl wsL_law_r13 := goodIn_r _ [441, 23, 442, 444, 446, 24, 447, 448, 450, 25, 451, 452, 454, 26, 455, 456, 458, 27, 459, 468, 460, 462, 28, 463] (by decide +kernel) (by decide +kernel)
set_option maxRecDepth 20000 in
theorem giwsL_law_r14 : GoodIn lw_tbl wsL_law_r14 := goodIn_r _ [464, 466, 29, 467, 469, 471, 30, 472, 303, 304, 305, 306, 473, 474, 475, 476, 307, 308, 309, 310, 477, 478, 479, 480] (by decide +kernel) (by decide +kernel)
set_option maxRecDepth 20000 in
theorem giwsL_law_r15 : GoodIn lw_tbl wsL_law_r15 := goodIn_r _ [311, 312, 313, 314, 315, 316, 317, 318, 319, 481, 482, 483, 484, 485, 487, 31, 488, 320, 321, 322, 323, 489, 490, 491] (by decide +kernel) (by decide +kernel)
set_option maxRecDepth 20000 in
theorem giwsL_law_r16 : GoodIn lw_tbl wsL_law_r16 := goodIn_r _ [492, 324, 325, 326, 327, 493, 494, 495, 496, 328, 329, 330, 331, 497, 498, 499, 500, 332, 333, 334, 335, 501, 502, 503] (by decide +kernel) (by decide +kernel)
set_option maxRecDepth 20000 in
theorem giwsL_law_r17 : GoodIn lw_tbl wsL_law_r17 := goodIn_r _ [504, 336, 337, 338, 339, 340, 342, 15, 343, 344, 345, 346, 347, 505, 506, 507, 508] (by decide +kernel) (by decide +kernel)
set_option maxRecDepth 20000 in
theorem giwsX00 : GoodIn lw_tbl wsX00 := goodIn_r _ [67, 69, 71, 73] (by decide +kernel) (by decide +kernel)
set_option maxRecDepth 20000 in
theorem giwsX10 : GoodIn lw_tbl wsX10 := goodIn_r _ [89, 91, 93, 95, 97, 99] (by decide +kernel) (by decide +kernel)
set_option maxRecDepth 20000 in
theorem giwsX20 : GoodIn lw_tbl wsX20 := goodIn_r _ [127, 129, 131, 133, 135, 137, 139, 141, 143, 145, 147, 149, 151, 153] (by decide +kernel) (by decide +kernel)
set_option maxRecDepth 20000 in
theorem giwsX30 : GoodIn lw_tbl wsX30 := goodIn_r _ [373, 375, 377, 379, 381, 383, 385, 387, 389, 391, 393, 395] (by decide +kernel) (by decide +kernel)
theorem wsL_law_g : GoodIn lw_tbl wsL_law := by
  unfold wsL_law
  exact (goodIn_app (goodIn_app (goodIn_app (goodIn_app (goodIn_app (goodIn_app giwsL_law_r1 (goodIn_app giwsL_law_r2 (goodIn_app giwsL_law_r3 (goodIn_app giwsL_law_r4 (goodIn_app giwsL_law_r5 (goodIn_app giwsL_law_r6 (goodIn_app giwsL_law_r7 (goodIn_app giwsL_law_r8 (goodIn_app giwsL_law_r9 (goodIn_app giwsL_law_r10 (goodIn_app giwsL_law_r11 (goodIn_app giwsL_law_r12 (goodIn_app giwsL_law_r13 (goodIn_app giwsL_law_r14 (goodIn_app giwsL_law_r15 (goodIn_app giwsL_law_r16 giwsL_law_r17)))))))))))))))) giwsX20) giwsX30) giwsX00) giwsX10) (fun w h => absurd h List.not_mem_nil))
theorem wsL_law_in : ∀ w ∈ wsL_law, w ∈ lw_tbl := fun w h => (wsL_law_g w h).1
theorem inlX0 : ∀ w ∈ wsX00, w ∈ wsL_law := fun _ h => List.mem_append_left _ (List.mem_append_left _ (List.mem_append_right _ h))
theorem inX0 : ∀ w ∈ wsX00, w ∈ lw_tbl := fun w h => wsL_law_in w (inlX0 w h)
theorem inlX1 : ∀ w ∈ wsX10, w ∈ wsL_law := fun _ h => List.mem_append_left _ (List.mem_append_right _ h)
theorem inX1 : ∀ w ∈ wsX10, w ∈ lw_tbl := fun w h => wsL_law_in w (inlX1 w h)
theorem inlX2 : ∀ w ∈ wsX20, w ∈ wsL_law := fun _ h => List.mem_append_left _ (List.mem_append_left _ (List.mem_append_left _ (List.mem_append_left _ (List.mem_append_right _ h))))
theorem inX2 : ∀ w ∈ wsX20, w ∈ lw_tbl := fun w h => wsL_law_in w (inlX2 w h)
theorem inlX3 : ∀ w ∈ wsX30, w ∈ wsL_law := fun _ h => List.mem_append_left _ (List.mem_append_left _ (List.mem_append_left _ (List.mem_append_right _ h)))
theorem inX3 : ∀ w ∈ wsX30, w ∈ lw_tbl := fun w h => wsL_law_in w (inlX3 w h)
theorem inJ9 : ∀ w ∈ wsJ90, w ∈ lw_tbl := by decide +kernel
theorem inJ10 : ∀ w ∈ wsJ100, w ∈ lw_tbl := by decide +kernel
theorem inJ7 : ∀ w ∈ wsJ70, w ∈ lw_tbl := by decide +kernel

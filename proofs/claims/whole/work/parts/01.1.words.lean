set_option maxRecDepth 20000 in
theorem in_wsL_law_r1 : ∀ w ∈ wsL_law_r1, w ∈ lw_tbl := fun w h => (goodIn_r wsL_law_r1 [23, 24, 21, 215, 216, 22, 25, 26, 27, 28, 29, 30, 56, 37, 57, 38, 39, 40, 31, 32, 33, 34, 35, 36] (by decide +kernel) (by decide +kernel) w h).1
set_option maxRecDepth 20000 in
theorem in_wsL_law_r2 : ∀ w ∈ wsL_law_r2, w ∈ lw_tbl := fun w h => (goodIn_r wsL_law_r2 [217, 218, 219, 220, 229, 230, 231, 232, 235, 236, 237, 239, 221, 222, 223, 224, 225, 226, 227, 228, 58, 59, 60, 61] (by decide +kernel) (by decide +kernel) w h).1
set_option maxRecDepth 20000 in
theorem in_wsL_law_r3 : ∀ w ∈ wsL_law_r3, w ∈ lw_tbl := fun w h => (goodIn_r wsL_law_r3 [62, 63, 64, 65, 67, 0, 68, 41, 69, 71, 1, 72, 73, 75, 2, 76, 77, 78, 79, 80, 81, 82, 83, 84] (by decide +kernel) (by decide +kernel) w h).1
set_option maxRecDepth 20000 in
theorem in_wsL_law_r4 : ∀ w ∈ wsL_law_r4, w ∈ lw_tbl := fun w h => (goodIn_r wsL_law_r4 [85, 86, 87, 88, 89, 90, 91, 93, 3, 94, 95, 97, 4, 98, 42, 99, 101, 5, 102, 263, 264, 265, 266, 238] (by decide +kernel) (by decide +kernel) w h).1
set_option maxRecDepth 20000 in
theorem in_wsL_law_r5 : ∀ w ∈ wsL_law_r5, w ∈ lw_tbl := fun w h => (goodIn_r wsL_law_r5 [267, 268, 269, 270, 271, 272, 273, 274, 275, 276, 277, 279, 13, 280, 281, 283, 14, 284, 285, 287, 15, 288, 233, 234] (by decide +kernel) (by decide +kernel) w h).1
set_option maxRecDepth 20000 in
theorem in_wsL_law_r6 : ∀ w ∈ wsL_law_r6, w ∈ lw_tbl := fun w h => (goodIn_r wsL_law_r6 [103, 104, 105, 106, 107, 112, 113, 114, 108, 110, 6, 111, 115, 116, 117, 289, 290, 291, 292, 293, 298, 299, 300, 294] (by decide +kernel) (by decide +kernel) w h).1
set_option maxRecDepth 20000 in
theorem in_wsL_law_r7 : ∀ w ∈ wsL_law_r7, w ∈ lw_tbl := fun w h => (goodIn_r wsL_law_r7 [296, 16, 297, 301, 302, 303, 118, 119, 120, 121, 122, 123, 124, 125, 126, 127, 128, 129, 130, 304, 305, 306, 307, 311] (by decide +kernel) (by decide +kernel) w h).1
set_option maxRecDepth 20000 in
theorem in_wsL_law_r8 : ∀ w ∈ wsL_law_r8, w ∈ lw_tbl := fun w h => (goodIn_r wsL_law_r8 [308, 309, 310, 312, 313, 314, 315, 316, 131, 132, 133, 134, 141, 142, 135, 136, 137, 138, 139, 140, 317, 318, 319, 320] (by decide +kernel) (by decide +kernel) w h).1
set_option maxRecDepth 20000 in
theorem in_wsL_law_r9 : ∀ w ∈ wsL_law_r9, w ∈ lw_tbl := fun w h => (goodIn_r wsL_law_r9 [324, 325, 321, 322, 323, 143, 144, 145, 146, 326, 327, 328, 329, 147, 148, 149, 150, 330, 331, 332, 333, 151, 152, 153] (by decide +kernel) (by decide +kernel) w h).1
set_option maxRecDepth 20000 in
theorem in_wsL_law_r10 : ∀ w ∈ wsL_law_r10, w ∈ lw_tbl := fun w h => (goodIn_r wsL_law_r10 [154, 334, 335, 336, 337, 155, 156, 157, 158, 338, 339, 340, 341, 159, 160, 161, 162, 163, 165, 7, 166, 167, 168, 169] (by decide +kernel) (by decide +kernel) w h).1
set_option maxRecDepth 20000 in
theorem in_wsL_law_r11 : ∀ w ∈ wsL_law_r11, w ∈ lw_tbl := fun w h => (goodIn_r wsL_law_r11 [170, 172, 8, 173, 174, 176, 9, 177, 178, 180, 10, 181, 182, 183, 184, 185, 186, 187, 188, 190, 11, 191, 192, 194] (by decide +kernel) (by decide +kernel) w h).1
set_option maxRecDepth 20000 in
theorem in_wsL_law_r12 : ∀ w ∈ wsL_law_r12, w ∈ lw_tbl := fun w h => (goodIn_r wsL_law_r12 [12, 195, 342, 343, 344, 345, 346, 348, 17, 349, 350, 352, 18, 353, 354, 356, 19, 357, 196, 197, 198, 199, 358, 359] (by decide +kernel) (by decide +kernel) w h).1
set_option maxRecDepth 20000 in
theorem in_wsL_law_r13 : ∀ w ∈ wsL_law_r13, w ∈ lw_tbl := fun w h => (goodIn_r wsL_law_r13 [360, 361, 200, 201, 202, 203, 204, 205, 206, 362, 363, 364, 365, 207, 208, 209, 210, 366, 367, 368, 369, 211, 212, 213] (by decide +kernel) (by decide +kernel) w h).1
set_option maxRecDepth 20000 in
theorem in_wsL_law_r14 : ∀ w ∈ wsL_law_r14, w ∈ lw_tbl := fun w h => (goodIn_r wsL_law_r14 [214, 370, 371, 372, 373] (by decide +kernel) (by decide +kernel) w h).1
set_option maxRecDepth 20000 in
theorem in_wsX00 : ∀ w ∈ wsX00, w ∈ lw_tbl := fun w h => (goodIn_r wsX00 [43, 45, 47, 49, 51, 53] (by decide +kernel) (by decide +kernel) w h).1
set_option maxRecDepth 20000 in
theorem in_wsX10 : ∀ w ∈ wsX10, w ∈ lw_tbl := fun w h => (goodIn_r wsX10 [240, 242, 244, 246, 248, 250, 252, 254, 256, 258, 260] (by decide +kernel) (by decide +kernel) w h).1
theorem wsL_law_in : ∀ w ∈ wsL_law, w ∈ lw_tbl := fun w h => (List.mem_append.mp h).elim (fun h => (List.mem_append.mp h).elim (fun h => (List.mem_append.mp h).elim (fun h => (List.mem_append.mp h).elim (fun h => in_wsL_law_r1 w h) (fun h => (List.mem_append.mp h).elim (fun h => in_wsL_law_r2 w h) (fun h => (List.mem_append.mp h).elim (fun h => in_wsL_law_r3 w h) (fun h => (List.mem_append.mp h).elim (fun h => in_wsL_law_r4 w h) (fun h => (List.mem_append.mp h).elim (fun h => in_wsL_law_r5 w h) (fun h => (List.mem_append.mp h).elim (fun h => in_wsL_law_r6 w h) (fun h => (List.mem_append.mp h).elim (fun h => in_wsL_law_r7 w h) (fun h => (List.mem_append.mp h).elim (fun h => in_wsL_law_r8 w h) (fun h => (List.mem_append.mp h).elim (fun h => in_wsL_law_r9 w h) (fun h => (List.mem_append.mp h).elim (fun h => in_wsL_law_r10 w h) (fun h => (List.mem_append.mp h).elim (fun h => in_wsL_law_r11 w h) (fun h => (List.mem_append.mp h).elim (fun h => in_wsL_law_r12 w h) (fun h => (List.mem_append.mp h).elim (fun h => in_wsL_law_r13 w h) (fun h => in_wsL_law_r14 w h)))))))))))))) (in_wsX00 w)) (in_wsX10 w)) (fun h => by cases h)
theorem inlX0 : ∀ w ∈ wsX00, w ∈ wsL_law := fun _ h => List.mem_append_left _ (List.mem_append_left _ (List.mem_append_right _ h))
theorem inX0 : ∀ w ∈ wsX00, w ∈ lw_tbl := fun w h => wsL_law_in w (inlX0 w h)
theorem inlX1 : ∀ w ∈ wsX10, w ∈ wsL_law := fun _ h => List.mem_append_left _ (List.mem_append_right _ h)
theorem inX1 : ∀ w ∈ wsX10, w ∈ lw_tbl := fun w h => wsL_law_in w (inlX1 w h)

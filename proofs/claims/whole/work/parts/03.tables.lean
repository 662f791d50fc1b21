theorem mem_ps {big ws : List Cond} (ps : List Nat) (h : ws = ps.filterMap (fun i => big[i]?)) : ∀ w ∈ ws, w ∈ big := by
  intro w hw
  rw [h] at hw
  obtain ⟨i, -, hi⟩ := List.mem_filterMap.mp hw
  exact List.mem_of_getElem? hi
set_option maxRecDepth 20000 in
theorem wsL_in_r1 : ∀ w ∈ wsL_law_r1, w ∈ lw_tbl := mem_ps [30, 31, 24, 309, 310, 28, 306, 307, 23, 308, 32, 33, 34, 35, 36, 37, 38, 39, 25, 40, 41, 42, 43, 106] (by decide +kernel)
set_option maxRecDepth 20000 in
theorem wsL_in_r2 : ∀ w ∈ wsL_law_r2, w ∈ lw_tbl := mem_ps [107, 44, 45, 26, 59, 73, 74, 27, 108, 109, 134, 110, 46, 47, 48, 49, 72, 53, 55, 50, 75, 76, 77, 78] (by decide +kernel)
set_option maxRecDepth 20000 in
theorem wsL_in_r3 : ∀ w ∈ wsL_law_r3, w ∈ lw_tbl := mem_ps [79, 84, 86, 90, 82, 83, 311, 312, 313, 314, 318, 319, 322, 323, 324, 325, 328, 329, 330, 331, 316, 317, 135, 136] (by decide +kernel)
set_option maxRecDepth 20000 in
theorem wsL_in_r4 : ∀ w ∈ wsL_law_r4, w ∈ lw_tbl := mem_ps [137, 138, 114, 139, 140, 141, 142, 143, 88, 93, 144, 146, 0, 147, 89, 161, 111, 148, 149, 150, 151, 52, 60, 152] (by decide +kernel)
set_option maxRecDepth 20000 in
theorem wsL_in_r5 : ∀ w ∈ wsL_law_r5, w ∈ lw_tbl := mem_ps [153, 154, 155, 156, 157, 159, 1, 160, 91, 162, 164, 2, 165, 85, 87, 166, 167, 169, 3, 170, 171, 173, 4, 174] (by decide +kernel)
set_option maxRecDepth 20000 in
theorem wsL_in_r6 : ∀ w ∈ wsL_law_r6, w ∈ lw_tbl := mem_ps [175, 177, 5, 178, 113, 112, 179, 181, 6, 182, 183, 184, 185, 186, 472, 473, 474, 475, 315, 333, 383, 320, 321, 332] (by decide +kernel)
set_option maxRecDepth 20000 in
theorem wsL_in_r7 : ∀ w ∈ wsL_law_r7, w ∈ lw_tbl := mem_ps [456, 458, 19, 459, 418, 334, 335, 415, 416, 417, 411, 413, 16, 414, 400, 401, 402, 460, 462, 20, 463, 464, 466, 21] (by decide +kernel)
set_option maxRecDepth 20000 in
theorem wsL_in_r8 : ∀ w ∈ wsL_law_r8, w ∈ lw_tbl := mem_ps [467, 326, 327, 468, 470, 22, 471, 187, 188, 189, 190, 58, 51, 92, 191, 192, 193, 194, 195, 196, 197, 198, 199, 200] (by decide +kernel)
set_option maxRecDepth 20000 in
theorem wsL_in_r9 : ∀ w ∈ wsL_law_r9, w ∈ lw_tbl := mem_ps [201, 202, 57, 203, 204, 205, 54, 206, 207, 29, 208, 209, 210, 212, 7, 213, 214, 216, 8, 217, 56, 218, 219, 220] (by decide +kernel)
set_option maxRecDepth 20000 in
theorem wsL_in_r10 : ∀ w ∈ wsL_law_r10, w ∈ lw_tbl := mem_ps [221, 222, 223, 224, 225, 226, 227, 228, 229, 230, 231, 233, 9, 234, 235, 236, 237, 238, 239, 240, 379, 380, 381, 382] (by decide +kernel)
set_option maxRecDepth 20000 in
theorem wsL_in_r11 : ∀ w ∈ wsL_law_r11, w ∈ lw_tbl := mem_ps [384, 386, 11, 387, 388, 390, 12, 391, 392, 393, 394, 395, 396, 398, 13, 399, 403, 405, 14, 406, 407, 409, 15, 410] (by decide +kernel)
set_option maxRecDepth 20000 in
theorem wsL_in_r12 : ∀ w ∈ wsL_law_r12, w ∈ lw_tbl := mem_ps [419, 421, 17, 422, 423, 425, 18, 426, 241, 242, 243, 244, 427, 428, 429, 430, 245, 246, 247, 248, 431, 432, 433, 434] (by decide +kernel)
set_option maxRecDepth 20000 in
theorem wsL_in_r13 : ∀ w ∈ wsL_law_r13, w ∈ lw_tbl := mem_ps [249, 250, 251, 252, 253, 254, 255, 256, 257, 258, 260, 10, 261, 262, 263, 264, 265, 266, 267, 268, 269, 435, 436, 437] (by decide +kernel)
set_option maxRecDepth 20000 in
theorem wsL_in_r14 : ∀ w ∈ wsL_law_r14, w ∈ lw_tbl := mem_ps [438, 439, 270, 271, 272, 273, 440, 441, 442, 443, 274, 275, 276, 277, 444, 445, 446, 447, 278, 279, 280, 281, 448, 449] (by decide +kernel)
set_option maxRecDepth 20000 in
theorem wsL_in_r15 : ∀ w ∈ wsL_law_r15, w ∈ lw_tbl := mem_ps [450, 451, 282, 283, 284, 285, 452, 453, 454, 455, 286, 287, 288, 289, 476, 477, 478, 479, 290, 291, 292, 293, 480, 481] (by decide +kernel)
set_option maxRecDepth 20000 in
theorem wsL_in_r16 : ∀ w ∈ wsL_law_r16, w ∈ lw_tbl := mem_ps [482, 483, 294, 295, 296, 297, 484, 485, 486, 487, 298, 299, 300, 301, 488, 489, 490, 491, 302, 303, 304, 305, 492, 493] (by decide +kernel)
set_option maxRecDepth 20000 in
theorem wsL_in_r17 : ∀ w ∈ wsL_law_r17, w ∈ lw_tbl := mem_ps [494, 495] (by decide +kernel)
set_option maxRecDepth 20000 in
theorem inX0 : ∀ w ∈ wsX00, w ∈ lw_tbl := mem_ps [61, 63, 65, 67, 69] (by decide +kernel)
set_option maxRecDepth 20000 in
theorem inX1 : ∀ w ∈ wsX10, w ∈ lw_tbl := mem_ps [94, 96, 98, 100, 102] (by decide +kernel)
set_option maxRecDepth 20000 in
theorem inX2 : ∀ w ∈ wsX20, w ∈ lw_tbl := mem_ps [115, 117, 119, 121, 123, 125, 127, 129, 131] (by decide +kernel)
set_option maxRecDepth 20000 in
theorem inX3 : ∀ w ∈ wsX30, w ∈ lw_tbl := mem_ps [336, 338, 340, 342, 344, 346, 348, 350, 352, 354, 356, 358, 360, 362, 364, 366, 368, 370, 372, 374, 376] (by decide +kernel)
theorem wsL_law_in : ∀ w ∈ wsL_law, w ∈ lw_tbl := by
  intro w hw
  unfold wsL_law at hw
  simp only [List.mem_append, List.not_mem_nil, or_false] at hw
  rcases hw with ((((h | h | h | h | h | h | h | h | h | h | h | h | h | h | h | h | h) | h) | h) | h) | h
  · exact wsL_in_r1 w h
  · exact wsL_in_r2 w h
  · exact wsL_in_r3 w h
  · exact wsL_in_r4 w h
  · exact wsL_in_r5 w h
  · exact wsL_in_r6 w h
  · exact wsL_in_r7 w h
  · exact wsL_in_r8 w h
  · exact wsL_in_r9 w h
  · exact wsL_in_r10 w h
  · exact wsL_in_r11 w h
  · exact wsL_in_r12 w h
  · exact wsL_in_r13 w h
  · exact wsL_in_r14 w h
  · exact wsL_in_r15 w h
  · exact wsL_in_r16 w h
  · exact wsL_in_r17 w h
  · exact inX2 w h
  · exact inX3 w h
  · exact inX0 w h
  · exact inX1 w h
theorem inlX0 : ∀ w ∈ wsX00, w ∈ wsL_law := fun _ h => List.mem_append_left _ (List.mem_append_left _ (List.mem_append_right _ h))
theorem inlX1 : ∀ w ∈ wsX10, w ∈ wsL_law := fun _ h => List.mem_append_left _ (List.mem_append_right _ h)
theorem inlX2 : ∀ w ∈ wsX20, w ∈ wsL_law := fun _ h => List.mem_append_left _ (List.mem_append_left _ (List.mem_append_left _ (List.mem_append_left _ (List.mem_append_right _ h))))
theorem inlX3 : ∀ w ∈ wsX30, w ∈ wsL_law := fun _ h => List.mem_append_left _ (List.mem_append_left _ (List.mem_append_left _ (List.mem_append_right _ h)))
theorem inJ6 : ∀ w ∈ wsJ60, w ∈ lw_tbl := by decide +kernel
theorem inJ9 : ∀ w ∈ wsJ90, w ∈ lw_tbl := by decide +kernel

/-! THE BEGINNING 1: every word of wsL_law stands in the tables -/
theorem memIn_r {big : List Cond} (ws : List Cond) (ps : List Nat) (hp : ws = ps.filterMap (fun i => big[i]?)) : ∀ w ∈ ws, w ∈ big := by
  intro w hw
  rw [hp] at hw
  obtain ⟨i, -, hi⟩ := List.mem_filterMap.mp hw
  exact List.mem_of_getElem? hi
theorem mem_ap {big a b : List Cond} (ha : ∀ w ∈ a, w ∈ big) (hb : ∀ w ∈ b, w ∈ big) : ∀ w ∈ a ++ b, w ∈ big := fun w h => (List.mem_append.mp h).elim (ha w) (hb w)
theorem mem_td {big l : List Cond} (k : Nat) (ha : ∀ w ∈ l.take k, w ∈ big) (hb : ∀ w ∈ l.drop k, w ∈ big) : ∀ w ∈ l, w ∈ big := fun w h => mem_ap ha hb w (by rw [List.take_append_drop]; exact h)
theorem inT_acts : Cond.code yL_acts cL_acts 17 (some .boolean) ∈ lw_tbl := List.mem_append_right _ (List.mem_append_right _ (List.mem_append_right _ (List.mem_append_left _ (List.mem_of_getElem? (i := 8) rfl))))
set_option maxRecDepth 20000 in
theorem inT_r1 : ∀ w ∈ wsL_law_r1, w ∈ lw_tbl := memIn_r _ [35, 36, 21, 520, 37, 38, 39, 40, 41, 42, 43, 44, 22, 233, 234, 235, 236, 180, 181, 26, 237, 200, 201, 27] (by decide +kernel)
set_option maxRecDepth 20000 in
theorem inT_r2 : ∀ w ∈ wsL_law_r2, w ∈ lw_tbl := memIn_r _ [238, 239, 46, 47, 48, 49, 50, 23, 147, 69, 70, 24, 149, 116, 117, 25, 152, 68, 154, 155, 156, 158, 159, 160] (by decide +kernel)
set_option maxRecDepth 20000 in
theorem inT_r3 : ∀ w ∈ wsL_law_r3, w ∈ lw_tbl := memIn_r _ [52, 53, 54, 55, 56, 57, 58, 72, 73, 74, 75, 77, 79, 81, 83, 85, 87, 89, 91, 93, 119, 120, 121, 122] (by decide +kernel)
set_option maxRecDepth 20000 in
theorem inT_r4 : ∀ w ∈ wsL_law_r4, w ∈ lw_tbl := memIn_r _ [124, 126, 128, 130, 132, 182, 183, 184, 185, 186, 189, 190, 191, 203, 204, 205, 232, 206, 207, 209, 210, 211, 212, 213] (by decide +kernel)
set_option maxRecDepth 20000 in
theorem inT_r5 : ∀ w ∈ wsL_law_r5, w ∈ lw_tbl := memIn_r _ [214, 485, 486, 20, 487, 505, 477, 478, 479, 480, 425, 484, 481, 327, 328, 329, 311, 312, 482, 331, 332, 333, 334, 336] (by decide +kernel)
set_option maxRecDepth 20000 in
theorem inT_r6 : ∀ w ∈ wsL_law_r6, w ∈ lw_tbl := memIn_r _ [1, 337, 483, 441, 442, 443, 346, 347, 348, 349, 350, 351, 352, 353, 390, 313, 354, 355, 356, 357, 358, 359, 360, 361] (by decide +kernel)
set_option maxRecDepth 20000 in
theorem inT_r7 : ∀ w ∈ wsL_law_r7, w ∈ lw_tbl := memIn_r _ [362, 363, 364, 365, 366, 367, 368, 369, 370, 372, 2, 373, 374, 376, 3, 377, 378, 379, 380, 381, 382, 383, 384, 385] (by decide +kernel)
set_option maxRecDepth 20000 in
theorem inT_r8 : ∀ w ∈ wsL_law_r8, w ∈ lw_tbl := memIn_r _ [386, 388, 4, 389, 391, 392, 393, 394, 462, 463, 464, 465, 466, 467, 468, 469, 470, 471, 472, 473, 474, 475, 28, 476] (by decide +kernel)
set_option maxRecDepth 20000 in
theorem inT_r9 : ∀ w ∈ wsL_law_r9, w ∈ lw_tbl := memIn_r _ [417, 418, 419, 420, 421, 422, 423, 424, 426, 427, 428, 429, 435, 430, 431, 432, 433, 434, 436, 438, 5, 439, 440, 444] (by decide +kernel)
set_option maxRecDepth 20000 in
theorem inT_r10 : ∀ w ∈ wsL_law_r10, w ∈ lw_tbl := memIn_r _ [408, 409, 410, 411, 488, 489, 490, 491, 449, 307, 308, 309, 492, 493, 494, 495, 496, 498, 7, 499, 500, 502, 8, 503] (by decide +kernel)
set_option maxRecDepth 20000 in
theorem inT_r11 : ∀ w ∈ wsL_law_r11, w ∈ lw_tbl := memIn_r _ [504, 395, 396, 397, 398, 399, 400, 401, 402, 403, 294, 295, 28, 296, 297, 260, 261, 262, 280, 269, 268, 29, 263, 264] (by decide +kernel)
set_option maxRecDepth 20000 in
theorem inT_r12 : ∀ w ∈ wsL_law_r12, w ∈ lw_tbl := memIn_r _ [265, 266, 267, 270, 271, 272, 273, 274, 275, 276, 277, 278, 279, 255, 256, 257, 258, 259, 281, 282, 283, 284, 285, 286] (by decide +kernel)

theorem mem_pl {big ws : List Cond} (ps : List Nat) (h : ps.map (fun i => big[i]?) = ws.map some) : ∀ w ∈ ws, w ∈ big := by
  intro w hw
  have h1 : some w ∈ ws.map some := List.mem_map.mpr ⟨w, hw, rfl⟩
  rw [← h] at h1
  obtain ⟨i, -, hi⟩ := List.mem_map.mp h1
  exact List.mem_of_getElem? hi
set_option maxRecDepth 20000 in
theorem in_wsL_law_r1 : ∀ w ∈ wsL_law_r1, w ∈ lw_tbl := mem_pl [35, 36, 30, 291, 292, 31, 37, 38, 39, 40, 41, 42, 90, 47, 48, 49, 50, 43, 51, 52, 45, 53, 54, 55] rfl
set_option maxRecDepth 20000 in
theorem in_wsL_law_r2 : ∀ w ∈ wsL_law_r2, w ∈ lw_tbl := mem_pl [56, 57, 58, 59, 60, 293, 294, 295, 296, 298, 299, 300, 302, 303, 373, 304, 305, 307, 308, 309, 314, 315, 316, 317] rfl
set_option maxRecDepth 20000 in
theorem in_wsL_law_r3 : ∀ w ∈ wsL_law_r3, w ∈ lw_tbl := mem_pl [319, 91, 92, 93, 94, 95, 96, 97, 98, 374, 375, 376, 377, 378, 297, 379, 380, 381, 99, 100, 101, 102, 103, 105] rfl
set_option maxRecDepth 20000 in
theorem in_wsL_law_r4 : ∀ w ∈ wsL_law_r4, w ∈ lw_tbl := mem_pl [0, 106, 382, 383, 384, 385, 386, 388, 14, 389, 107, 108, 109, 110, 390, 391, 392, 393, 111, 112, 113, 114, 193, 33] rfl
set_option maxRecDepth 20000 in
theorem in_wsL_law_r5 : ∀ w ∈ wsL_law_r5, w ∈ lw_tbl := mem_pl [115, 117, 1, 118, 119, 121, 2, 122, 123, 125, 3, 126, 127, 129, 4, 130, 131, 133, 5, 134, 135, 136, 137, 138] rfl
set_option maxRecDepth 20000 in
theorem in_wsL_law_r6 : ∀ w ∈ wsL_law_r6, w ∈ lw_tbl := mem_pl [140, 6, 141, 142, 144, 7, 145, 150, 151, 32, 152, 153, 154, 155, 146, 148, 8, 149, 156, 157, 158, 159, 160, 32] rfl
set_option maxRecDepth 20000 in
theorem in_wsL_law_r7 : ∀ w ∈ wsL_law_r7, w ∈ lw_tbl := mem_pl [161, 162, 163, 164, 165, 167, 9, 168, 169, 171, 10, 172, 173, 174, 175, 176, 177, 179, 11, 180, 181, 185, 186, 187] rfl
set_option maxRecDepth 20000 in
theorem in_wsL_law_r8 : ∀ w ∈ wsL_law_r8, w ∈ lw_tbl := mem_pl [188, 182, 183, 184, 189, 190, 191, 192, 195, 196, 197, 210, 212, 198, 200, 202, 204, 206, 208, 394, 395, 396, 397, 301] rfl
set_option maxRecDepth 20000 in
theorem in_wsL_law_r9 : ∀ w ∈ wsL_law_r9, w ∈ lw_tbl := mem_pl [311, 312, 398, 400, 15, 401, 402, 404, 16, 405, 406, 408, 17, 409, 410, 411, 412, 413, 415, 18, 416, 310, 313, 417] rfl
set_option maxRecDepth 20000 in
theorem in_wsL_law_r10 : ∀ w ∈ wsL_law_r10, w ∈ lw_tbl := mem_pl [419, 19, 420, 421, 423, 20, 424, 425, 427, 21, 428, 429, 431, 22, 432, 433, 435, 23, 436, 437, 438, 439, 441, 24] rfl
set_option maxRecDepth 20000 in
theorem in_wsL_law_r11 : ∀ w ∈ wsL_law_r11, w ∈ lw_tbl := mem_pl [442, 443, 445, 25, 446, 447, 448, 449, 450, 452, 26, 453, 454, 456, 27, 457, 458, 459, 460, 231, 232, 233, 234, 461] rfl
set_option maxRecDepth 20000 in
theorem in_wsL_law_r12 : ∀ w ∈ wsL_law_r12, w ∈ lw_tbl := mem_pl [462, 463, 464, 235, 236, 237, 238, 465, 466, 467, 468, 318, 239, 240, 241, 242, 469, 470, 471, 472, 243, 244, 245, 246] rfl
set_option maxRecDepth 20000 in
theorem in_wsL_law_r13 : ∀ w ∈ wsL_law_r13, w ∈ lw_tbl := mem_pl [247, 34, 249, 250, 251, 252, 254, 256, 473, 474, 475, 476, 306, 265, 266, 267, 268, 269, 271, 12, 272, 273, 275, 13] rfl
set_option maxRecDepth 20000 in
theorem in_wsL_law_r14 : ∀ w ∈ wsL_law_r14, w ∈ lw_tbl := mem_pl [276, 277, 278, 279, 280, 477, 478, 479, 480, 320, 321, 481, 483, 28, 484, 281, 282, 283, 284, 485, 486, 487, 488, 285] rfl
set_option maxRecDepth 20000 in
theorem in_wsL_law_r15 : ∀ w ∈ wsL_law_r15, w ∈ lw_tbl := mem_pl [489, 490, 491, 492, 286, 493, 494, 495, 496, 287, 288, 289, 290, 497, 498, 499, 500] rfl
set_option maxRecDepth 20000 in
theorem in_wsX20 : ∀ w ∈ wsX20, w ∈ lw_tbl := mem_pl [61, 63, 65, 67, 69, 71, 73, 75, 77, 79, 81, 83, 85, 87] rfl
set_option maxRecDepth 20000 in
theorem in_wsX30 : ∀ w ∈ wsX30, w ∈ lw_tbl := mem_pl [322, 324, 326, 328, 330, 332, 334, 336, 338, 340, 342, 344, 346, 348, 350, 352, 354, 356, 358, 360, 362, 364, 366, 368, 370] rfl
set_option maxRecDepth 20000 in
theorem in_wsX00 : ∀ w ∈ wsX00, w ∈ lw_tbl := mem_pl [214, 216, 218, 220, 222, 224, 226, 228] rfl
set_option maxRecDepth 20000 in
theorem in_wsX10 : ∀ w ∈ wsX10, w ∈ lw_tbl := mem_pl [258, 260, 262] rfl
theorem wsL_law_in : ∀ w ∈ wsL_law, w ∈ lw_tbl := by
  intro w h
  rcases List.mem_append.mp h with h | h
  · rcases List.mem_append.mp h with h | h
    · rcases List.mem_append.mp h with h | h
      · rcases List.mem_append.mp h with h | h
        · rcases List.mem_append.mp h with h | h
          · rcases List.mem_append.mp h with h | h
            · exact in_wsL_law_r1 w h
            rcases List.mem_append.mp h with h | h
            · exact in_wsL_law_r2 w h
            rcases List.mem_append.mp h with h | h
            · exact in_wsL_law_r3 w h
            rcases List.mem_append.mp h with h | h
            · exact in_wsL_law_r4 w h
            rcases List.mem_append.mp h with h | h
            · exact in_wsL_law_r5 w h
            rcases List.mem_append.mp h with h | h
            · exact in_wsL_law_r6 w h
            rcases List.mem_append.mp h with h | h
            · exact in_wsL_law_r7 w h
            rcases List.mem_append.mp h with h | h
            · exact in_wsL_law_r8 w h
            rcases List.mem_append.mp h with h | h
            · exact in_wsL_law_r9 w h
            rcases List.mem_append.mp h with h | h
            · exact in_wsL_law_r10 w h
            rcases List.mem_append.mp h with h | h
            · exact in_wsL_law_r11 w h
            rcases List.mem_append.mp h with h | h
            · exact in_wsL_law_r12 w h
            rcases List.mem_append.mp h with h | h
            · exact in_wsL_law_r13 w h
            rcases List.mem_append.mp h with h | h
            · exact in_wsL_law_r14 w h
            exact in_wsL_law_r15 w h
          · exact in_wsX20 w h
        · exact in_wsX30 w h
      · exact in_wsX00 w h
    · exact in_wsX10 w h
  · cases h
theorem inlX0 : ∀ w ∈ wsX00, w ∈ wsL_law := fun _ h => List.mem_append_left _ (List.mem_append_left _ (List.mem_append_right _ h))
theorem inX0 : ∀ w ∈ wsX00, w ∈ lw_tbl := fun w h => wsL_law_in w (inlX0 w h)
theorem inlX1 : ∀ w ∈ wsX10, w ∈ wsL_law := fun _ h => List.mem_append_left _ (List.mem_append_right _ h)
theorem inX1 : ∀ w ∈ wsX10, w ∈ lw_tbl := fun w h => wsL_law_in w (inlX1 w h)
theorem inlX2 : ∀ w ∈ wsX20, w ∈ wsL_law := fun _ h => List.mem_append_left _ (List.mem_append_left _ (List.mem_append_left _ (List.mem_append_left _ (List.mem_append_right _ h))))
theorem inX2 : ∀ w ∈ wsX20, w ∈ lw_tbl := fun w h => wsL_law_in w (inlX2 w h)
theorem inlX3 : ∀ w ∈ wsX30, w ∈ wsL_law := fun _ h => List.mem_append_left _ (List.mem_append_left _ (List.mem_append_left _ (List.mem_append_right _ h)))
theorem inX3 : ∀ w ∈ wsX30, w ∈ lw_tbl := fun w h => wsL_law_in w (inlX3 w h)
theorem inJ9 : ∀ w ∈ wsJ90, w ∈ lw_tbl := by decide +kernel

theorem mem_pos {big ws : List Cond} (ps : List Nat) (h : ws.map some = ps.map (fun i => big[i]?)) : ∀ w ∈ ws, w ∈ big := by
  intro w hw
  have h1 : some w ∈ ws.map some := List.mem_map_of_mem hw
  rw [h] at h1
  obtain ⟨i, -, hi⟩ := List.mem_map.mp h1
  exact List.mem_of_getElem? hi
set_option maxRecDepth 20000 in
theorem wsL_law_in0_r1 : ∀ w ∈ wsL_law0_r1, w ∈ lw_tbl := mem_pos [16, 17, 5, 528, 529, 15, 530, 534, 78, 531, 532, 533, 18, 19, 20, 21, 22, 23, 24, 25, 6, 79, 80, 26] rfl
set_option maxRecDepth 20000 in
theorem wsL_law_in0_r2 : ∀ w ∈ wsL_law0_r2, w ∈ lw_tbl := mem_pos [27, 28, 29, 44, 45, 46, 47, 49, 51, 30, 31, 32, 33, 53, 55, 57, 34, 35, 7, 36, 37, 38, 39, 40] rfl
set_option maxRecDepth 20000 in
theorem wsL_law_in0_r3 : ∀ w ∈ wsL_law0_r3, w ∈ lw_tbl := mem_pos [42, 43, 523, 524, 4, 525, 526, 382, 8, 384, 385, 386, 390, 392, 395, 397, 457, 458, 459, 460, 453, 454, 455, 456] rfl
set_option maxRecDepth 20000 in
theorem wsL_law_in0_r4 : ∀ w ∈ wsL_law0_r4, w ∈ lw_tbl := mem_pos [465, 466, 467, 468, 394, 469, 470, 471, 472, 194, 195, 196, 197, 12, 473, 461, 462, 463, 464, 393, 391, 398, 396, 474] rfl
set_option maxRecDepth 20000 in
theorem wsL_law_in0_r5 : ∀ w ∈ wsL_law0_r5, w ∈ lw_tbl := mem_pos [475, 476, 477, 234, 236, 2, 237, 238, 240, 3, 241, 98, 13, 242, 243, 244, 245, 90, 92, 0, 93, 94, 95, 96] rfl
set_option maxRecDepth 20000 in
theorem wsL_law_in0_r6 : ∀ w ∈ wsL_law0_r6, w ∈ lw_tbl := mem_pos [97, 478, 479, 480, 481, 174, 175, 176, 177, 260, 249, 250, 251, 183, 184, 482, 483, 484, 485, 486, 487, 488, 489, 490] rfl
set_option maxRecDepth 20000 in
theorem wsL_law_in0_r7 : ∀ w ∈ wsL_law0_r7, w ∈ lw_tbl := mem_pos [14, 247, 248, 506, 507, 508, 509, 298, 257, 258, 259, 256, 510, 511, 512, 513, 190, 191, 192, 514, 515, 516, 517, 186] rfl
set_option maxRecDepth 20000 in
theorem wsL_law_in0_r8 : ∀ w ∈ wsL_law0_r8, w ∈ lw_tbl := mem_pos [187, 188, 189, 213, 214, 215, 216, 217, 167, 168, 169, 170, 171, 172, 173, 178, 179, 180, 181, 185, 218, 219, 220, 221] rfl
set_option maxRecDepth 20000 in
theorem wsL_law_in0_r9 : ∀ w ∈ wsL_law0_r9, w ∈ lw_tbl := mem_pos [428, 429, 430, 431, 432, 421, 422, 423, 424, 425, 426, 427, 399, 518, 519, 520, 521, 350, 351, 352, 353, 522, 86, 87] rfl
set_option maxRecDepth 20000 in
theorem wsL_law_in0_r10 : ∀ w ∈ wsL_law0_r10, w ∈ lw_tbl := mem_pos [88, 89, 166, 420, 354, 355, 356, 357, 358, 359, 344, 223, 224, 225, 54, 360, 227, 228, 229, 56, 361, 275, 276, 277] rfl
set_option maxRecDepth 20000 in
theorem wsL_law_in0_r11 : ∀ w ∈ wsL_law0_r11, w ∈ lw_tbl := mem_pos [58, 362, 283, 284, 285, 286, 287, 288, 289, 363, 341, 342, 343, 345, 317, 318, 319, 303, 304, 305, 306, 308, 309, 310] rfl
set_option maxRecDepth 20000 in
theorem wsL_law_in0_r12 : ∀ w ∈ wsL_law0_r12, w ∈ lw_tbl := mem_pos [320, 321, 322, 323, 364, 279, 280, 281, 52, 273, 365, 366, 367, 368, 50, 369, 337, 338, 339, 370, 291, 292, 293, 294] rfl
set_option maxRecDepth 20000 in
theorem wsL_law_in0_r13 : ∀ w ∈ wsL_law0_r13, w ∈ lw_tbl := mem_pos [295, 296, 297, 371, 231, 232, 233, 372, 253, 254, 255, 373, 262, 263, 264, 265, 266, 267, 268, 374, 270, 271, 272, 48] rfl
set_option maxRecDepth 20000 in
theorem wsL_law_in0_r14 : ∀ w ∈ wsL_law0_r14, w ∈ lw_tbl := mem_pos [375, 300, 301, 302, 376, 329, 330, 331, 332, 333, 334, 335, 222, 226, 230, 252, 261, 290, 340, 282, 311, 312, 313, 314] rfl
set_option maxRecDepth 20000 in
theorem wsL_law_in0_r15 : ∀ w ∈ wsL_law0_r15, w ∈ lw_tbl := mem_pos [315, 316, 299, 328, 324, 325, 326, 327, 377, 378, 379, 380, 381, 413, 414, 415, 416, 417, 419, 383, 274, 269, 346, 347] rfl
set_option maxRecDepth 20000 in
theorem wsL_law_in0_r16 : ∀ w ∈ wsL_law0_r16, w ∈ lw_tbl := mem_pos [348, 349, 433, 434, 435, 436, 336, 278, 437, 438, 439, 440, 441, 442, 443, 444, 445, 446, 447, 448, 449, 450, 451, 452] rfl
theorem wsX00_tbl : ∀ w ∈ wsX00, w ∈ lw_tbl := mem_pos [59, 61, 63, 65, 67, 69, 71, 73, 75] rfl
theorem wsX10_tbl : ∀ w ∈ wsX10, w ∈ lw_tbl := mem_pos [81, 83] rfl
theorem wsX20_tbl : ∀ w ∈ wsX20, w ∈ lw_tbl := mem_pos [400, 402, 404, 406, 408, 410] rfl
theorem wsL_law_in0 : ∀ w ∈ wsL_law0, w ∈ lw_tbl := fun w h => (List.mem_append.mp h).elim (fun h => (List.mem_append.mp h).elim (fun h => (List.mem_append.mp h).elim (fun h => (List.mem_append.mp h).elim (fun h => (List.mem_append.mp h).elim (fun h => wsL_law_in0_r1 w h) (fun h => (List.mem_append.mp h).elim (fun h => wsL_law_in0_r2 w h) (fun h => (List.mem_append.mp h).elim (fun h => wsL_law_in0_r3 w h) (fun h => (List.mem_append.mp h).elim (fun h => wsL_law_in0_r4 w h) (fun h => (List.mem_append.mp h).elim (fun h => wsL_law_in0_r5 w h) (fun h => (List.mem_append.mp h).elim (fun h => wsL_law_in0_r6 w h) (fun h => (List.mem_append.mp h).elim (fun h => wsL_law_in0_r7 w h) (fun h => (List.mem_append.mp h).elim (fun h => wsL_law_in0_r8 w h) (fun h => (List.mem_append.mp h).elim (fun h => wsL_law_in0_r9 w h) (fun h => (List.mem_append.mp h).elim (fun h => wsL_law_in0_r10 w h) (fun h => (List.mem_append.mp h).elim (fun h => wsL_law_in0_r11 w h) (fun h => (List.mem_append.mp h).elim (fun h => wsL_law_in0_r12 w h) (fun h => (List.mem_append.mp h).elim (fun h => wsL_law_in0_r13 w h) (fun h => (List.mem_append.mp h).elim (fun h => wsL_law_in0_r14 w h) (fun h => (List.mem_append.mp h).elim (fun h => wsL_law_in0_r15 w h) (fun h => wsL_law_in0_r16 w h)))))))))))))))) (fun h => wsX10_tbl w h)) (fun h => wsX00_tbl w h)) (fun h => wsX20_tbl w h)) (fun h => absurd h List.not_mem_nil)
theorem wsL_law_x0 : ∀ w ∈ (vx_atS RX1 203 "java/lang/IllegalArgumentException" ["java/lang/RuntimeException", "java/lang/Exception"]).filter goodWord, w ∈ lw_tbl := by decide +kernel
theorem wsL_law_x1 : ∀ w ∈ (vx_atS RX1 191 "java/lang/IndexOutOfBoundsException" ["java/lang/RuntimeException", "java/lang/Exception"]).filter goodWord, w ∈ lw_tbl := by decide +kernel
theorem wsL_law_x2 : ∀ w ∈ (vx_atS RX1 46 "java/lang/IllegalStateException" ["java/lang/RuntimeException", "java/lang/Exception"]).filter goodWord, w ∈ lw_tbl := by decide +kernel
theorem wsL_law_in : ∀ w ∈ wsL_law, w ∈ lw_tbl := fun w h => (List.mem_append.mp h).elim (fun h => (List.mem_append.mp h).elim (fun h => (List.mem_append.mp h).elim (fun h => wsL_law_in0 w h) (fun h => wsL_law_x0 w h)) (fun h => wsL_law_x1 w h)) (fun h => wsL_law_x2 w h)
theorem inlX0 : ∀ w ∈ wsX00, w ∈ wsL_law := fun _ h => List.mem_append_left _ (List.mem_append_left _ (List.mem_append_left _ (List.mem_append_left _ (List.mem_append_left _ (List.mem_append_right _ h)))))
theorem inX0 : ∀ w ∈ wsX00, w ∈ lw_tbl := fun w h => wsL_law_in w (inlX0 w h)
theorem inlX1 : ∀ w ∈ wsX10, w ∈ wsL_law := fun _ h => List.mem_append_left _ (List.mem_append_left _ (List.mem_append_left _ (List.mem_append_left _ (List.mem_append_left _ (List.mem_append_left _ (List.mem_append_right _ h))))))
theorem inX1 : ∀ w ∈ wsX10, w ∈ lw_tbl := fun w h => wsL_law_in w (inlX1 w h)
theorem inlX2 : ∀ w ∈ wsX20, w ∈ wsL_law := fun _ h => List.mem_append_left _ (List.mem_append_left _ (List.mem_append_left _ (List.mem_append_left _ (List.mem_append_right _ h))))
theorem inX2 : ∀ w ∈ wsX20, w ∈ lw_tbl := fun w h => wsL_law_in w (inlX2 w h)
theorem inX3 : ∀ w ∈ wsX30, w ∈ lw_tbl := by decide +kernel
theorem inJx145de : ∀ w ∈ wsJx145de0, w ∈ lw_tbl := by decide +kernel
theorem inJx8e188 : ∀ w ∈ wsJx8e1880, w ∈ lw_tbl := by decide +kernel
theorem inJ9 : ∀ w ∈ wsJ90, w ∈ lw_tbl := by decide +kernel
theorem inJ0 : ∀ w ∈ wsJ00, w ∈ lw_tbl := by decide +kernel
theorem inJ7 : ∀ w ∈ wsJ70, w ∈ lw_tbl := by decide +kernel

theorem mem_pos {big ws : List Cond} (ps : List Nat) (h : ws.map some = ps.map (fun i => big[i]?)) : ∀ w ∈ ws, w ∈ big := by
  intro w hw
  have h1 : some w ∈ ws.map some := List.mem_map_of_mem hw
  rw [h] at h1
  obtain ⟨i, -, hi⟩ := List.mem_map.mp h1
  exact List.mem_of_getElem? hi
set_option maxRecDepth 20000 in
theorem wsL_law_in0_r1 : ∀ w ∈ wsL_law0_r1, w ∈ lw_tbl := mem_pos [40, 41, 28, 519, 520, 31, 775, 42, 43, 44, 45, 46, 47, 48, 49, 29, 103, 104, 50, 51, 52, 53, 102, 68] (by decide +kernel)
set_option maxRecDepth 20000 in
theorem wsL_law_in0_r2 : ∀ w ∈ wsL_law0_r2, w ∈ lw_tbl := mem_pos [69, 70, 71, 73, 75, 54, 55, 56, 57, 77, 79, 81, 58, 59, 30, 60, 61, 62, 63, 64, 66, 67, 521, 522] (by decide +kernel)
set_option maxRecDepth 20000 in
theorem wsL_law_in0_r3 : ∀ w ∈ wsL_law0_r3, w ∈ lw_tbl := mem_pos [523, 524, 526, 527, 528, 529, 530, 531, 532, 534, 360, 361, 27, 362, 363, 364, 365, 366, 367, 368, 369, 370, 371, 35] (by decide +kernel)
set_option maxRecDepth 20000 in
theorem wsL_law_in0_r4 : ∀ w ∈ wsL_law0_r4, w ∈ lw_tbl := mem_pos [387, 560, 561, 562, 563, 525, 564, 565, 566, 567, 569, 4, 570, 556, 557, 558, 559, 388, 389, 390, 391, 392, 393, 394] (by decide +kernel)
set_option maxRecDepth 20000 in
theorem wsL_law_in0_r5 : ∀ w ∈ wsL_law0_r5, w ∈ lw_tbl := mem_pos [395, 325, 327, 3, 328, 308, 310, 2, 311, 156, 36, 312, 313, 314, 315, 148, 150, 0, 151, 152, 153, 154, 155, 396] (by decide +kernel)
set_option maxRecDepth 20000 in
theorem wsL_law_in0_r6 : ∀ w ∈ wsL_law0_r6, w ∈ lw_tbl := mem_pos [397, 398, 399, 240, 241, 242, 243, 260, 261, 262, 263, 249, 250, 571, 572, 573, 574, 575, 577, 5, 578, 579, 581, 6] (by decide +kernel)
set_option maxRecDepth 20000 in
theorem wsL_law_in0_r7 : ∀ w ∈ wsL_law0_r7, w ∈ lw_tbl := mem_pos [582, 583, 585, 7, 586, 587, 589, 8, 590, 400, 401, 402, 403, 404, 405, 406, 591, 592, 593, 594, 407, 408, 409, 410] (by decide +kernel)
set_option maxRecDepth 20000 in
theorem wsL_law_in0_r8 : ∀ w ∈ wsL_law0_r8, w ∈ lw_tbl := mem_pos [411, 412, 413, 414, 415, 37, 329, 330, 431, 432, 433, 434, 256, 257, 258, 259, 335, 595, 596, 597, 598, 599, 601, 9] (by decide +kernel)
set_option maxRecDepth 20000 in
theorem wsL_law_in0_r9 : ∀ w ∈ wsL_law0_r9, w ∈ lw_tbl := mem_pos [602, 435, 436, 437, 438, 439, 440, 441, 282, 283, 284, 442, 443, 444, 445, 603, 604, 605, 606, 446, 447, 448, 449, 450] (by decide +kernel)
set_option maxRecDepth 20000 in
theorem wsL_law_in0_r10 : ∀ w ∈ wsL_law0_r10, w ∈ lw_tbl := mem_pos [451, 452, 232, 233, 234, 235, 236, 237, 238, 239, 244, 245, 246, 247, 251, 607, 608, 609, 610, 611, 613, 10, 614, 533] (by decide +kernel)
set_option maxRecDepth 20000 in
theorem wsL_law_in0_r11 : ∀ w ∈ wsL_law0_r11, w ∈ lw_tbl := mem_pos [615, 617, 11, 618, 453, 454, 455, 456, 457, 458, 459, 295, 296, 297, 298, 299, 300, 301, 302, 303, 619, 620, 621, 622] (by decide +kernel)
set_option maxRecDepth 20000 in
theorem wsL_law_in0_r12 : ∀ w ∈ wsL_law0_r12, w ∈ lw_tbl := mem_pos [623, 625, 12, 626, 627, 628, 38, 629, 110, 111, 112, 113, 114, 115, 116, 117, 118, 630, 631, 632, 633, 634, 636, 13] (by decide +kernel)
set_option maxRecDepth 20000 in
theorem wsL_law_in0_r13 : ∀ w ∈ wsL_law0_r13, w ∈ lw_tbl := mem_pos [637, 638, 640, 14, 641, 119, 120, 121, 122, 78, 642, 643, 644, 645, 123, 124, 125, 126, 80, 646, 647, 648, 649, 460] (by decide +kernel)
set_option maxRecDepth 20000 in
theorem wsL_law_in0_r14 : ∀ w ∈ wsL_law0_r14, w ∈ lw_tbl := mem_pos [461, 462, 463, 322, 323, 324, 650, 651, 652, 653, 464, 465, 466, 467, 332, 333, 334, 654, 655, 656, 657, 658, 660, 15] (by decide +kernel)
set_option maxRecDepth 20000 in
theorem wsL_law_in0_r15 : ∀ w ∈ wsL_law0_r15, w ∈ lw_tbl := mem_pos [661, 468, 469, 470, 471, 337, 338, 339, 340, 341, 342, 343, 662, 663, 664, 665, 666, 668, 16, 669, 472, 473, 474, 475] (by decide +kernel)
set_option maxRecDepth 20000 in
theorem wsL_law_in0_r16 : ∀ w ∈ wsL_law0_r16, w ∈ lw_tbl := mem_pos [345, 346, 347, 72, 286, 670, 671, 672, 673, 127, 128, 129, 130, 82, 674, 675, 676, 677, 476, 477, 478, 479, 279, 280] (by decide +kernel)
set_option maxRecDepth 20000 in
theorem wsL_law_in0_r17 : ∀ w ∈ wsL_law0_r17, w ∈ lw_tbl := mem_pos [281, 76, 678, 679, 680, 681, 480, 481, 482, 483, 288, 289, 290, 74, 682, 683, 684, 685, 131, 132, 133, 134, 135, 136] (by decide +kernel)
set_option maxRecDepth 20000 in
theorem wsL_law_in0_r18 : ∀ w ∈ wsL_law0_r18, w ∈ lw_tbl := mem_pos [137, 138, 686, 687, 688, 689, 690, 692, 17, 693, 484, 485, 486, 487, 305, 306, 307, 317, 318, 319, 320, 694, 695, 696] (by decide +kernel)
set_option maxRecDepth 20000 in
theorem wsL_law_in0_r19 : ∀ w ∈ wsL_law0_r19, w ∈ lw_tbl := mem_pos [697, 698, 700, 18, 701, 488, 489, 490, 491, 349, 350, 351, 224, 225, 226, 227, 229, 230, 231, 702, 703, 704, 705, 706] (by decide +kernel)
set_option maxRecDepth 20000 in
theorem wsL_law_in0_r20 : ∀ w ∈ wsL_law0_r20, w ∈ lw_tbl := mem_pos [708, 19, 709, 710, 712, 20, 713, 714, 716, 715, 39, 717, 719, 21, 720, 492, 493, 494, 495, 496, 497, 498, 499, 721] (by decide +kernel)
set_option maxRecDepth 20000 in
theorem wsL_law_in0_r21 : ∀ w ∈ wsL_law0_r21, w ∈ lw_tbl := mem_pos [722, 723, 724, 500, 501, 502, 503, 145, 146, 147, 252, 253, 254, 255, 725, 726, 727, 728, 729, 731, 22, 732, 504, 505] (by decide +kernel)
set_option maxRecDepth 20000 in
theorem wsL_law_in0_r22 : ∀ w ∈ wsL_law0_r22, w ∈ lw_tbl := mem_pos [506, 507, 508, 509, 510, 733, 734, 735, 736, 511, 512, 513, 514, 353, 354, 355, 356, 357, 358, 359, 737, 738, 739, 740] (by decide +kernel)
set_option maxRecDepth 20000 in
theorem wsL_law_in0_r23 : ∀ w ∈ wsL_law0_r23, w ∈ lw_tbl := mem_pos [741, 743, 23, 744, 745, 747, 24, 748, 515, 516, 517, 518, 292, 293, 294, 749, 750, 751, 752, 753, 755, 25, 756, 139] (by decide +kernel)
set_option maxRecDepth 20000 in
theorem wsL_law_in0_r24 : ∀ w ∈ wsL_law0_r24, w ∈ lw_tbl := mem_pos [140, 141, 142, 143, 144, 757, 758, 759, 760, 761, 763, 26, 764, 264, 265, 266, 267, 765, 766, 767, 768, 268, 269, 270] (by decide +kernel)
set_option maxRecDepth 20000 in
theorem wsL_law_in0_r25 : ∀ w ∈ wsL_law0_r25, w ∈ lw_tbl := mem_pos [271, 272, 273, 274, 275, 276, 277, 278, 287, 291, 304, 321, 331, 336, 344, 348, 352, 769, 770, 771, 772, 773, 774] (by decide +kernel)
theorem wsX00_tbl : ∀ w ∈ wsX00, w ∈ lw_tbl := mem_pos [83, 85, 87, 89, 91, 93, 95, 97, 99] (by decide +kernel)
theorem wsX10_tbl : ∀ w ∈ wsX10, w ∈ lw_tbl := mem_pos [105, 107] (by decide +kernel)
theorem wsX20_tbl : ∀ w ∈ wsX20, w ∈ lw_tbl := mem_pos [535, 537, 539, 541, 543, 545, 547, 549, 551, 553] (by decide +kernel)
theorem wsL_law_in0 : ∀ w ∈ wsL_law0, w ∈ lw_tbl := fun w h => (List.mem_append.mp h).elim (fun h => (List.mem_append.mp h).elim (fun h => (List.mem_append.mp h).elim (fun h => (List.mem_append.mp h).elim (fun h => (List.mem_append.mp h).elim (fun h => wsL_law_in0_r1 w h) (fun h => (List.mem_append.mp h).elim (fun h => wsL_law_in0_r2 w h) (fun h => (List.mem_append.mp h).elim (fun h => wsL_law_in0_r3 w h) (fun h => (List.mem_append.mp h).elim (fun h => wsL_law_in0_r4 w h) (fun h => (List.mem_append.mp h).elim (fun h => wsL_law_in0_r5 w h) (fun h => (List.mem_append.mp h).elim (fun h => wsL_law_in0_r6 w h) (fun h => (List.mem_append.mp h).elim (fun h => wsL_law_in0_r7 w h) (fun h => (List.mem_append.mp h).elim (fun h => wsL_law_in0_r8 w h) (fun h => (List.mem_append.mp h).elim (fun h => wsL_law_in0_r9 w h) (fun h => (List.mem_append.mp h).elim (fun h => wsL_law_in0_r10 w h) (fun h => (List.mem_append.mp h).elim (fun h => wsL_law_in0_r11 w h) (fun h => (List.mem_append.mp h).elim (fun h => wsL_law_in0_r12 w h) (fun h => (List.mem_append.mp h).elim (fun h => wsL_law_in0_r13 w h) (fun h => (List.mem_append.mp h).elim (fun h => wsL_law_in0_r14 w h) (fun h => (List.mem_append.mp h).elim (fun h => wsL_law_in0_r15 w h) (fun h => (List.mem_append.mp h).elim (fun h => wsL_law_in0_r16 w h) (fun h => (List.mem_append.mp h).elim (fun h => wsL_law_in0_r17 w h) (fun h => (List.mem_append.mp h).elim (fun h => wsL_law_in0_r18 w h) (fun h => (List.mem_append.mp h).elim (fun h => wsL_law_in0_r19 w h) (fun h => (List.mem_append.mp h).elim (fun h => wsL_law_in0_r20 w h) (fun h => (List.mem_append.mp h).elim (fun h => wsL_law_in0_r21 w h) (fun h => (List.mem_append.mp h).elim (fun h => wsL_law_in0_r22 w h) (fun h => (List.mem_append.mp h).elim (fun h => wsL_law_in0_r23 w h) (fun h => (List.mem_append.mp h).elim (fun h => wsL_law_in0_r24 w h) (fun h => wsL_law_in0_r25 w h))))))))))))))))))))))))) (fun h => wsX10_tbl w h)) (fun h => wsX20_tbl w h)) (fun h => wsX00_tbl w h)) (fun h => absurd h List.not_mem_nil)
theorem wsL_law_x0 : ∀ w ∈ (vx_atS RX1 203 "java/lang/IllegalArgumentException" ["java/lang/RuntimeException", "java/lang/Exception"]).filter goodWord, w ∈ lw_tbl := by decide +kernel
theorem wsL_law_x1 : ∀ w ∈ (vx_atS RX1 191 "java/lang/IndexOutOfBoundsException" ["java/lang/RuntimeException", "java/lang/Exception"]).filter goodWord, w ∈ lw_tbl := by decide +kernel
theorem wsL_law_x2 : ∀ w ∈ (vx_atS RX1 46 "java/lang/IllegalStateException" ["java/lang/RuntimeException", "java/lang/Exception"]).filter goodWord, w ∈ lw_tbl := by decide +kernel
theorem wsL_law_in : ∀ w ∈ wsL_law, w ∈ lw_tbl := fun w h => (List.mem_append.mp h).elim (fun h => (List.mem_append.mp h).elim (fun h => (List.mem_append.mp h).elim (fun h => wsL_law_in0 w h) (fun h => wsL_law_x0 w h)) (fun h => wsL_law_x1 w h)) (fun h => wsL_law_x2 w h)
theorem inlX0 : ∀ w ∈ wsX00, w ∈ wsL_law := fun _ h => List.mem_append_left _ (List.mem_append_left _ (List.mem_append_left _ (List.mem_append_left _ (List.mem_append_right _ h))))
theorem inX0 : ∀ w ∈ wsX00, w ∈ lw_tbl := fun w h => wsL_law_in w (inlX0 w h)
theorem inlX1 : ∀ w ∈ wsX10, w ∈ wsL_law := fun _ h => List.mem_append_left _ (List.mem_append_left _ (List.mem_append_left _ (List.mem_append_left _ (List.mem_append_left _ (List.mem_append_left _ (List.mem_append_right _ h))))))
theorem inX1 : ∀ w ∈ wsX10, w ∈ lw_tbl := fun w h => wsL_law_in w (inlX1 w h)
theorem inlX2 : ∀ w ∈ wsX20, w ∈ wsL_law := fun _ h => List.mem_append_left _ (List.mem_append_left _ (List.mem_append_left _ (List.mem_append_left _ (List.mem_append_left _ (List.mem_append_right _ h)))))
theorem inX2 : ∀ w ∈ wsX20, w ∈ lw_tbl := fun w h => wsL_law_in w (inlX2 w h)
theorem inJx145de : ∀ w ∈ wsJx145de0, w ∈ lw_tbl := by decide +kernel
theorem inJ6 : ∀ w ∈ wsJ60, w ∈ lw_tbl := by decide +kernel
theorem inJ0 : ∀ w ∈ wsJ00, w ∈ lw_tbl := by decide +kernel
theorem inJ10 : ∀ w ∈ wsJ100, w ∈ lw_tbl := by decide +kernel
theorem inJ7 : ∀ w ∈ wsJ70, w ∈ lw_tbl := by decide +kernel

set_option maxRecDepth 20000 in
theorem ggL_law_X1_init : GoodIn wsL_law wsX1_init := goodIn_r _ [9, 10, 11, 12, 13, 14, 15, 16, 17, 18, 19, 20, 21, 22, 23, 24, 25, 26, 27, 28, 29, 30, 31, 32, 33, 34, 35, 36, 37, 38, 39, 40, 41, 42, 43, 44, 2, 45, 611, 612, 613, 614, 615, 616, 617, 618, 619, 599, 600] (by decide +kernel) (by decide +kernel)
set_option maxRecDepth 20000 in
theorem gL_law_X1_init : GoodIn wsL_law (wsX1_init) := ggL_law_X1_init
set_option maxRecDepth 20000 in
theorem ggL_law_X2_init : GoodIn wsL_law wsX2_init := goodIn_r _ [48, 49, 11, 12, 50, 51, 22, 52, 53, 54, 55, 56, 57, 601, 602, 603, 604, 605, 606, 607, 608, 609, 610] (by decide +kernel) (by decide +kernel)
set_option maxRecDepth 20000 in
theorem gL_law_X2_init : GoodIn wsL_law (wsX2_init) := ggL_law_X2_init
set_option maxRecDepth 20000 in
theorem ggL_law_L_lay : GoodIn wsL_law wsL_lay := goodIn_ca (goodIn_r _ [61, 62, 63, 64, 65, 2, 66, 16, 67, 68, 69, 70, 71, 72, 30, 31, 15, 32, 33, 34, 35, 23, 24, 25, 27, 36, 37, 38, 39, 40, 41, 42, 43, 26, 44, 45, 599, 600, 611, 612, 613, 614, 615, 616, 617, 618, 619] (by decide +kernel) (by decide +kernel)) (goodIn_sub (fun _ h => List.mem_append_left _ (List.mem_append_left _ (List.mem_append_right _ h))) (by decide +kernel))
set_option maxRecDepth 20000 in
theorem gL_law_L_lay : GoodIn wsL_law (va_wsS RL 83 yL_lay wsL_lay) := goodIn_app (goodIn_of _ (by decide +kernel)) ggL_law_L_lay
set_option maxRecDepth 20000 in
theorem ggL_law_X2_lay : GoodIn wsL_law wsX2_lay := goodIn_r _ [76, 77, 50, 51, 52, 55, 54, 78, 79, 5, 80, 81, 82, 83, 84, 601, 602, 603, 604, 605, 606, 607, 608, 609, 610] (by decide +kernel) (by decide +kernel)
set_option maxRecDepth 20000 in
theorem gL_law_X2_lay : GoodIn wsL_law (wsV RL 88 RX2 yX2_lay wsX2_lay) := goodIn_app (goodIn_of _ (by decide +kernel)) ggL_law_X2_lay
set_option maxRecDepth 20000 in
theorem ggL_law_X2_thrown : GoodIn wsL_law wsX2_thrown := goodIn_r _ [88, 77, 601, 602, 603, 604, 605, 606, 607, 608, 609, 610] (by decide +kernel) (by decide +kernel)
set_option maxRecDepth 20000 in
theorem gL_law_X2_thrown : GoodIn wsL_law (wsV RL 89 RX2 yX2_thrown wsX2_thrown) := goodIn_app (goodIn_of _ (by decide +kernel)) ggL_law_X2_thrown
set_option maxRecDepth 20000 in
theorem ggL_law_L_put : GoodIn wsL_law wsL_put := goodIn_ca (goodIn_ca (goodIn_r _ [91, 92, 62, 93, 94, 95, 2, 96, 16, 97, 98, 99, 100, 101, 102, 103, 104, 105, 106, 107, 108, 109, 15, 110, 34, 111, 112, 113, 114, 115, 116, 117, 118, 33, 67, 68, 69, 70, 71, 119, 120, 121, 122, 23, 24, 25, 123, 124, 125, 126, 127, 128, 129, 130, 131, 132, 44, 45, 599, 600, 611, 612, 613, 614, 615, 616, 617, 618, 619] (by decide +kernel) (by decide +kernel)) (goodIn_sub (fun _ h => List.mem_append_left _ (List.mem_append_right _ h)) (by decide +kernel))) (goodIn_sub (fun _ h => List.mem_append_left _ (List.mem_append_left _ (List.mem_append_right _ h))) (by decide +kernel))
set_option maxRecDepth 20000 in
theorem gL_law_L_put : GoodIn wsL_law (va_wsS RL 93 yL_put wsL_put) := goodIn_app (goodIn_of _ (by decide +kernel)) ggL_law_L_put
set_option maxRecDepth 20000 in
theorem ggL_law_X2_put : GoodIn wsL_law wsX2_put := goodIn_r _ [136, 77, 137, 138, 139, 5, 140, 141, 142, 143, 144, 51, 78, 79, 80, 145, 146, 147, 148, 50, 81, 82, 83, 84, 149, 150, 151, 152, 52, 55, 601, 602, 603, 604, 605, 606, 607, 608, 609, 610] (by decide +kernel) (by decide +kernel)
set_option maxRecDepth 20000 in
theorem gL_law_X2_put : GoodIn wsL_law (wsV RL 96 RX2 yX2_put wsX2_put) := goodIn_app (goodIn_of _ (by decide +kernel)) ggL_law_X2_put
set_option maxRecDepth 20000 in
theorem ggL_law_L_putCounter : GoodIn wsL_law wsL_putCounter := goodIn_ca (goodIn_ca (goodIn_r _ [155, 92, 62, 156, 157, 158, 2, 159, 16, 97, 98, 99, 100, 101, 102, 103, 104, 105, 106, 107, 108, 109, 15, 110, 34, 111, 112, 113, 114, 115, 116, 117, 118, 33, 67, 68, 69, 70, 71, 119, 120, 121, 122, 23, 24, 25, 123, 124, 125, 126, 127, 128, 129, 130, 131, 132, 44, 45, 599, 600, 611, 612, 613, 614, 615, 616, 617, 618, 619] (by decide +kernel) (by decide +kernel)) (goodIn_sub (fun _ h => List.mem_append_left _ (List.mem_append_right _ h)) (by decide +kernel))) (goodIn_sub (fun _ h => List.mem_append_left _ (List.mem_append_left _ (List.mem_append_right _ h))) (by decide +kernel))
set_option maxRecDepth 20000 in
theorem gL_law_L_putCounter : GoodIn wsL_law (va_wsS RL 97 yL_putCounter wsL_putCounter) := goodIn_app (goodIn_of _ (by decide +kernel)) ggL_law_L_putCounter
set_option maxRecDepth 20000 in
theorem ggL_law_X2_putCounter : GoodIn wsL_law wsX2_putCounter := goodIn_r _ [163, 77, 53, 137, 138, 139, 5, 140, 141, 142, 143, 144, 51, 78, 79, 80, 145, 146, 147, 148, 50, 81, 82, 83, 84, 149, 150, 151, 152, 52, 55, 601, 602, 603, 604, 605, 606, 607, 608, 609, 610] (by decide +kernel) (by decide +kernel)
set_option maxRecDepth 20000 in
theorem gL_law_X2_putCounter : GoodIn wsL_law (wsV RL 99 RX2 yX2_putCounter wsX2_putCounter) := goodIn_app (goodIn_of _ (by decide +kernel)) ggL_law_X2_putCounter
set_option maxRecDepth 20000 in
theorem ggL_law_L_turn : GoodIn wsL_law wsL_turn := goodIn_ca (goodIn_ca (goodIn_r _ [166, 92, 167, 168, 169, 170, 2, 171, 172, 173, 16, 97, 98, 99, 100, 101, 102, 103, 104, 105, 106, 107, 108, 109, 15, 110, 34, 111, 112, 113, 114, 115, 116, 117, 118, 33, 174, 124, 125, 126, 175, 128, 129, 130, 23, 131, 132, 176, 177, 178, 179, 25, 180, 181, 182, 183, 127, 44, 45, 184, 599, 600, 611, 612, 613, 614, 615, 616, 617, 618, 619] (by decide +kernel) (by decide +kernel)) (goodIn_sub (fun _ h => List.mem_append_right _ h) (by decide +kernel))) (goodIn_sub (fun _ h => List.mem_append_left _ (List.mem_append_right _ h)) (by decide +kernel))
set_option maxRecDepth 20000 in
theorem gL_law_L_turn : GoodIn wsL_law (va_wsS RL 100 yL_turn wsL_turn) := goodIn_app (goodIn_of _ (by decide +kernel)) ggL_law_L_turn
set_option maxRecDepth 20000 in
theorem ggL_law_X2_turn : GoodIn wsL_law wsX2_turn := goodIn_r _ [188, 77, 52, 55, 137, 138, 139, 5, 140, 141, 142, 143, 144, 51, 78, 79, 80, 145, 146, 147, 148, 50, 189, 190, 191, 192, 601, 602, 603, 604, 605, 606, 607, 608, 609, 610] (by decide +kernel) (by decide +kernel)
set_option maxRecDepth 20000 in
theorem gL_law_X2_turn : GoodIn wsL_law (wsV RL 102 RX2 yX2_turn wsX2_turn) := goodIn_app (goodIn_of _ (by decide +kernel)) ggL_law_X2_turn
set_option maxRecDepth 20000 in
theorem ggL_law_L_setHopper : GoodIn wsL_law wsL_setHopper := goodIn_ca (goodIn_ca (goodIn_r _ [195, 92, 62, 196, 197, 198, 2, 199, 16, 200, 201, 202, 105, 106, 111, 112, 113, 114, 115, 116, 117, 15, 118, 33, 67, 68, 69, 70, 71, 203, 204, 205, 206, 28, 27, 131, 132, 44, 45, 599, 600, 611, 612, 613, 614, 615, 616, 617, 618, 619] (by decide +kernel) (by decide +kernel)) (goodIn_sub (fun _ h => List.mem_append_left _ (List.mem_append_right _ h)) (by decide +kernel))) (goodIn_sub (fun _ h => List.mem_append_left _ (List.mem_append_left _ (List.mem_append_right _ h))) (by decide +kernel))
set_option maxRecDepth 20000 in
theorem gL_law_L_setHopper : GoodIn wsL_law (va_wsS RL 103 yL_setHopper wsL_setHopper) := goodIn_app (goodIn_of _ (by decide +kernel)) ggL_law_L_setHopper
set_option maxRecDepth 20000 in
theorem ggL_law_X2_setHopper : GoodIn wsL_law wsX2_setHopper := goodIn_r _ [210, 77, 55, 54, 78, 79, 5, 80, 145, 146, 147, 148, 50, 81, 82, 83, 84, 601, 602, 603, 604, 605, 606, 607, 608, 609, 610] (by decide +kernel) (by decide +kernel)
set_option maxRecDepth 20000 in
theorem gL_law_X2_setHopper : GoodIn wsL_law (wsV RL 105 RX2 yX2_setHopper wsX2_setHopper) := goodIn_app (goodIn_of _ (by decide +kernel)) ggL_law_X2_setHopper
set_option maxRecDepth 20000 in
theorem ggL_law_L_drop : GoodIn wsL_law wsL_drop := goodIn_ca (goodIn_r _ [213, 92, 214, 215, 216, 2, 217, 16, 111, 112, 113, 114, 105, 106, 115, 116, 117, 15, 118, 33, 218, 219, 220, 221, 34, 35, 26, 222, 223, 224, 225, 123, 124, 125, 126, 226, 227, 228, 229, 23, 25, 24, 131, 132, 44, 45, 230, 599, 600, 611, 612, 613, 614, 615, 616, 617, 618, 619] (by decide +kernel) (by decide +kernel)) (goodIn_sub (fun _ h => List.mem_append_left _ (List.mem_append_right _ h)) (by decide +kernel))
set_option maxRecDepth 20000 in
theorem gL_law_L_drop : GoodIn wsL_law (va_wsS RL 106 yL_drop wsL_drop) := goodIn_app (goodIn_of _ (by decide +kernel)) ggL_law_L_drop
set_option maxRecDepth 20000 in
theorem ggL_law_X2_drop : GoodIn wsL_law wsX2_drop := goodIn_r _ [234, 77, 145, 146, 147, 5, 148, 50, 78, 79, 80, 235, 236, 237, 238, 239, 57, 51, 55, 240, 241, 242, 243, 52, 53, 81, 82, 83, 84, 601, 602, 603, 604, 605, 606, 607, 608, 609, 610] (by decide +kernel) (by decide +kernel)
set_option maxRecDepth 20000 in
theorem gL_law_X2_drop : GoodIn wsL_law (wsV RL 109 RX2 yX2_drop wsX2_drop) := goodIn_app (goodIn_of _ (by decide +kernel)) ggL_law_X2_drop
set_option maxRecDepth 20000 in
theorem ggL_law_L_run : GoodIn wsL_law wsL_run := goodIn_ca (goodIn_ca (goodIn_r _ [246, 92, 62, 247, 248, 249, 2, 250, 16, 200, 201, 202, 105, 106, 67, 68, 69, 70, 71, 251, 252, 253, 15, 254, 28, 27, 131, 132, 44, 45, 255, 219, 220, 221, 34, 35, 26, 222, 223, 224, 225, 123, 124, 125, 126, 33, 226, 227, 228, 229, 23, 25, 24, 230, 116, 117, 118, 256, 257, 258, 259, 599, 600, 611, 612, 613, 614, 615, 616, 617, 618, 619] (by decide +kernel) (by decide +kernel)) (goodIn_sub (fun _ h => List.mem_append_left _ (List.mem_append_right _ h)) (by decide +kernel))) (goodIn_sub (fun _ h => List.mem_append_left _ (List.mem_append_left _ (List.mem_append_right _ h))) (by decide +kernel))
set_option maxRecDepth 20000 in
theorem gL_law_L_run : GoodIn wsL_law (va_wsS RL 110 yL_run wsL_run) := goodIn_app (goodIn_of _ (by decide +kernel)) ggL_law_L_run
set_option maxRecDepth 20000 in
theorem ggL_law_X2_run : GoodIn wsL_law wsX2_run := goodIn_r _ [263, 77, 78, 79, 5, 80, 81, 82, 83, 84, 264, 265, 266, 267, 55, 54, 50, 235, 236, 237, 238, 239, 57, 51, 240, 241, 242, 243, 52, 53, 145, 146, 147, 148, 268, 269, 270, 271, 601, 602, 603, 604, 605, 606, 607, 608, 609, 610] (by decide +kernel) (by decide +kernel)
set_option maxRecDepth 20000 in
theorem gL_law_X2_run : GoodIn wsL_law (wsV RL 112 RX2 yX2_run wsX2_run) := goodIn_app (goodIn_of _ (by decide +kernel)) ggL_law_X2_run
set_option maxRecDepth 20000 in
theorem ggL_law_X1_emptyBins : GoodIn wsL_law wsX1_emptyBins := goodIn_r _ [275, 16, 276, 277, 278, 15, 279, 26, 280, 41, 42, 43, 36, 37, 38, 39, 599, 600, 611, 612, 613, 614, 615, 616, 617, 618, 619] (by decide +kernel) (by decide +kernel)
set_option maxRecDepth 20000 in
theorem gL_law_X1_emptyBins : GoodIn wsL_law (wsV RL 113 RX1 yX1_emptyBins wsX1_emptyBins) := goodIn_app (goodIn_of _ (by decide +kernel)) ggL_law_X1_emptyBins
set_option maxRecDepth 20000 in
theorem ggL_law_X2_emptyBins : GoodIn wsL_law wsX2_emptyBins := goodIn_r _ [284, 50, 55, 285, 286, 287, 5, 288, 289, 290, 291, 292, 77, 601, 602, 603, 604, 605, 606, 607, 608, 609, 610] (by decide +kernel) (by decide +kernel)
set_option maxRecDepth 20000 in
theorem gL_law_X2_emptyBins : GoodIn wsL_law (wsV RL 116 RX2 yX2_emptyBins wsX2_emptyBins) := goodIn_app (goodIn_of _ (by decide +kernel)) ggL_law_X2_emptyBins
set_option maxRecDepth 20000 in
theorem ggL_law_X1_columns : GoodIn wsL_law wsX1_columns := goodIn_r _ [296, 16, 297, 599, 600, 611, 612, 613, 614, 615, 616, 617, 618, 619] (by decide +kernel) (by decide +kernel)
set_option maxRecDepth 20000 in
theorem gL_law_X1_columns : GoodIn wsL_law (wsV RL 117 RX1 yX1_columns wsX1_columns) := goodIn_app (goodIn_of _ (by decide +kernel)) ggL_law_X1_columns
set_option maxRecDepth 20000 in
theorem ggL_law_X2_columns : GoodIn wsL_law wsX2_columns := goodIn_r _ [301, 50, 289, 290, 291, 5, 292, 77, 601, 602, 603, 604, 605, 606, 607, 608, 609, 610] (by decide +kernel) (by decide +kernel)
set_option maxRecDepth 20000 in
theorem gL_law_X2_columns : GoodIn wsL_law (wsV RL 120 RX2 yX2_columns wsX2_columns) := goodIn_app (goodIn_of _ (by decide +kernel)) ggL_law_X2_columns
set_option maxRecDepth 20000 in
theorem ggL_law_X1_rows : GoodIn wsL_law wsX1_rows := goodIn_r _ [305, 16, 306, 599, 600, 611, 612, 613, 614, 615, 616, 617, 618, 619] (by decide +kernel) (by decide +kernel)
set_option maxRecDepth 20000 in
theorem gL_law_X1_rows : GoodIn wsL_law (wsV RL 121 RX1 yX1_rows wsX1_rows) := goodIn_app (goodIn_of _ (by decide +kernel)) ggL_law_X1_rows
set_option maxRecDepth 20000 in
theorem ggL_law_X2_rows : GoodIn wsL_law wsX2_rows := goodIn_r _ [310, 51, 289, 290, 291, 5, 292, 77, 601, 602, 603, 604, 605, 606, 607, 608, 609, 610] (by decide +kernel) (by decide +kernel)
set_option maxRecDepth 20000 in
theorem gL_law_X2_rows : GoodIn wsL_law (wsV RL 124 RX2 yX2_rows wsX2_rows) := goodIn_app (goodIn_of _ (by decide +kernel)) ggL_law_X2_rows
set_option maxRecDepth 20000 in
theorem ggL_law_L_partAt : GoodIn wsL_law wsL_partAt := goodIn_ca (goodIn_r _ [313, 92, 314, 315, 316, 2, 317, 16, 97, 98, 99, 100, 101, 102, 103, 104, 105, 106, 107, 108, 109, 15, 110, 34, 111, 112, 113, 114, 115, 116, 117, 118, 33, 174, 124, 125, 126, 175, 128, 129, 130, 23, 131, 132, 599, 600, 611, 612, 613, 614, 615, 616, 617, 618, 619] (by decide +kernel) (by decide +kernel)) (goodIn_sub (fun _ h => List.mem_append_left _ (List.mem_append_right _ h)) (by decide +kernel))
set_option maxRecDepth 20000 in
theorem gL_law_L_partAt : GoodIn wsL_law (va_wsS RL 125 yL_partAt wsL_partAt) := goodIn_app (goodIn_of _ (by decide +kernel)) ggL_law_L_partAt
set_option maxRecDepth 20000 in
theorem ggL_law_X2_partAt : GoodIn wsL_law wsX2_partAt := goodIn_r _ [321, 77, 52, 137, 138, 139, 5, 140, 141, 142, 143, 144, 51, 78, 79, 80, 145, 146, 147, 148, 50, 81, 82, 83, 84, 601, 602, 603, 604, 605, 606, 607, 608, 609, 610] (by decide +kernel) (by decide +kernel)
set_option maxRecDepth 20000 in
theorem gL_law_X2_partAt : GoodIn wsL_law (wsV RL 127 RX2 yX2_partAt wsX2_partAt) := goodIn_app (goodIn_of _ (by decide +kernel)) ggL_law_X2_partAt
set_option maxRecDepth 20000 in
theorem ggL_law_L_leadsRight : GoodIn wsL_law wsL_leadsRight := goodIn_ca (goodIn_r _ [324, 92, 325, 326, 327, 2, 328, 16, 97, 98, 99, 100, 101, 102, 103, 104, 105, 106, 107, 108, 109, 15, 110, 34, 111, 112, 113, 114, 115, 116, 117, 118, 33, 174, 124, 125, 126, 184, 181, 182, 183, 25, 127, 128, 129, 130, 23, 131, 132, 599, 600, 611, 612, 613, 614, 615, 616, 617, 618, 619] (by decide +kernel) (by decide +kernel)) (goodIn_sub (fun _ h => List.mem_append_left _ (List.mem_append_right _ h)) (by decide +kernel))
set_option maxRecDepth 20000 in
theorem gL_law_L_leadsRight : GoodIn wsL_law (va_wsS RL 128 yL_leadsRight wsL_leadsRight) := goodIn_app (goodIn_of _ (by decide +kernel)) ggL_law_L_leadsRight
set_option maxRecDepth 20000 in
theorem ggL_law_X2_leadsRight : GoodIn wsL_law wsX2_leadsRight := goodIn_r _ [332, 77, 137, 138, 139, 5, 140, 141, 142, 143, 144, 51, 78, 79, 80, 145, 146, 147, 148, 50, 333, 334, 335, 336, 52, 55, 189, 190, 191, 192, 601, 602, 603, 604, 605, 606, 607, 608, 609, 610] (by decide +kernel) (by decide +kernel)
set_option maxRecDepth 20000 in
theorem gL_law_X2_leadsRight : GoodIn wsL_law (wsV RL 130 RX2 yX2_leadsRight wsX2_leadsRight) := goodIn_app (goodIn_of _ (by decide +kernel)) ggL_law_X2_leadsRight
set_option maxRecDepth 20000 in
theorem ggL_law_L_countAt : GoodIn wsL_law wsL_countAt := goodIn_ca (goodIn_r _ [339, 92, 340, 341, 342, 2, 343, 16, 97, 98, 99, 100, 101, 102, 103, 104, 105, 106, 107, 108, 109, 15, 110, 34, 111, 112, 113, 114, 115, 116, 117, 118, 33, 174, 124, 125, 126, 344, 345, 346, 347, 25, 127, 128, 129, 130, 23, 131, 132, 599, 600, 611, 612, 613, 614, 615, 616, 617, 618, 619] (by decide +kernel) (by decide +kernel)) (goodIn_sub (fun _ h => List.mem_append_left _ (List.mem_append_right _ h)) (by decide +kernel))
set_option maxRecDepth 20000 in
theorem gL_law_L_countAt : GoodIn wsL_law (va_wsS RL 131 yL_countAt wsL_countAt) := goodIn_app (goodIn_of _ (by decide +kernel)) ggL_law_L_countAt
set_option maxRecDepth 20000 in
theorem ggL_law_X2_countAt : GoodIn wsL_law wsX2_countAt := goodIn_r _ [351, 77, 137, 138, 139, 5, 140, 141, 142, 143, 144, 51, 78, 79, 80, 145, 146, 147, 148, 50, 352, 353, 354, 355, 52, 55, 81, 82, 83, 84, 601, 602, 603, 604, 605, 606, 607, 608, 609, 610] (by decide +kernel) (by decide +kernel)
set_option maxRecDepth 20000 in
theorem gL_law_X2_countAt : GoodIn wsL_law (wsV RL 133 RX2 yX2_countAt wsX2_countAt) := goodIn_app (goodIn_of _ (by decide +kernel)) ggL_law_X2_countAt
set_option maxRecDepth 20000 in
theorem ggL_law_L_binOf : GoodIn wsL_law wsL_binOf := goodIn_ca (goodIn_r _ [358, 92, 359, 360, 361, 2, 362, 16, 363, 111, 112, 113, 114, 105, 106, 115, 116, 117, 15, 118, 33, 364, 131, 132, 599, 600, 611, 612, 613, 614, 615, 616, 617, 618, 619] (by decide +kernel) (by decide +kernel)) (goodIn_sub (fun _ h => List.mem_append_left _ (List.mem_append_right _ h)) (by decide +kernel))
set_option maxRecDepth 20000 in
theorem gL_law_L_binOf : GoodIn wsL_law (va_wsS RL 134 yL_binOf wsL_binOf) := goodIn_app (goodIn_of _ (by decide +kernel)) ggL_law_L_binOf
set_option maxRecDepth 20000 in
theorem ggL_law_X2_binOf : GoodIn wsL_law wsX2_binOf := goodIn_r _ [368, 77, 55, 145, 146, 147, 5, 148, 50, 78, 79, 80, 81, 82, 83, 84, 601, 602, 603, 604, 605, 606, 607, 608, 609, 610] (by decide +kernel) (by decide +kernel)
set_option maxRecDepth 20000 in
theorem gL_law_X2_binOf : GoodIn wsL_law (wsV RL 136 RX2 yX2_binOf wsX2_binOf) := goodIn_app (goodIn_of _ (by decide +kernel)) ggL_law_X2_binOf
set_option maxRecDepth 20000 in
theorem ggL_law_X1_lost : GoodIn wsL_law wsX1_lost := goodIn_r _ [372, 16, 373, 599, 600, 611, 612, 613, 614, 615, 616, 617, 618, 619] (by decide +kernel) (by decide +kernel)
set_option maxRecDepth 20000 in
theorem gL_law_X1_lost : GoodIn wsL_law (wsV RL 137 RX1 yX1_lost wsX1_lost) := goodIn_app (goodIn_of _ (by decide +kernel)) ggL_law_X1_lost
set_option maxRecDepth 20000 in
theorem ggL_law_X2_lost : GoodIn wsL_law wsX2_lost := goodIn_r _ [377, 55, 289, 290, 291, 5, 292, 77, 601, 602, 603, 604, 605, 606, 607, 608, 609, 610] (by decide +kernel) (by decide +kernel)
set_option maxRecDepth 20000 in
theorem gL_law_X2_lost : GoodIn wsL_law (wsV RL 140 RX2 yX2_lost wsX2_lost) := goodIn_app (goodIn_of _ (by decide +kernel)) ggL_law_X2_lost
set_option maxRecDepth 20000 in
theorem ggL_law_L_marblesIn : GoodIn wsL_law wsL_marblesIn := goodIn_ca (goodIn_r _ [380, 92, 381, 382, 383, 2, 384, 16, 385, 200, 201, 202, 105, 106, 364, 131, 132, 599, 600, 611, 612, 613, 614, 615, 616, 617, 618, 619] (by decide +kernel) (by decide +kernel)) (goodIn_sub (fun _ h => List.mem_append_left _ (List.mem_append_right _ h)) (by decide +kernel))
set_option maxRecDepth 20000 in
theorem gL_law_L_marblesIn : GoodIn wsL_law (va_wsS RL 141 yL_marblesIn wsL_marblesIn) := goodIn_app (goodIn_of _ (by decide +kernel)) ggL_law_L_marblesIn
set_option maxRecDepth 20000 in
theorem ggL_law_X2_marblesIn : GoodIn wsL_law wsX2_marblesIn := goodIn_r _ [389, 77, 55, 78, 79, 5, 80, 81, 82, 83, 84, 601, 602, 603, 604, 605, 606, 607, 608, 609, 610] (by decide +kernel) (by decide +kernel)
set_option maxRecDepth 20000 in
theorem gL_law_X2_marblesIn : GoodIn wsL_law (wsV RL 143 RX2 yX2_marblesIn wsX2_marblesIn) := goodIn_app (goodIn_of _ (by decide +kernel)) ggL_law_X2_marblesIn
set_option maxRecDepth 20000 in
theorem ggL_law_L_columnOf : GoodIn wsL_law wsL_columnOf := goodIn_ca (goodIn_r _ [392, 92, 393, 394, 395, 2, 396, 16, 397, 200, 201, 202, 105, 106, 364, 131, 132, 599, 600, 611, 612, 613, 614, 615, 616, 617, 618, 619] (by decide +kernel) (by decide +kernel)) (goodIn_sub (fun _ h => List.mem_append_left _ (List.mem_append_right _ h)) (by decide +kernel))
set_option maxRecDepth 20000 in
theorem gL_law_L_columnOf : GoodIn wsL_law (va_wsS RL 144 yL_columnOf wsL_columnOf) := goodIn_app (goodIn_of _ (by decide +kernel)) ggL_law_L_columnOf
set_option maxRecDepth 20000 in
theorem ggL_law_X2_columnOf : GoodIn wsL_law wsX2_columnOf := goodIn_r _ [401, 77, 54, 78, 79, 5, 80, 81, 82, 83, 84, 601, 602, 603, 604, 605, 606, 607, 608, 609, 610] (by decide +kernel) (by decide +kernel)
set_option maxRecDepth 20000 in
theorem gL_law_X2_columnOf : GoodIn wsL_law (wsV RL 146 RX2 yX2_columnOf wsX2_columnOf) := goodIn_app (goodIn_of _ (by decide +kernel)) ggL_law_X2_columnOf
set_option maxRecDepth 20000 in
theorem ggL_law_X1_toggles : GoodIn wsL_law wsX1_toggles := goodIn_r _ [405, 16, 406, 407, 408, 15, 409, 23, 599, 600, 611, 612, 613, 614, 615, 616, 617, 618, 619] (by decide +kernel) (by decide +kernel)
set_option maxRecDepth 20000 in
theorem gL_law_X1_toggles : GoodIn wsL_law (wsV RL 147 RX1 yX1_toggles wsX1_toggles) := goodIn_app (goodIn_of _ (by decide +kernel)) ggL_law_X1_toggles
set_option maxRecDepth 20000 in
theorem ggL_law_X2_toggles : GoodIn wsL_law wsX2_toggles := goodIn_r _ [413, 414, 415, 416, 5, 417, 52, 289, 290, 291, 292, 77, 601, 602, 603, 604, 605, 606, 607, 608, 609, 610] (by decide +kernel) (by decide +kernel)
set_option maxRecDepth 20000 in
theorem gL_law_X2_toggles : GoodIn wsL_law (wsV RL 150 RX2 yX2_toggles wsX2_toggles) := goodIn_app (goodIn_of _ (by decide +kernel)) ggL_law_X2_toggles
set_option maxRecDepth 20000 in
theorem ggL_law_L_numberIn : GoodIn wsL_law wsL_numberIn := goodIn_ca (goodIn_r _ [420, 92, 421, 422, 423, 2, 424, 16, 101, 102, 103, 104, 105, 106, 107, 108, 109, 15, 110, 34, 425, 426, 427, 428, 33, 123, 124, 125, 126, 127, 128, 129, 130, 23, 131, 132, 180, 181, 182, 183, 25, 599, 600, 611, 612, 613, 614, 615, 616, 617, 618, 619] (by decide +kernel) (by decide +kernel)) (goodIn_sub (fun _ h => List.mem_append_left _ (List.mem_append_right _ h)) (by decide +kernel))
set_option maxRecDepth 20000 in
theorem gL_law_L_numberIn : GoodIn wsL_law (va_wsS RL 151 yL_numberIn wsL_numberIn) := goodIn_app (goodIn_of _ (by decide +kernel)) ggL_law_L_numberIn
set_option maxRecDepth 20000 in
theorem ggL_law_X2_numberIn : GoodIn wsL_law wsX2_numberIn := goodIn_r _ [432, 77, 141, 142, 143, 5, 144, 51, 78, 79, 80, 433, 434, 435, 436, 50, 52, 333, 334, 335, 336, 55, 81, 82, 83, 84, 601, 602, 603, 604, 605, 606, 607, 608, 609, 610] (by decide +kernel) (by decide +kernel)
set_option maxRecDepth 20000 in
theorem gL_law_X2_numberIn : GoodIn wsL_law (wsV RL 153 RX2 yX2_numberIn wsX2_numberIn) := goodIn_app (goodIn_of _ (by decide +kernel)) ggL_law_X2_numberIn
set_option maxRecDepth 20000 in
theorem ggL_law_L_wouldLand : GoodIn wsL_law wsL_wouldLand := goodIn_ca (goodIn_r _ [439, 92, 440, 441, 442, 2, 443, 17, 16, 111, 112, 113, 114, 105, 106, 115, 116, 117, 15, 118, 33, 444, 445, 446, 447, 34, 35, 23, 24, 25, 26, 27, 28, 448, 449, 450, 44, 45, 218, 219, 220, 221, 222, 223, 224, 225, 123, 124, 125, 126, 226, 227, 228, 229, 131, 132, 230, 599, 600, 611, 612, 613, 614, 615, 616, 617, 618, 619] (by decide +kernel) (by decide +kernel)) (goodIn_sub (fun _ h => List.mem_append_left _ (List.mem_append_right _ h)) (by decide +kernel))
set_option maxRecDepth 20000 in
theorem gL_law_L_wouldLand : GoodIn wsL_law (va_wsS RL 154 yL_wouldLand wsL_wouldLand) := goodIn_app (goodIn_of _ (by decide +kernel)) ggL_law_L_wouldLand
set_option maxRecDepth 20000 in
theorem ggL_law_X2_wouldLand : GoodIn wsL_law wsX2_wouldLand := goodIn_r _ [454, 77, 145, 146, 147, 5, 148, 50, 78, 79, 80, 455, 456, 457, 458, 459, 460, 461, 462, 55, 56, 463, 464, 465, 466, 235, 236, 237, 238, 239, 57, 51, 240, 241, 242, 243, 52, 53, 467, 468, 469, 470, 81, 82, 83, 84, 601, 602, 603, 604, 605, 606, 607, 608, 609, 610] (by decide +kernel) (by decide +kernel)
set_option maxRecDepth 20000 in
theorem gL_law_X2_wouldLand : GoodIn wsL_law (wsV RL 156 RX2 yX2_wouldLand wsX2_wouldLand) := goodIn_app (goodIn_of _ (by decide +kernel)) ggL_law_X2_wouldLand
set_option maxRecDepth 20000 in
theorem ggL_law_L_wouldBeIn : GoodIn wsL_law wsL_wouldBeIn := goodIn_ca (goodIn_r _ [473, 92, 474, 475, 476, 2, 477, 17, 16, 111, 112, 113, 114, 105, 106, 115, 116, 117, 15, 118, 33, 101, 102, 103, 104, 107, 108, 109, 110, 34, 444, 445, 446, 447, 35, 23, 24, 25, 26, 27, 28, 448, 449, 450, 44, 45, 478, 223, 224, 225, 123, 124, 125, 126, 226, 227, 228, 229, 131, 132, 230, 599, 600, 611, 612, 613, 614, 615, 616, 617, 618, 619] (by decide +kernel) (by decide +kernel)) (goodIn_sub (fun _ h => List.mem_append_left _ (List.mem_append_right _ h)) (by decide +kernel))
set_option maxRecDepth 20000 in
theorem gL_law_L_wouldBeIn : GoodIn wsL_law (va_wsS RL 157 yL_wouldBeIn wsL_wouldBeIn) := goodIn_app (goodIn_of _ (by decide +kernel)) ggL_law_L_wouldBeIn
set_option maxRecDepth 20000 in
theorem ggL_law_X2_wouldBeIn : GoodIn wsL_law wsX2_wouldBeIn := goodIn_r _ [482, 77, 57, 145, 146, 147, 5, 148, 50, 78, 79, 80, 141, 142, 143, 144, 51, 81, 82, 83, 84, 455, 456, 457, 458, 459, 460, 461, 462, 55, 56, 463, 464, 465, 466, 235, 236, 237, 238, 239, 240, 241, 242, 243, 52, 53, 467, 468, 469, 470, 601, 602, 603, 604, 605, 606, 607, 608, 609, 610] (by decide +kernel) (by decide +kernel)
set_option maxRecDepth 20000 in
theorem gL_law_X2_wouldBeIn : GoodIn wsL_law (wsV RL 159 RX2 yX2_wouldBeIn wsX2_wouldBeIn) := goodIn_app (goodIn_of _ (by decide +kernel)) ggL_law_X2_wouldBeIn
set_option maxRecDepth 20000 in
theorem ggL_law_L_wouldTurn : GoodIn wsL_law wsL_wouldTurn := goodIn_ca (goodIn_r _ [485, 92, 486, 487, 488, 2, 489, 17, 16, 111, 112, 113, 114, 105, 106, 115, 116, 117, 15, 118, 33, 444, 445, 446, 447, 34, 35, 23, 24, 25, 26, 27, 28, 448, 449, 450, 44, 45, 218, 219, 220, 221, 222, 223, 224, 225, 123, 124, 125, 126, 226, 227, 228, 229, 131, 132, 230, 490, 491, 492, 493, 180, 181, 182, 183, 127, 128, 129, 130, 599, 600, 611, 612, 613, 614, 615, 616, 617, 618, 619] (by decide +kernel) (by decide +kernel)) (goodIn_sub (fun _ h => List.mem_append_left _ (List.mem_append_right _ h)) (by decide +kernel))
set_option maxRecDepth 20000 in
theorem gL_law_L_wouldTurn : GoodIn wsL_law (va_wsS RL 160 yL_wouldTurn wsL_wouldTurn) := goodIn_app (goodIn_of _ (by decide +kernel)) ggL_law_L_wouldTurn
set_option maxRecDepth 20000 in
theorem ggL_law_X2_wouldTurn : GoodIn wsL_law wsX2_wouldTurn := goodIn_r _ [497, 77, 145, 146, 147, 5, 148, 50, 78, 79, 80, 498, 499, 500, 501, 239, 455, 456, 457, 458, 459, 460, 461, 462, 55, 56, 463, 464, 465, 466, 235, 236, 237, 238, 57, 51, 240, 241, 242, 243, 52, 53, 467, 468, 469, 470, 81, 82, 83, 84, 601, 602, 603, 604, 605, 606, 607, 608, 609, 610] (by decide +kernel) (by decide +kernel)
set_option maxRecDepth 20000 in
theorem gL_law_X2_wouldTurn : GoodIn wsL_law (wsV RL 162 RX2 yX2_wouldTurn wsX2_wouldTurn) := goodIn_app (goodIn_of _ (by decide +kernel)) ggL_law_X2_wouldTurn
set_option maxRecDepth 20000 in
theorem ggL_law_L_lastLands : GoodIn wsL_law wsL_lastLands := goodIn_ca (goodIn_ca (goodIn_r _ [504, 92, 62, 505, 506, 507, 2, 508, 17, 16, 111, 112, 113, 114, 105, 106, 115, 116, 117, 15, 118, 33, 67, 68, 69, 70, 71, 444, 445, 446, 447, 34, 35, 23, 24, 25, 26, 27, 28, 448, 449, 450, 44, 45, 218, 219, 220, 221, 222, 223, 224, 225, 123, 124, 125, 126, 226, 227, 228, 229, 131, 132, 230, 599, 600, 611, 612, 613, 614, 615, 616, 617, 618, 619] (by decide +kernel) (by decide +kernel)) (goodIn_sub (fun _ h => List.mem_append_left _ (List.mem_append_right _ h)) (by decide +kernel))) (goodIn_sub (fun _ h => List.mem_append_left _ (List.mem_append_left _ (List.mem_append_right _ h))) (by decide +kernel))
set_option maxRecDepth 20000 in
theorem gL_law_L_lastLands : GoodIn wsL_law (va_wsS RL 163 yL_lastLands wsL_lastLands) := goodIn_app (goodIn_of _ (by decide +kernel)) ggL_law_L_lastLands
set_option maxRecDepth 20000 in
theorem ggL_law_X2_lastLands : GoodIn wsL_law wsX2_lastLands := goodIn_r _ [512, 77, 145, 146, 147, 5, 148, 50, 78, 79, 80, 81, 82, 83, 84, 455, 456, 457, 458, 459, 460, 461, 462, 55, 56, 463, 464, 465, 466, 235, 236, 237, 238, 239, 57, 51, 240, 241, 242, 243, 52, 53, 467, 468, 469, 470, 601, 602, 603, 604, 605, 606, 607, 608, 609, 610] (by decide +kernel) (by decide +kernel)
set_option maxRecDepth 20000 in
theorem gL_law_X2_lastLands : GoodIn wsL_law (wsV RL 165 RX2 yX2_lastLands wsX2_lastLands) := goodIn_app (goodIn_of _ (by decide +kernel)) ggL_law_X2_lastLands
set_option maxRecDepth 20000 in
theorem ggL_law_L_asBeforeIn : GoodIn wsL_law wsL_asBeforeIn := goodIn_ca (goodIn_r _ [515, 92, 516, 517, 518, 2, 519, 17, 16, 111, 112, 113, 114, 105, 106, 115, 116, 117, 15, 118, 33, 444, 445, 446, 447, 34, 35, 23, 24, 25, 26, 27, 28, 448, 449, 450, 44, 45, 218, 219, 220, 221, 222, 223, 224, 225, 123, 124, 125, 126, 226, 227, 228, 229, 131, 132, 230, 520, 521, 522, 523, 599, 600, 611, 612, 613, 614, 615, 616, 617, 618, 619] (by decide +kernel) (by decide +kernel)) (goodIn_sub (fun _ h => List.mem_append_left _ (List.mem_append_right _ h)) (by decide +kernel))
set_option maxRecDepth 20000 in
theorem gL_law_L_asBeforeIn : GoodIn wsL_law (va_wsS RL 166 yL_asBeforeIn wsL_asBeforeIn) := goodIn_app (goodIn_of _ (by decide +kernel)) ggL_law_L_asBeforeIn
set_option maxRecDepth 20000 in
theorem ggL_law_X2_asBeforeIn : GoodIn wsL_law wsX2_asBeforeIn := goodIn_r _ [527, 77, 145, 146, 147, 5, 148, 50, 78, 79, 80, 528, 529, 530, 531, 459, 460, 461, 462, 55, 56, 463, 464, 465, 466, 235, 236, 237, 238, 239, 57, 51, 240, 241, 242, 243, 52, 53, 532, 533, 534, 535, 467, 468, 469, 470, 81, 82, 83, 84, 601, 602, 603, 604, 605, 606, 607, 608, 609, 610] (by decide +kernel) (by decide +kernel)
set_option maxRecDepth 20000 in
theorem gL_law_X2_asBeforeIn : GoodIn wsL_law (wsV RL 168 RX2 yX2_asBeforeIn wsX2_asBeforeIn) := goodIn_app (goodIn_of _ (by decide +kernel)) ggL_law_X2_asBeforeIn
set_option maxRecDepth 20000 in
theorem ggL_law_L_wouldRun : GoodIn wsL_law wsL_wouldRun := goodIn_ca (goodIn_r _ [538, 92, 539, 540, 541, 2, 542, 17, 16, 200, 201, 202, 105, 106, 444, 445, 446, 15, 447, 33, 34, 35, 23, 24, 25, 26, 27, 28, 448, 449, 450, 44, 45, 251, 252, 253, 254, 131, 132, 255, 219, 220, 221, 222, 223, 224, 225, 123, 124, 125, 126, 226, 227, 228, 229, 230, 116, 117, 118, 256, 257, 258, 259, 599, 600, 611, 612, 613, 614, 615, 616, 617, 618, 619] (by decide +kernel) (by decide +kernel)) (goodIn_sub (fun _ h => List.mem_append_left _ (List.mem_append_right _ h)) (by decide +kernel))
set_option maxRecDepth 20000 in
theorem gL_law_L_wouldRun : GoodIn wsL_law (va_wsS RL 169 yL_wouldRun wsL_wouldRun) := goodIn_app (goodIn_of _ (by decide +kernel)) ggL_law_L_wouldRun
set_option maxRecDepth 20000 in
theorem ggL_law_X2_wouldRun : GoodIn wsL_law wsX2_wouldRun := goodIn_r _ [546, 77, 78, 79, 5, 80, 547, 548, 549, 550, 459, 460, 461, 462, 55, 56, 463, 464, 465, 466, 264, 265, 266, 267, 54, 50, 235, 236, 237, 238, 239, 57, 51, 240, 241, 242, 243, 52, 53, 145, 146, 147, 148, 268, 269, 270, 271, 467, 468, 469, 470, 81, 82, 83, 84, 601, 602, 603, 604, 605, 606, 607, 608, 609, 610] (by decide +kernel) (by decide +kernel)
set_option maxRecDepth 20000 in
theorem gL_law_X2_wouldRun : GoodIn wsL_law (wsV RL 171 RX2 yX2_wouldRun wsX2_wouldRun) := goodIn_app (goodIn_of _ (by decide +kernel)) ggL_law_X2_wouldRun
set_option maxRecDepth 20000 in
theorem ggL_law_X1_bestColumn : GoodIn wsL_law wsX1_bestColumn := goodIn_ca (goodIn_r _ [554, 555, 294, 295, 2, 296, 16, 297, 556, 487, 488, 489, 17, 111, 112, 113, 114, 105, 106, 115, 116, 117, 15, 118, 33, 444, 445, 446, 447, 34, 35, 23, 24, 25, 26, 27, 28, 448, 449, 450, 44, 45, 218, 219, 220, 221, 222, 223, 224, 225, 123, 124, 125, 126, 226, 227, 228, 229, 131, 132, 230, 490, 491, 492, 493, 180, 181, 182, 183, 127, 128, 129, 130, 599, 600, 611, 612, 613, 614, 615, 616, 617, 618, 619] (by decide +kernel) (by decide +kernel)) (goodIn_sub (fun _ h => List.mem_append_left _ (List.mem_append_right _ h)) (by decide +kernel))
set_option maxRecDepth 20000 in
theorem gL_law_X1_bestColumn : GoodIn wsL_law (wsV RL 172 RX1 yX1_bestColumn wsX1_bestColumn) := goodIn_app (goodIn_of _ (by decide +kernel)) ggL_law_X1_bestColumn
set_option maxRecDepth 20000 in
theorem ggL_law_X2_bestColumn : GoodIn wsL_law wsX2_bestColumn := goodIn_r _ [560, 561, 562, 563, 5, 564, 50, 498, 499, 500, 501, 239, 455, 456, 457, 458, 459, 460, 461, 462, 55, 56, 463, 464, 465, 466, 235, 236, 237, 238, 57, 51, 240, 241, 242, 243, 52, 53, 145, 146, 147, 148, 78, 79, 80, 467, 468, 469, 470, 289, 290, 291, 292, 77, 601, 602, 603, 604, 605, 606, 607, 608, 609, 610] (by decide +kernel) (by decide +kernel)
set_option maxRecDepth 20000 in
theorem gL_law_X2_bestColumn : GoodIn wsL_law (wsV RL 175 RX2 yX2_bestColumn wsX2_bestColumn) := goodIn_app (goodIn_of _ (by decide +kernel)) ggL_law_X2_bestColumn
set_option maxRecDepth 20000 in
theorem ggL_law_X1_meanInBins : GoodIn wsL_law wsX1_meanInBins := goodIn_r _ [568, 16, 555, 294, 295, 2, 296, 297, 276, 277, 278, 15, 279, 26, 599, 600, 611, 612, 613, 614, 615, 616, 617, 618, 619] (by decide +kernel) (by decide +kernel)
set_option maxRecDepth 20000 in
theorem gL_law_X1_meanInBins : GoodIn wsL_law (wsV RL 176 RX1 yX1_meanInBins wsX1_meanInBins) := goodIn_app (goodIn_of _ (by decide +kernel)) ggL_law_X1_meanInBins
set_option maxRecDepth 20000 in
theorem ggL_law_X2_meanInBins : GoodIn wsL_law wsX2_meanInBins := goodIn_r _ [572, 77, 50, 285, 286, 287, 5, 288, 55, 601, 602, 603, 604, 605, 606, 607, 608, 609, 610] (by decide +kernel) (by decide +kernel)
set_option maxRecDepth 20000 in
theorem gL_law_X2_meanInBins : GoodIn wsL_law (wsV RL 180 RX2 yX2_meanInBins wsX2_meanInBins) := goodIn_app (goodIn_of _ (by decide +kernel)) ggL_law_X2_meanInBins
set_option maxRecDepth 20000 in
theorem ggL_law_X1_digest : GoodIn wsL_law wsX1_digest := goodIn_ca (goodIn_r _ [576, 577, 578, 555, 294, 295, 2, 296, 16, 297, 579, 303, 304, 305, 306, 580, 370, 371, 372, 373, 581, 403, 404, 405, 406, 407, 408, 15, 409, 23, 582, 552, 553, 554, 556, 487, 488, 489, 17, 111, 112, 113, 114, 105, 106, 115, 116, 117, 118, 33, 444, 445, 446, 447, 34, 35, 24, 25, 26, 27, 28, 448, 449, 450, 44, 45, 218, 219, 220, 221, 222, 223, 224, 225, 123, 124, 125, 126, 226, 227, 228, 229, 131, 132, 230, 490, 491, 492, 493, 180, 181, 182, 183, 127, 128, 129, 130, 583, 382, 383, 384, 385, 200, 201, 202, 364, 584, 394, 395, 396, 397, 585, 540, 541, 542, 251, 252, 253, 254, 255, 256, 257, 258, 259, 586, 422, 423, 424, 101, 102, 103, 104, 107, 108, 109, 110, 425, 426, 427, 428, 587, 315, 316, 317, 97, 98, 99, 100, 174, 175, 588, 326, 327, 328, 184, 589, 341, 342, 343, 344, 345, 346, 347, 590, 360, 361, 362, 363, 591, 441, 442, 443, 592, 517, 518, 519, 520, 521, 522, 523, 599, 600, 611, 612, 613, 614, 615, 616, 617, 618, 619] (by decide +kernel) (by decide +kernel)) (goodIn_sub (fun _ h => List.mem_append_left _ (List.mem_append_right _ h)) (by decide +kernel))
set_option maxRecDepth 20000 in
theorem gL_law_X1_digest : GoodIn wsL_law (wsV RL 181 RX1 yX1_digest wsX1_digest) := goodIn_app (goodIn_of _ (by decide +kernel)) ggL_law_X1_digest
set_option maxRecDepth 20000 in
theorem ggL_law_X2_digest : GoodIn wsL_law wsX2_digest := goodIn_r _ [596, 77, 22, 50, 51, 55, 597, 598, 54, 52, 414, 415, 416, 5, 417, 561, 562, 563, 564, 498, 499, 500, 501, 239, 455, 456, 457, 458, 459, 460, 461, 462, 56, 463, 464, 465, 466, 235, 236, 237, 238, 57, 240, 241, 242, 243, 53, 145, 146, 147, 148, 78, 79, 80, 467, 468, 469, 470, 547, 548, 549, 550, 264, 265, 266, 267, 268, 269, 270, 271, 433, 434, 435, 436, 333, 334, 335, 336, 352, 353, 354, 355, 528, 529, 530, 531, 532, 533, 534, 535, 601, 602, 603, 604, 605, 606, 607, 608, 609, 610] (by decide +kernel) (by decide +kernel)
set_option maxRecDepth 20000 in
theorem gL_law_X2_digest : GoodIn wsL_law (wsV RL 185 RX2 yX2_digest wsX2_digest) := goodIn_app (goodIn_of _ (by decide +kernel)) ggL_law_X2_digest
theorem dL_law_0 : decode cL_law 0 = .ok (.new 8, 3) := by decide +kernel
theorem dL_law_3 : decode cL_law 3 = .ok (.dup, 1) := by decide +kernel
theorem dL_law_4 : decode cL_law 4 = .ok (.invokespecial 79, 3) := by decide +kernel
theorem dL_law_7 : decode cL_law 7 = .ok (.astore_n 1, 1) := by decide +kernel
theorem dL_law_8 : decode cL_law 8 = .ok (.new 80, 3) := by decide +kernel
theorem dL_law_11 : decode cL_law 11 = .ok (.dup, 1) := by decide +kernel
theorem dL_law_12 : decode cL_law 12 = .ok (.invokespecial 82, 3) := by decide +kernel
theorem dL_law_15 : decode cL_law 15 = .ok (.astore_n 2, 1) := by decide +kernel
theorem dL_law_16 : decode cL_law 16 = .ok (.iconst 1, 1) := by decide +kernel
theorem dL_law_17 : decode cL_law 17 = .ok (.newarray .long, 2) := by decide +kernel
theorem dL_law_19 : decode cL_law 19 = .ok (.astore_n 3, 1) := by decide +kernel
theorem dL_law_20 : decode cL_law 20 = .ok (.iconst 0, 1) := by decide +kernel
theorem dL_law_21 : decode cL_law 21 = .ok (.istore 4, 2) := by decide +kernel
theorem dL_law_23 : decode cL_law 23 = .ok (.iload 4, 2) := by decide +kernel
theorem dL_law_25 : decode cL_law 25 = .ok (.aload_n 0, 1) := by decide +kernel
theorem dL_law_26 : decode cL_law 26 = .ok (.arraylength, 1) := by decide +kernel
theorem dL_law_27 : decode cL_law 27 = .ok (.iconst 4, 1) := by decide +kernel
theorem dL_law_28 : decode cL_law 28 = .ok (.isub, 1) := by decide +kernel
theorem dL_law_29 : decode cL_law 29 = .ok (.if_icmp .gt 1576, 3) := by decide +kernel
theorem dL_law_32 : decode cL_law 32 = .ok (.aload_n 0, 1) := by decide +kernel
theorem dL_law_33 : decode cL_law 33 = .ok (.iload 4, 2) := by decide +kernel
theorem dL_law_35 : decode cL_law 35 = .ok (.iaload, 1) := by decide +kernel
theorem dL_law_36 : decode cL_law 36 = .ok (.bipush 31, 2) := by decide +kernel
theorem dL_law_38 : decode cL_law 38 = .ok (.iand, 1) := by decide +kernel
theorem dL_law_39 : decode cL_law 39 = .ok (.tableswitch 1560 0 27 #[125, 193, 273, 353, 428, 508, 564, 632, 645, 658, 671, 739, 814, 882, 938, 951, 1007, 1063, 1076, 1132, 1188, 1256, 1312, 1380, 1436, 1492, 1505, 1546], 125) := by decide +kernel
theorem dL_law_164 : decode cL_law 164 = .ok (.aload_n 1, 1) := by decide +kernel
theorem dL_law_165 : decode cL_law 165 = .ok (.aload_n 0, 1) := by decide +kernel
theorem dL_law_166 : decode cL_law 166 = .ok (.iload 4, 2) := by decide +kernel
theorem dL_law_168 : decode cL_law 168 = .ok (.iconst 1, 1) := by decide +kernel
theorem dL_law_169 : decode cL_law 169 = .ok (.iadd, 1) := by decide +kernel
theorem dL_law_170 : decode cL_law 170 = .ok (.iaload, 1) := by decide +kernel
theorem dL_law_171 : decode cL_law 171 = .ok (.aload_n 0, 1) := by decide +kernel
theorem dL_law_172 : decode cL_law 172 = .ok (.iload 4, 2) := by decide +kernel
theorem dL_law_174 : decode cL_law 174 = .ok (.iconst 2, 1) := by decide +kernel
theorem dL_law_175 : decode cL_law 175 = .ok (.iadd, 1) := by decide +kernel
theorem dL_law_176 : decode cL_law 176 = .ok (.iaload, 1) := by decide +kernel
theorem dL_law_177 : decode cL_law 177 = .ok (.aload_n 3, 1) := by decide +kernel
theorem dL_law_178 : decode cL_law 178 = .ok (.invokestatic 83, 3) := by decide +kernel
theorem dL_law_181 : decode cL_law 181 = .ok (.istore 5, 2) := by decide +kernel
theorem dL_law_183 : decode cL_law 183 = .ok (.aload_n 2, 1) := by decide +kernel
theorem dL_law_184 : decode cL_law 184 = .ok (.aload_n 0, 1) := by decide +kernel
theorem dL_law_185 : decode cL_law 185 = .ok (.iload 4, 2) := by decide +kernel
theorem dL_law_187 : decode cL_law 187 = .ok (.iconst 1, 1) := by decide +kernel
theorem dL_law_188 : decode cL_law 188 = .ok (.iadd, 1) := by decide +kernel
theorem dL_law_189 : decode cL_law 189 = .ok (.iaload, 1) := by decide +kernel
theorem dL_law_190 : decode cL_law 190 = .ok (.aload_n 0, 1) := by decide +kernel
theorem dL_law_191 : decode cL_law 191 = .ok (.iload 4, 2) := by decide +kernel
theorem dL_law_193 : decode cL_law 193 = .ok (.iconst 2, 1) := by decide +kernel
theorem dL_law_194 : decode cL_law 194 = .ok (.iadd, 1) := by decide +kernel
theorem dL_law_195 : decode cL_law 195 = .ok (.iaload, 1) := by decide +kernel
theorem dL_law_196 : decode cL_law 196 = .ok (.invokevirtual 88, 3) := by decide +kernel
theorem dL_law_199 : decode cL_law 199 = .ok (.istore 6, 2) := by decide +kernel
theorem dL_law_201 : decode cL_law 201 = .ok (.aload_n 2, 1) := by decide +kernel
theorem dL_law_202 : decode cL_law 202 = .ok (.invokevirtual 89, 3) := by decide +kernel
theorem dL_law_205 : decode cL_law 205 = .ok (.iload 5, 2) := by decide +kernel
theorem dL_law_207 : decode cL_law 207 = .ok (.if_icmp .eq 5, 3) := by decide +kernel
theorem dL_law_210 : decode cL_law 210 = .ok (.iconst 0, 1) := by decide +kernel
theorem dL_law_211 : decode cL_law 211 = .ok (.ireturn, 1) := by decide +kernel
theorem dL_law_212 : decode cL_law 212 = .ok (.iload 5, 2) := by decide +kernel
theorem dL_law_214 : decode cL_law 214 = .ok (.ifCond .ne 15, 3) := by decide +kernel
theorem dL_law_217 : decode cL_law 217 = .ok (.aload_n 3, 1) := by decide +kernel
theorem dL_law_218 : decode cL_law 218 = .ok (.iconst 0, 1) := by decide +kernel
theorem dL_law_219 : decode cL_law 219 = .ok (.laload, 1) := by decide +kernel
theorem dL_law_220 : decode cL_law 220 = .ok (.iload 6, 2) := by decide +kernel
theorem dL_law_222 : decode cL_law 222 = .ok (.i2l, 1) := by decide +kernel
theorem dL_law_223 : decode cL_law 223 = .ok (.lcmp, 1) := by decide +kernel
theorem dL_law_224 : decode cL_law 224 = .ok (.ifCond .eq 5, 3) := by decide +kernel
theorem dL_law_227 : decode cL_law 227 = .ok (.iconst 0, 1) := by decide +kernel
theorem dL_law_228 : decode cL_law 228 = .ok (.ireturn, 1) := by decide +kernel
theorem dL_law_229 : decode cL_law 229 = .ok (.goto 1370, 3) := by decide +kernel
theorem dL_law_232 : decode cL_law 232 = .ok (.aload_n 1, 1) := by decide +kernel
theorem dL_law_233 : decode cL_law 233 = .ok (.aload_n 0, 1) := by decide +kernel
theorem dL_law_234 : decode cL_law 234 = .ok (.iload 4, 2) := by decide +kernel
theorem dL_law_236 : decode cL_law 236 = .ok (.iconst 1, 1) := by decide +kernel
theorem dL_law_237 : decode cL_law 237 = .ok (.iadd, 1) := by decide +kernel
theorem dL_law_238 : decode cL_law 238 = .ok (.iaload, 1) := by decide +kernel
theorem dL_law_239 : decode cL_law 239 = .ok (.aload_n 0, 1) := by decide +kernel
theorem dL_law_240 : decode cL_law 240 = .ok (.iload 4, 2) := by decide +kernel
theorem dL_law_242 : decode cL_law 242 = .ok (.iconst 2, 1) := by decide +kernel
theorem dL_law_243 : decode cL_law 243 = .ok (.iadd, 1) := by decide +kernel
theorem dL_law_244 : decode cL_law 244 = .ok (.iaload, 1) := by decide +kernel
theorem dL_law_245 : decode cL_law 245 = .ok (.aload_n 0, 1) := by decide +kernel
theorem dL_law_246 : decode cL_law 246 = .ok (.iload 4, 2) := by decide +kernel
theorem dL_law_248 : decode cL_law 248 = .ok (.iconst 3, 1) := by decide +kernel
theorem dL_law_249 : decode cL_law 249 = .ok (.iadd, 1) := by decide +kernel
theorem dL_law_250 : decode cL_law 250 = .ok (.iaload, 1) := by decide +kernel
theorem dL_law_251 : decode cL_law 251 = .ok (.aload_n 3, 1) := by decide +kernel
theorem dL_law_252 : decode cL_law 252 = .ok (.invokestatic 93, 3) := by decide +kernel
theorem dL_law_255 : decode cL_law 255 = .ok (.istore 5, 2) := by decide +kernel
theorem dL_law_257 : decode cL_law 257 = .ok (.aload_n 2, 1) := by decide +kernel
theorem dL_law_258 : decode cL_law 258 = .ok (.aload_n 0, 1) := by decide +kernel
theorem dL_law_259 : decode cL_law 259 = .ok (.iload 4, 2) := by decide +kernel
theorem dL_law_261 : decode cL_law 261 = .ok (.iconst 1, 1) := by decide +kernel
theorem dL_law_262 : decode cL_law 262 = .ok (.iadd, 1) := by decide +kernel
theorem dL_law_263 : decode cL_law 263 = .ok (.iaload, 1) := by decide +kernel
theorem dL_law_264 : decode cL_law 264 = .ok (.aload_n 0, 1) := by decide +kernel
theorem dL_law_265 : decode cL_law 265 = .ok (.iload 4, 2) := by decide +kernel
theorem dL_law_267 : decode cL_law 267 = .ok (.iconst 2, 1) := by decide +kernel
theorem dL_law_268 : decode cL_law 268 = .ok (.iadd, 1) := by decide +kernel
theorem dL_law_269 : decode cL_law 269 = .ok (.iaload, 1) := by decide +kernel
theorem dL_law_270 : decode cL_law 270 = .ok (.aload_n 0, 1) := by decide +kernel
theorem dL_law_271 : decode cL_law 271 = .ok (.iload 4, 2) := by decide +kernel
theorem dL_law_273 : decode cL_law 273 = .ok (.iconst 3, 1) := by decide +kernel
theorem dL_law_274 : decode cL_law 274 = .ok (.iadd, 1) := by decide +kernel
theorem dL_law_275 : decode cL_law 275 = .ok (.iaload, 1) := by decide +kernel
theorem dL_law_276 : decode cL_law 276 = .ok (.invokevirtual 96, 3) := by decide +kernel
theorem dL_law_279 : decode cL_law 279 = .ok (.istore 6, 2) := by decide +kernel
theorem dL_law_281 : decode cL_law 281 = .ok (.aload_n 2, 1) := by decide +kernel
theorem dL_law_282 : decode cL_law 282 = .ok (.invokevirtual 89, 3) := by decide +kernel
theorem dL_law_285 : decode cL_law 285 = .ok (.iload 5, 2) := by decide +kernel
theorem dL_law_287 : decode cL_law 287 = .ok (.if_icmp .eq 5, 3) := by decide +kernel
theorem dL_law_290 : decode cL_law 290 = .ok (.iconst 0, 1) := by decide +kernel
theorem dL_law_291 : decode cL_law 291 = .ok (.ireturn, 1) := by decide +kernel
theorem dL_law_292 : decode cL_law 292 = .ok (.iload 5, 2) := by decide +kernel
theorem dL_law_294 : decode cL_law 294 = .ok (.ifCond .ne 15, 3) := by decide +kernel
theorem dL_law_297 : decode cL_law 297 = .ok (.aload_n 3, 1) := by decide +kernel
theorem dL_law_298 : decode cL_law 298 = .ok (.iconst 0, 1) := by decide +kernel
theorem dL_law_299 : decode cL_law 299 = .ok (.laload, 1) := by decide +kernel
theorem dL_law_300 : decode cL_law 300 = .ok (.iload 6, 2) := by decide +kernel
theorem dL_law_302 : decode cL_law 302 = .ok (.i2l, 1) := by decide +kernel
theorem dL_law_303 : decode cL_law 303 = .ok (.lcmp, 1) := by decide +kernel
theorem dL_law_304 : decode cL_law 304 = .ok (.ifCond .eq 5, 3) := by decide +kernel
theorem dL_law_307 : decode cL_law 307 = .ok (.iconst 0, 1) := by decide +kernel
theorem dL_law_308 : decode cL_law 308 = .ok (.ireturn, 1) := by decide +kernel
theorem dL_law_309 : decode cL_law 309 = .ok (.goto 1290, 3) := by decide +kernel
theorem dL_law_312 : decode cL_law 312 = .ok (.aload_n 1, 1) := by decide +kernel
theorem dL_law_313 : decode cL_law 313 = .ok (.aload_n 0, 1) := by decide +kernel
theorem dL_law_314 : decode cL_law 314 = .ok (.iload 4, 2) := by decide +kernel
theorem dL_law_316 : decode cL_law 316 = .ok (.iconst 1, 1) := by decide +kernel
theorem dL_law_317 : decode cL_law 317 = .ok (.iadd, 1) := by decide +kernel
theorem dL_law_318 : decode cL_law 318 = .ok (.iaload, 1) := by decide +kernel
theorem dL_law_319 : decode cL_law 319 = .ok (.aload_n 0, 1) := by decide +kernel
theorem dL_law_320 : decode cL_law 320 = .ok (.iload 4, 2) := by decide +kernel
theorem dL_law_322 : decode cL_law 322 = .ok (.iconst 2, 1) := by decide +kernel
theorem dL_law_323 : decode cL_law 323 = .ok (.iadd, 1) := by decide +kernel
theorem dL_law_324 : decode cL_law 324 = .ok (.iaload, 1) := by decide +kernel
theorem dL_law_325 : decode cL_law 325 = .ok (.aload_n 0, 1) := by decide +kernel
theorem dL_law_326 : decode cL_law 326 = .ok (.iload 4, 2) := by decide +kernel
theorem dL_law_328 : decode cL_law 328 = .ok (.iconst 3, 1) := by decide +kernel
theorem dL_law_329 : decode cL_law 329 = .ok (.iadd, 1) := by decide +kernel
theorem dL_law_330 : decode cL_law 330 = .ok (.iaload, 1) := by decide +kernel
theorem dL_law_331 : decode cL_law 331 = .ok (.aload_n 3, 1) := by decide +kernel
theorem dL_law_332 : decode cL_law 332 = .ok (.invokestatic 97, 3) := by decide +kernel
theorem dL_law_335 : decode cL_law 335 = .ok (.istore 5, 2) := by decide +kernel
theorem dL_law_337 : decode cL_law 337 = .ok (.aload_n 2, 1) := by decide +kernel
theorem dL_law_338 : decode cL_law 338 = .ok (.aload_n 0, 1) := by decide +kernel
theorem dL_law_339 : decode cL_law 339 = .ok (.iload 4, 2) := by decide +kernel
theorem dL_law_341 : decode cL_law 341 = .ok (.iconst 1, 1) := by decide +kernel
theorem dL_law_342 : decode cL_law 342 = .ok (.iadd, 1) := by decide +kernel
theorem dL_law_343 : decode cL_law 343 = .ok (.iaload, 1) := by decide +kernel
theorem dL_law_344 : decode cL_law 344 = .ok (.aload_n 0, 1) := by decide +kernel
theorem dL_law_345 : decode cL_law 345 = .ok (.iload 4, 2) := by decide +kernel
theorem dL_law_347 : decode cL_law 347 = .ok (.iconst 2, 1) := by decide +kernel
theorem dL_law_348 : decode cL_law 348 = .ok (.iadd, 1) := by decide +kernel
theorem dL_law_349 : decode cL_law 349 = .ok (.iaload, 1) := by decide +kernel
theorem dL_law_350 : decode cL_law 350 = .ok (.aload_n 0, 1) := by decide +kernel
theorem dL_law_351 : decode cL_law 351 = .ok (.iload 4, 2) := by decide +kernel
theorem dL_law_353 : decode cL_law 353 = .ok (.iconst 3, 1) := by decide +kernel
theorem dL_law_354 : decode cL_law 354 = .ok (.iadd, 1) := by decide +kernel
theorem dL_law_355 : decode cL_law 355 = .ok (.iaload, 1) := by decide +kernel
theorem dL_law_356 : decode cL_law 356 = .ok (.invokevirtual 99, 3) := by decide +kernel
theorem dL_law_359 : decode cL_law 359 = .ok (.istore 6, 2) := by decide +kernel
theorem dL_law_361 : decode cL_law 361 = .ok (.aload_n 2, 1) := by decide +kernel
theorem dL_law_362 : decode cL_law 362 = .ok (.invokevirtual 89, 3) := by decide +kernel

set_option maxRecDepth 20000 in
theorem ggL_law_X1_init : GoodIn wsL_law wsX1_init := goodIn_r _ [14, 15, 16, 17, 18, 19, 20, 21, 22, 23, 24, 25, 26, 8, 27, 28, 29, 30, 31, 32, 33, 34, 35, 36, 37, 38, 39, 40, 41, 42, 43, 44, 45, 46, 47, 48, 2, 49, 386, 387, 388, 389, 390, 391, 392, 393, 394, 384, 385] rfl (by decide +kernel)
set_option maxRecDepth 20000 in
theorem gL_law_X1_init : GoodIn wsL_law (wsX1_init) := ggL_law_X1_init
set_option maxRecDepth 20000 in
theorem ggL_law_L_build_zh : GoodIn wsL_law [Cond.code yL_build cL_build 8 (some (.object "MarbleRampsLaw$Sim"))] := goodIn_r _ [53] rfl (by decide +kernel)
set_option maxRecDepth 20000 in
theorem ggL_law_L_build_zr1 : GoodIn wsL_law wsL_build_r1 := goodIn_r _ [54, 55, 56, 57, 58, 59, 16, 17, 60, 8, 61, 62, 63, 64, 65, 52, 66, 67, 68, 69, 70, 71, 72, 73] rfl (by decide +kernel)
set_option maxRecDepth 20000 in
theorem ggL_law_L_build_zr2 : GoodIn wsL_law wsL_build_r2 := goodIn_r _ [74, 75, 76, 77, 78, 79, 2, 80, 21, 81, 82, 83, 84, 85, 86, 34, 35, 20, 36, 37, 38, 39, 27, 28] rfl (by decide +kernel)
set_option maxRecDepth 20000 in
theorem ggL_law_L_build_zr3 : GoodIn wsL_law wsL_build_r3 := goodIn_r _ [29, 31, 40, 41, 42, 43, 44, 45, 46, 47, 30, 48, 49, 87, 88, 89, 90, 91, 92, 93, 94, 95, 96, 97] rfl (by decide +kernel)
set_option maxRecDepth 20000 in
theorem ggL_law_L_build_zr4 : GoodIn wsL_law wsL_build_r4 := goodIn_r _ [98, 99, 100, 101, 102, 103, 104, 105, 106, 107, 108, 109, 110, 111, 112, 113, 114, 115, 116, 117, 118, 119, 120, 121] rfl (by decide +kernel)
set_option maxRecDepth 20000 in
theorem ggL_law_L_build_zr5 : GoodIn wsL_law wsL_build_r5 := goodIn_r _ [122, 123, 124, 125, 126, 127, 128, 129, 130, 131, 132, 133, 134, 135, 136, 137, 138, 139, 140, 141, 142, 143, 144, 145] rfl (by decide +kernel)
set_option maxRecDepth 20000 in
theorem ggL_law_L_build_zr6 : GoodIn wsL_law wsL_build_r6 := goodIn_r _ [146, 147, 148, 149, 150, 151, 152, 153, 154, 155, 156, 157, 158, 159, 160, 161, 162, 163, 164, 165, 166, 32, 167, 168] rfl (by decide +kernel)
set_option maxRecDepth 20000 in
theorem ggL_law_L_build_zr7 : GoodIn wsL_law wsL_build_r7 := goodIn_r _ [169, 170, 171, 172, 173, 174, 175, 176, 177, 178, 179, 180, 181, 182, 183, 184, 185, 186, 187, 188, 189, 190, 191, 192] rfl (by decide +kernel)
set_option maxRecDepth 20000 in
theorem ggL_law_L_build_zr8 : GoodIn wsL_law wsL_build_r8 := goodIn_r _ [193, 194, 195, 196, 197, 198, 199, 200, 201, 202, 203, 204, 205, 206, 207, 208, 209, 210, 211, 212, 213, 214, 215, 216] rfl (by decide +kernel)
set_option maxRecDepth 20000 in
theorem ggL_law_L_build_zr9 : GoodIn wsL_law wsL_build_r9 := goodIn_r _ [217, 218, 219] rfl (by decide +kernel)
set_option maxRecDepth 20000 in
theorem ggL_law_L_build_zX20 : GoodIn wsL_law wsX20 := goodIn_r _ [395, 396, 397, 398, 399, 400] rfl (by decide +kernel)
set_option maxRecDepth 20000 in
theorem ggL_law_L_build_zX10 : GoodIn wsL_law wsX10 := goodIn_r _ [384, 385] rfl (by decide +kernel)
set_option maxRecDepth 20000 in
theorem ggL_law_L_build_zX00 : GoodIn wsL_law wsX00 := goodIn_r _ [386, 387, 388, 389, 390, 391, 392, 393, 394] rfl (by decide +kernel)
set_option maxRecDepth 20000 in
theorem ggL_law_L_build : GoodIn wsL_law wsL_build := goodIn_ca (goodIn_ca (goodIn_ca (goodIn_app ggL_law_L_build_zh (goodIn_app (goodIn_app (goodIn_app (goodIn_app ggL_law_L_build_zr1 (goodIn_app ggL_law_L_build_zr2 (goodIn_app ggL_law_L_build_zr3 (goodIn_app ggL_law_L_build_zr4 (goodIn_app ggL_law_L_build_zr5 (goodIn_app ggL_law_L_build_zr6 (goodIn_app ggL_law_L_build_zr7 (goodIn_app ggL_law_L_build_zr8 ggL_law_L_build_zr9)))))))) ggL_law_L_build_zX20) ggL_law_L_build_zX10) ggL_law_L_build_zX00)) (goodIn_sub (fun _ h => List.mem_append_left _ (List.mem_append_left _ (List.mem_append_right _ h))) (by decide +kernel))) (goodIn_sub (fun _ h => List.mem_append_left _ (List.mem_append_right _ h)) (by decide +kernel))) (goodIn_sub (fun _ h => List.mem_append_right _ h) (by decide +kernel))
set_option maxRecDepth 20000 in
theorem gL_law_L_build : GoodIn wsL_law (va_wsS RL 78 yL_build wsL_build) := goodIn_app (goodIn_of _ (by decide +kernel)) ggL_law_L_build
set_option maxRecDepth 20000 in
theorem ggL_law_L_cell : GoodIn wsL_law wsL_cell := goodIn_r _ [66, 67] rfl (by decide +kernel)
set_option maxRecDepth 20000 in
theorem gL_law_L_cell : GoodIn wsL_law (va_wsS RL 69 yL_cell wsL_cell) := goodIn_app (goodIn_of _ (by decide +kernel)) ggL_law_L_cell
set_option maxRecDepth 20000 in
theorem ggL_law_L_act_zh : GoodIn wsL_law [Cond.codeWith yL_act cL_act 12 (some .boolean) [(40, 123, 588, 66), (124, 178, 588, 66), (179, 254, 588, 66), (255, 318, 588, 66), (319, 382, 588, 66), (383, 450, 588, 66), (451, 498, 588, 66), (499, 568, 588, 66), (569, 587, 588, 66)]] := goodIn_r _ [89] rfl (by decide +kernel)
set_option maxRecDepth 20000 in
theorem ggL_law_L_act_zr1 : GoodIn wsL_law wsL_act_r1 := goodIn_r _ [90, 91, 92, 8, 93, 94, 68, 69, 52, 70, 71, 72, 73, 74, 56, 75, 60, 61, 76, 62, 77, 78, 79, 2] rfl (by decide +kernel)
set_option maxRecDepth 20000 in
theorem ggL_law_L_act_zr2 : GoodIn wsL_law wsL_act_r2 := goodIn_r _ [80, 21, 81, 82, 83, 84, 85, 86, 34, 35, 20, 36, 37, 38, 39, 27, 28, 29, 31, 40, 41, 42, 43, 44] rfl (by decide +kernel)
set_option maxRecDepth 20000 in
theorem ggL_law_L_act_zr3 : GoodIn wsL_law wsL_act_r3 := goodIn_r _ [45, 46, 47, 30, 48, 49, 95, 96, 97, 98, 99, 100, 101, 102, 103, 104, 105, 106, 107, 108, 109, 110, 111, 112] rfl (by decide +kernel)
set_option maxRecDepth 20000 in
theorem ggL_law_L_act_zr4 : GoodIn wsL_law wsL_act_r4 := goodIn_r _ [113, 114, 115, 116, 117, 118, 119, 120, 121, 122, 123, 124, 125, 126, 127, 128, 129, 130, 131, 132, 133, 134, 135, 136] rfl (by decide +kernel)
set_option maxRecDepth 20000 in
theorem ggL_law_L_act_zr5 : GoodIn wsL_law wsL_act_r5 := goodIn_r _ [137, 138, 139, 140, 141, 142, 143, 144, 145, 146, 147, 148, 149, 150, 151, 152, 153, 154, 155, 156, 157, 158, 159, 160] rfl (by decide +kernel)
set_option maxRecDepth 20000 in
theorem ggL_law_L_act_zr6 : GoodIn wsL_law wsL_act_r6 := goodIn_r _ [161, 162, 163, 164, 165, 166, 32, 167, 168, 169, 170, 171, 172, 173, 174, 175, 176, 177, 178, 179, 180, 181, 182, 183] rfl (by decide +kernel)
set_option maxRecDepth 20000 in
theorem ggL_law_L_act_zr7 : GoodIn wsL_law wsL_act_r7 := goodIn_r _ [184, 185, 186, 187, 188, 189, 190, 191, 192, 193, 194, 195, 63, 196, 197, 198, 199, 200, 201, 202, 203, 204, 205, 206] rfl (by decide +kernel)
set_option maxRecDepth 20000 in
theorem ggL_law_L_act_zr8 : GoodIn wsL_law wsL_act_r8 := goodIn_r _ [207, 208, 209, 210, 211, 212, 213, 214, 215, 216, 217, 218, 219] rfl (by decide +kernel)
set_option maxRecDepth 20000 in
theorem ggL_law_L_act_zX20 : GoodIn wsL_law wsX20 := goodIn_r _ [395, 396, 397, 398, 399, 400] rfl (by decide +kernel)
set_option maxRecDepth 20000 in
theorem ggL_law_L_act_zX10 : GoodIn wsL_law wsX10 := goodIn_r _ [384, 385] rfl (by decide +kernel)
set_option maxRecDepth 20000 in
theorem ggL_law_L_act_zX00 : GoodIn wsL_law wsX00 := goodIn_r _ [386, 387, 388, 389, 390, 391, 392, 393, 394] rfl (by decide +kernel)
set_option maxRecDepth 20000 in
theorem ggL_law_L_act : GoodIn wsL_law wsL_act := goodIn_ca (goodIn_ca (goodIn_ca (goodIn_app ggL_law_L_act_zh (goodIn_app (goodIn_app (goodIn_app (goodIn_app ggL_law_L_act_zr1 (goodIn_app ggL_law_L_act_zr2 (goodIn_app ggL_law_L_act_zr3 (goodIn_app ggL_law_L_act_zr4 (goodIn_app ggL_law_L_act_zr5 (goodIn_app ggL_law_L_act_zr6 (goodIn_app ggL_law_L_act_zr7 ggL_law_L_act_zr8))))))) ggL_law_L_act_zX20) ggL_law_L_act_zX10) ggL_law_L_act_zX00)) (goodIn_sub (fun _ h => List.mem_append_left _ (List.mem_append_left _ (List.mem_append_right _ h))) (by decide +kernel))) (goodIn_sub (fun _ h => List.mem_append_left _ (List.mem_append_right _ h)) (by decide +kernel))) (goodIn_sub (fun _ h => List.mem_append_right _ h) (by decide +kernel))
set_option maxRecDepth 20000 in
theorem gL_law_L_act : GoodIn wsL_law (va_wsS RL 73 yL_act wsL_act) := goodIn_app (goodIn_of _ (by decide +kernel)) ggL_law_L_act
set_option maxRecDepth 20000 in
theorem ggL_law_X1_digest_zh : GoodIn wsL_law [Cond.code yX1_digest cX1_digest 5 (some .long)] := goodIn_r _ [223] rfl (by decide +kernel)
set_option maxRecDepth 20000 in
theorem ggL_law_X1_digest_zr1 : GoodIn wsL_law wsX1_digest_r1 := goodIn_r _ [224, 225, 226, 227, 228, 2, 229, 21, 230, 231, 232, 233, 234, 235, 236, 237, 238, 239, 240, 241, 242, 243, 244, 245] rfl (by decide +kernel)
set_option maxRecDepth 20000 in
theorem ggL_law_X1_digest_zr2 : GoodIn wsL_law wsX1_digest_r2 := goodIn_r _ [246, 247, 20, 248, 27, 249, 250, 251, 252, 253, 254, 255, 256, 22, 113, 114, 115, 116, 107, 108, 117, 118, 119, 120] rfl (by decide +kernel)
set_option maxRecDepth 20000 in
theorem ggL_law_X1_digest_zr3 : GoodIn wsL_law wsX1_digest_r3 := goodIn_r _ [37, 257, 258, 259, 260, 38, 39, 28, 29, 30, 31, 32, 261, 262, 263, 48, 49, 218, 176, 177, 178, 179, 180, 181] rfl (by decide +kernel)
set_option maxRecDepth 20000 in
theorem ggL_law_X1_digest_zr4 : GoodIn wsL_law wsX1_digest_r4 := goodIn_r _ [182, 125, 126, 127, 128, 183, 184, 185, 186, 133, 134, 187, 264, 265, 266, 267, 151, 152, 153, 154, 129, 130, 131, 132] rfl (by decide +kernel)
set_option maxRecDepth 20000 in
theorem ggL_law_X1_digest_zr5 : GoodIn wsL_law wsX1_digest_r5 := goodIn_r _ [268, 269, 270, 271, 272, 160, 161, 162, 273, 274, 275, 276, 277, 278, 279, 280, 281, 282, 171, 172, 173, 174, 175, 188] rfl (by decide +kernel)
set_option maxRecDepth 20000 in
theorem ggL_law_X1_digest_zr6 : GoodIn wsL_law wsX1_digest_r6 := goodIn_r _ [189, 190, 191, 283, 284, 285, 286, 103, 104, 105, 106, 109, 110, 111, 112, 287, 288, 289, 290, 291, 292, 293, 294, 99] rfl (by decide +kernel)
set_option maxRecDepth 20000 in
theorem ggL_law_X1_digest_zr7 : GoodIn wsL_law wsX1_digest_r7 := goodIn_r _ [100, 101, 102, 145, 146, 295, 296, 297, 298, 155, 299, 300, 301, 302, 303, 304, 305, 306, 307, 308, 309, 310, 311, 312] rfl (by decide +kernel)
set_option maxRecDepth 20000 in
theorem ggL_law_X1_digest_zr8 : GoodIn wsL_law wsX1_digest_r8 := goodIn_r _ [313, 314, 315, 316, 317, 318, 319, 320, 321, 322, 323] rfl (by decide +kernel)
set_option maxRecDepth 20000 in
theorem ggL_law_X1_digest_zX10 : GoodIn wsL_law wsX10 := goodIn_r _ [384, 385] rfl (by decide +kernel)
set_option maxRecDepth 20000 in
theorem ggL_law_X1_digest_zX00 : GoodIn wsL_law wsX00 := goodIn_r _ [386, 387, 388, 389, 390, 391, 392, 393, 394] rfl (by decide +kernel)
set_option maxRecDepth 20000 in
theorem ggL_law_X1_digest : GoodIn wsL_law wsX1_digest := goodIn_ca (goodIn_app ggL_law_X1_digest_zh (goodIn_app (goodIn_app (goodIn_app ggL_law_X1_digest_zr1 (goodIn_app ggL_law_X1_digest_zr2 (goodIn_app ggL_law_X1_digest_zr3 (goodIn_app ggL_law_X1_digest_zr4 (goodIn_app ggL_law_X1_digest_zr5 (goodIn_app ggL_law_X1_digest_zr6 (goodIn_app ggL_law_X1_digest_zr7 ggL_law_X1_digest_zr8))))))) ggL_law_X1_digest_zX10) ggL_law_X1_digest_zX00)) (goodIn_sub (fun _ h => List.mem_append_left _ (List.mem_append_right _ h)) (by decide +kernel))
set_option maxRecDepth 20000 in
theorem gL_law_X1_digest : GoodIn wsL_law (wsV RL 82 RX1 yX1_digest wsX1_digest) := goodIn_app (goodIn_of _ (by decide +kernel)) ggL_law_X1_digest
set_option maxRecDepth 20000 in
theorem ggL_law_X1_columns : GoodIn wsL_law wsX1_columns := goodIn_r _ [229, 21, 230, 384, 385, 386, 387, 388, 389, 390, 391, 392, 393, 394] rfl (by decide +kernel)
set_option maxRecDepth 20000 in
theorem gL_law_X1_columns : GoodIn wsL_law (wsV RL 86 RX1 yX1_columns wsX1_columns) := goodIn_app (goodIn_of _ (by decide +kernel)) ggL_law_X1_columns
set_option maxRecDepth 20000 in
theorem ggL_law_X1_rows : GoodIn wsL_law wsX1_rows := goodIn_r _ [234, 21, 235, 384, 385, 386, 387, 388, 389, 390, 391, 392, 393, 394] rfl (by decide +kernel)
set_option maxRecDepth 20000 in
theorem gL_law_X1_rows : GoodIn wsL_law (wsV RL 89 RX1 yX1_rows wsX1_rows) := goodIn_app (goodIn_of _ (by decide +kernel)) ggL_law_X1_rows
set_option maxRecDepth 20000 in
theorem ggL_law_X1_partAt : GoodIn wsL_law wsX1_partAt := goodIn_ca (goodIn_r _ [294, 21, 99, 100, 101, 2, 102, 103, 104, 105, 106, 107, 108, 109, 110, 111, 20, 112, 38, 113, 114, 115, 116, 117, 118, 119, 120, 37, 145, 126, 127, 128, 146, 130, 131, 132, 27, 133, 134, 384, 385, 386, 387, 388, 389, 390, 391, 392, 393, 394] rfl (by decide +kernel)) (goodIn_sub (fun _ h => List.mem_append_left _ (List.mem_append_right _ h)) (by decide +kernel))
set_option maxRecDepth 20000 in
theorem gL_law_X1_partAt : GoodIn wsL_law (wsV RL 92 RX1 yX1_partAt wsX1_partAt) := goodIn_app (goodIn_of _ (by decide +kernel)) ggL_law_X1_partAt
set_option maxRecDepth 20000 in
theorem ggL_law_X1_leadsRight : GoodIn wsL_law wsX1_leadsRight := goodIn_ca (goodIn_r _ [298, 21, 99, 100, 101, 2, 102, 103, 104, 105, 106, 107, 108, 109, 110, 111, 20, 112, 38, 113, 114, 115, 116, 117, 118, 119, 120, 37, 145, 126, 127, 128, 155, 152, 153, 154, 29, 129, 130, 131, 132, 27, 133, 134, 384, 385, 386, 387, 388, 389, 390, 391, 392, 393, 394] rfl (by decide +kernel)) (goodIn_sub (fun _ h => List.mem_append_left _ (List.mem_append_right _ h)) (by decide +kernel))
set_option maxRecDepth 20000 in
theorem gL_law_X1_leadsRight : GoodIn wsL_law (wsV RL 95 RX1 yX1_leadsRight wsX1_leadsRight) := goodIn_app (goodIn_of _ (by decide +kernel)) ggL_law_X1_leadsRight
set_option maxRecDepth 20000 in
theorem ggL_law_X1_countAt : GoodIn wsL_law wsX1_countAt := goodIn_ca (goodIn_r _ [302, 21, 99, 100, 101, 2, 102, 103, 104, 105, 106, 107, 108, 109, 110, 111, 20, 112, 38, 113, 114, 115, 116, 117, 118, 119, 120, 37, 145, 126, 127, 128, 303, 304, 305, 306, 29, 129, 130, 131, 132, 27, 133, 134, 384, 385, 386, 387, 388, 389, 390, 391, 392, 393, 394] rfl (by decide +kernel)) (goodIn_sub (fun _ h => List.mem_append_left _ (List.mem_append_right _ h)) (by decide +kernel))
set_option maxRecDepth 20000 in
theorem gL_law_X1_countAt : GoodIn wsL_law (wsV RL 98 RX1 yX1_countAt wsX1_countAt) := goodIn_app (goodIn_of _ (by decide +kernel)) ggL_law_X1_countAt
set_option maxRecDepth 20000 in
theorem ggL_law_X1_numberIn : GoodIn wsL_law wsX1_numberIn := goodIn_ca (goodIn_r _ [286, 21, 103, 104, 105, 2, 106, 107, 108, 109, 110, 111, 20, 112, 38, 287, 288, 289, 290, 37, 125, 126, 127, 128, 129, 130, 131, 132, 27, 133, 134, 151, 152, 153, 154, 29, 384, 385, 386, 387, 388, 389, 390, 391, 392, 393, 394] rfl (by decide +kernel)) (goodIn_sub (fun _ h => List.mem_append_left _ (List.mem_append_right _ h)) (by decide +kernel))
set_option maxRecDepth 20000 in
theorem gL_law_X1_numberIn : GoodIn wsL_law (wsV RL 101 RX1 yX1_numberIn wsX1_numberIn) := goodIn_app (goodIn_of _ (by decide +kernel)) ggL_law_X1_numberIn
set_option maxRecDepth 20000 in
theorem ggL_law_X1_bestColumn : GoodIn wsL_law wsX1_bestColumn := goodIn_ca (goodIn_r _ [252, 226, 227, 228, 2, 229, 21, 230, 253, 254, 255, 256, 22, 113, 114, 115, 116, 107, 108, 117, 118, 119, 20, 120, 37, 257, 258, 259, 260, 38, 39, 27, 28, 29, 30, 31, 32, 261, 262, 263, 48, 49, 218, 176, 177, 178, 179, 180, 181, 182, 125, 126, 127, 128, 183, 184, 185, 186, 133, 134, 187, 264, 265, 266, 267, 151, 152, 153, 154, 129, 130, 131, 132, 384, 385, 386, 387, 388, 389, 390, 391, 392, 393, 394] rfl (by decide +kernel)) (goodIn_sub (fun _ h => List.mem_append_left _ (List.mem_append_right _ h)) (by decide +kernel))
set_option maxRecDepth 20000 in
theorem gL_law_X1_bestColumn : GoodIn wsL_law (wsV RL 104 RX1 yX1_bestColumn wsX1_bestColumn) := goodIn_app (goodIn_of _ (by decide +kernel)) ggL_law_X1_bestColumn
set_option maxRecDepth 20000 in
theorem ggL_law_X1_toggles : GoodIn wsL_law wsX1_toggles := goodIn_r _ [244, 21, 245, 246, 247, 20, 248, 27, 384, 385, 386, 387, 388, 389, 390, 391, 392, 393, 394] rfl (by decide +kernel)
set_option maxRecDepth 20000 in
theorem gL_law_X1_toggles : GoodIn wsL_law (wsV RL 107 RX1 yX1_toggles wsX1_toggles) := goodIn_app (goodIn_of _ (by decide +kernel)) ggL_law_X1_toggles
set_option maxRecDepth 20000 in
theorem ggL_law_X1_wouldBeIn : GoodIn wsL_law wsX1_wouldBeIn := goodIn_ca (goodIn_r _ [335, 22, 21, 113, 114, 115, 2, 116, 107, 108, 117, 118, 119, 20, 120, 37, 103, 104, 105, 106, 109, 110, 111, 112, 38, 257, 258, 259, 260, 39, 27, 28, 29, 30, 31, 32, 261, 262, 263, 48, 49, 336, 180, 181, 182, 125, 126, 127, 128, 183, 184, 185, 186, 133, 134, 187, 384, 385, 386, 387, 388, 389, 390, 391, 392, 393, 394] rfl (by decide +kernel)) (goodIn_sub (fun _ h => List.mem_append_left _ (List.mem_append_right _ h)) (by decide +kernel))
set_option maxRecDepth 20000 in
theorem gL_law_X1_wouldBeIn : GoodIn wsL_law (wsV RL 110 RX1 yX1_wouldBeIn wsX1_wouldBeIn) := goodIn_app (goodIn_of _ (by decide +kernel)) ggL_law_X1_wouldBeIn
set_option maxRecDepth 20000 in
theorem ggL_law_X1_wouldTurn : GoodIn wsL_law wsX1_wouldTurn := goodIn_ca (goodIn_r _ [256, 22, 21, 113, 114, 115, 2, 116, 107, 108, 117, 118, 119, 20, 120, 37, 257, 258, 259, 260, 38, 39, 27, 28, 29, 30, 31, 32, 261, 262, 263, 48, 49, 218, 176, 177, 178, 179, 180, 181, 182, 125, 126, 127, 128, 183, 184, 185, 186, 133, 134, 187, 264, 265, 266, 267, 151, 152, 153, 154, 129, 130, 131, 132, 384, 385, 386, 387, 388, 389, 390, 391, 392, 393, 394] rfl (by decide +kernel)) (goodIn_sub (fun _ h => List.mem_append_left _ (List.mem_append_right _ h)) (by decide +kernel))
set_option maxRecDepth 20000 in
theorem gL_law_X1_wouldTurn : GoodIn wsL_law (wsV RL 113 RX1 yX1_wouldTurn wsX1_wouldTurn) := goodIn_app (goodIn_of _ (by decide +kernel)) ggL_law_X1_wouldTurn
set_option maxRecDepth 20000 in
theorem ggL_law_X1_wouldLand : GoodIn wsL_law wsX1_wouldLand := goodIn_ca (goodIn_r _ [315, 22, 21, 113, 114, 115, 2, 116, 107, 108, 117, 118, 119, 20, 120, 37, 257, 258, 259, 260, 38, 39, 27, 28, 29, 30, 31, 32, 261, 262, 263, 48, 49, 218, 176, 177, 178, 179, 180, 181, 182, 125, 126, 127, 128, 183, 184, 185, 186, 133, 134, 187, 384, 385, 386, 387, 388, 389, 390, 391, 392, 393, 394] rfl (by decide +kernel)) (goodIn_sub (fun _ h => List.mem_append_left _ (List.mem_append_right _ h)) (by decide +kernel))
set_option maxRecDepth 20000 in
theorem gL_law_X1_wouldLand : GoodIn wsL_law (wsV RL 116 RX1 yX1_wouldLand wsX1_wouldLand) := goodIn_app (goodIn_of _ (by decide +kernel)) ggL_law_X1_wouldLand
set_option maxRecDepth 20000 in
theorem ggL_law_L_below : GoodIn wsL_law wsL_below := goodIn_r _ [70, 71] rfl (by decide +kernel)
set_option maxRecDepth 20000 in
theorem gL_law_L_below : GoodIn wsL_law (va_wsS RL 15 yL_below wsL_below) := goodIn_app (goodIn_of _ (by decide +kernel)) ggL_law_L_below
set_option maxRecDepth 20000 in
theorem ggL_law_X1_asBeforeIn : GoodIn wsL_law wsX1_asBeforeIn := goodIn_ca (goodIn_r _ [319, 22, 21, 113, 114, 115, 2, 116, 107, 108, 117, 118, 119, 20, 120, 37, 257, 258, 259, 260, 38, 39, 27, 28, 29, 30, 31, 32, 261, 262, 263, 48, 49, 218, 176, 177, 178, 179, 180, 181, 182, 125, 126, 127, 128, 183, 184, 185, 186, 133, 134, 187, 320, 321, 322, 323, 384, 385, 386, 387, 388, 389, 390, 391, 392, 393, 394] rfl (by decide +kernel)) (goodIn_sub (fun _ h => List.mem_append_left _ (List.mem_append_right _ h)) (by decide +kernel))
set_option maxRecDepth 20000 in
theorem gL_law_X1_asBeforeIn : GoodIn wsL_law (wsV RL 124 RX1 yX1_asBeforeIn wsX1_asBeforeIn) := goodIn_app (goodIn_of _ (by decide +kernel)) ggL_law_X1_asBeforeIn
set_option maxRecDepth 20000 in
theorem ggL_law_X1_lastLands : GoodIn wsL_law wsX1_lastLands := goodIn_ca (goodIn_ca (goodIn_r _ [343, 22, 21, 113, 114, 115, 2, 116, 107, 108, 117, 118, 119, 20, 120, 37, 81, 82, 83, 84, 85, 257, 258, 259, 260, 38, 39, 27, 28, 29, 30, 31, 32, 261, 262, 263, 48, 49, 218, 176, 177, 178, 179, 180, 181, 182, 125, 126, 127, 128, 183, 184, 185, 186, 133, 134, 187, 384, 385, 386, 387, 388, 389, 390, 391, 392, 393, 394] rfl (by decide +kernel)) (goodIn_sub (fun _ h => List.mem_append_left _ (List.mem_append_right _ h)) (by decide +kernel))) (goodIn_sub (fun _ h => List.mem_append_left _ (List.mem_append_left _ (List.mem_append_right _ h))) (by decide +kernel))
set_option maxRecDepth 20000 in
theorem gL_law_X1_lastLands : GoodIn wsL_law (wsV RL 127 RX1 yX1_lastLands wsX1_lastLands) := goodIn_app (goodIn_of _ (by decide +kernel)) ggL_law_X1_lastLands
set_option maxRecDepth 20000 in
theorem ggL_law_X2_copy : GoodIn wsL_law wsX2_copy := goodIn_r _ [347, 348, 55, 56, 60, 349, 350, 351, 352, 353, 354, 61, 76, 62, 63, 355, 57, 58, 59, 16, 17, 8, 395, 396, 397, 398, 399, 400] rfl (by decide +kernel)
set_option maxRecDepth 20000 in
theorem gL_law_X2_copy : GoodIn wsL_law (wsV RL 130 RX2 yX2_copy wsX2_copy) := goodIn_app (goodIn_of _ (by decide +kernel)) ggL_law_X2_copy
set_option maxRecDepth 20000 in
theorem ggL_law_X1_lost : GoodIn wsL_law wsX1_lost := goodIn_r _ [239, 21, 240, 384, 385, 386, 387, 388, 389, 390, 391, 392, 393, 394] rfl (by decide +kernel)
set_option maxRecDepth 20000 in
theorem gL_law_X1_lost : GoodIn wsL_law (wsV RL 134 RX1 yX1_lost wsX1_lost) := goodIn_app (goodIn_of _ (by decide +kernel)) ggL_law_X1_lost
set_option maxRecDepth 20000 in
theorem ggL_law_X1_binOf : GoodIn wsL_law wsX1_binOf := goodIn_ca (goodIn_r _ [310, 21, 311, 113, 114, 115, 2, 116, 107, 108, 117, 118, 119, 20, 120, 37, 273, 133, 134, 384, 385, 386, 387, 388, 389, 390, 391, 392, 393, 394] rfl (by decide +kernel)) (goodIn_sub (fun _ h => List.mem_append_left _ (List.mem_append_right _ h)) (by decide +kernel))
set_option maxRecDepth 20000 in
theorem gL_law_X1_binOf : GoodIn wsL_law (wsV RL 137 RX1 yX1_binOf wsX1_binOf) := goodIn_app (goodIn_of _ (by decide +kernel)) ggL_law_X1_binOf
set_option maxRecDepth 20000 in
theorem ggL_law_X1_meanInBins : GoodIn wsL_law wsX1_meanInBins := goodIn_r _ [361, 21, 226, 227, 228, 2, 229, 230, 209, 210, 211, 20, 212, 30, 384, 385, 386, 387, 388, 389, 390, 391, 392, 393, 394] rfl (by decide +kernel)
set_option maxRecDepth 20000 in
theorem gL_law_X1_meanInBins : GoodIn wsL_law (wsV RL 140 RX1 yX1_meanInBins wsX1_meanInBins) := goodIn_app (goodIn_of _ (by decide +kernel)) ggL_law_X1_meanInBins
set_option maxRecDepth 20000 in
theorem ggL_law_X1_drop : GoodIn wsL_law wsX1_drop := goodIn_ca (goodIn_r _ [217, 21, 113, 114, 115, 2, 116, 107, 108, 117, 118, 119, 20, 120, 37, 218, 176, 177, 178, 38, 39, 30, 179, 180, 181, 182, 125, 126, 127, 128, 183, 184, 185, 186, 27, 29, 28, 133, 134, 48, 49, 187, 384, 385, 386, 387, 388, 389, 390, 391, 392, 393, 394] rfl (by decide +kernel)) (goodIn_sub (fun _ h => List.mem_append_left _ (List.mem_append_right _ h)) (by decide +kernel))
set_option maxRecDepth 20000 in
theorem gL_law_X1_drop : GoodIn wsL_law (wsV RL 61 RX1 yX1_drop wsX1_drop) := goodIn_app (goodIn_of _ (by decide +kernel)) ggL_law_X1_drop
set_option maxRecDepth 20000 in
theorem ggL_law_X2_drop : GoodIn wsL_law wsX2_drop := goodIn_r _ [199, 60, 76, 61, 200, 201, 202, 56, 203, 204, 395, 396, 397, 398, 399, 400] rfl (by decide +kernel)
set_option maxRecDepth 20000 in
theorem gL_law_X2_drop : GoodIn wsL_law (wsV RL 65 RX2 yX2_drop wsX2_drop) := goodIn_app (goodIn_of _ (by decide +kernel)) ggL_law_X2_drop
set_option maxRecDepth 20000 in
theorem ggL_law_X2_hasSame : GoodIn wsL_law wsX2_hasSame := goodIn_r _ [365, 60, 61, 395, 396, 397, 398, 399, 400] rfl (by decide +kernel)
set_option maxRecDepth 20000 in
theorem gL_law_X2_hasSame : GoodIn wsL_law (wsV RL 146 RX2 yX2_hasSame wsX2_hasSame) := goodIn_app (goodIn_of _ (by decide +kernel)) ggL_law_X2_hasSame
set_option maxRecDepth 20000 in
theorem ggL_law_X1_wouldRun : GoodIn wsL_law wsX1_wouldRun := goodIn_ca (goodIn_r _ [282, 22, 21, 160, 161, 2, 162, 107, 108, 257, 258, 259, 20, 260, 37, 38, 39, 27, 28, 29, 30, 31, 32, 261, 262, 263, 48, 49, 171, 172, 173, 174, 133, 134, 175, 176, 177, 178, 179, 180, 181, 182, 125, 126, 127, 128, 183, 184, 185, 186, 187, 118, 119, 120, 188, 189, 190, 191, 384, 385, 386, 387, 388, 389, 390, 391, 392, 393, 394] rfl (by decide +kernel)) (goodIn_sub (fun _ h => List.mem_append_left _ (List.mem_append_right _ h)) (by decide +kernel))
set_option maxRecDepth 20000 in
theorem gL_law_X1_wouldRun : GoodIn wsL_law (wsV RL 150 RX1 yX1_wouldRun wsX1_wouldRun) := goodIn_app (goodIn_of _ (by decide +kernel)) ggL_law_X1_wouldRun
set_option maxRecDepth 20000 in
theorem ggL_law_X1_marblesIn : GoodIn wsL_law wsX1_marblesIn := goodIn_ca (goodIn_r _ [271, 21, 272, 160, 161, 2, 162, 107, 108, 273, 133, 134, 384, 385, 386, 387, 388, 389, 390, 391, 392, 393, 394] rfl (by decide +kernel)) (goodIn_sub (fun _ h => List.mem_append_left _ (List.mem_append_right _ h)) (by decide +kernel))
set_option maxRecDepth 20000 in
theorem gL_law_X1_marblesIn : GoodIn wsL_law (wsV RL 153 RX1 yX1_marblesIn wsX1_marblesIn) := goodIn_app (goodIn_of _ (by decide +kernel)) ggL_law_X1_marblesIn
set_option maxRecDepth 20000 in
theorem ggL_law_X1_run : GoodIn wsL_law wsX1_run := goodIn_ca (goodIn_ca (goodIn_r _ [170, 21, 160, 161, 2, 162, 107, 108, 81, 82, 83, 84, 85, 171, 172, 173, 20, 174, 32, 31, 133, 134, 48, 49, 175, 176, 177, 178, 38, 39, 30, 179, 180, 181, 182, 125, 126, 127, 128, 37, 183, 184, 185, 186, 27, 29, 28, 187, 118, 119, 120, 188, 189, 190, 191, 384, 385, 386, 387, 388, 389, 390, 391, 392, 393, 394] rfl (by decide +kernel)) (goodIn_sub (fun _ h => List.mem_append_left _ (List.mem_append_right _ h)) (by decide +kernel))) (goodIn_sub (fun _ h => List.mem_append_left _ (List.mem_append_left _ (List.mem_append_right _ h))) (by decide +kernel))
set_option maxRecDepth 20000 in
theorem gL_law_X1_run : GoodIn wsL_law (wsV RL 53 RX1 yX1_run wsX1_run) := goodIn_app (goodIn_of _ (by decide +kernel)) ggL_law_X1_run
set_option maxRecDepth 20000 in
theorem ggL_law_X2_run : GoodIn wsL_law wsX2_run := goodIn_r _ [195, 63, 62, 61, 196, 197, 198, 56, 199, 60, 76, 200, 201, 202, 203, 204, 395, 396, 397, 398, 399, 400] rfl (by decide +kernel)
set_option maxRecDepth 20000 in
theorem gL_law_X2_run : GoodIn wsL_law (wsV RL 56 RX2 yX2_run wsX2_run) := goodIn_app (goodIn_of _ (by decide +kernel)) ggL_law_X2_run
set_option maxRecDepth 20000 in
theorem ggL_law_X2_isSame : GoodIn wsL_law wsX2_isSame := goodIn_ca (goodIn_r _ [371, 60, 61, 63, 62, 76, 372, 292, 293, 2, 294, 21, 99, 100, 101, 102, 103, 104, 105, 106, 107, 108, 109, 110, 111, 20, 112, 38, 113, 114, 115, 116, 117, 118, 119, 120, 37, 145, 126, 127, 128, 146, 130, 131, 132, 27, 133, 134, 373, 296, 297, 298, 155, 152, 153, 154, 29, 129, 374, 300, 301, 302, 303, 304, 305, 306, 375, 284, 285, 286, 287, 288, 289, 290, 125, 151, 376, 308, 309, 310, 311, 273, 377, 269, 270, 271, 272, 160, 161, 162, 378, 275, 276, 277, 278, 379, 227, 228, 229, 230, 380, 232, 233, 234, 235, 381, 237, 238, 239, 240, 382, 242, 243, 244, 245, 246, 247, 248, 383, 359, 360, 361, 226, 209, 210, 211, 212, 30, 395, 396, 397, 398, 399, 400, 384, 385, 386, 387, 388, 389, 390, 391, 392, 393, 394] rfl (by decide +kernel)) (goodIn_sub (fun _ h => List.mem_append_left _ (List.mem_append_right _ h)) (by decide +kernel))
set_option maxRecDepth 20000 in
theorem gL_law_X2_isSame : GoodIn wsL_law (wsV RL 159 RX2 yX2_isSame wsX2_isSame) := goodIn_app (goodIn_of _ (by decide +kernel)) ggL_law_X2_isSame
theorem dL_law_0 : decode cL_law 0 = .ok (.new 30, 3) := by decide +kernel
theorem dL_law_3 : decode cL_law 3 = .ok (.dup, 1) := by decide +kernel
theorem dL_law_4 : decode cL_law 4 = .ok (.invokespecial 77, 3) := by decide +kernel
theorem dL_law_7 : decode cL_law 7 = .ok (.astore_n 1, 1) := by decide +kernel
theorem dL_law_8 : decode cL_law 8 = .ok (.aload_n 1, 1) := by decide +kernel
theorem dL_law_9 : decode cL_law 9 = .ok (.aload_n 0, 1) := by decide +kernel
theorem dL_law_10 : decode cL_law 10 = .ok (.invokestatic 78, 3) := by decide +kernel
theorem dL_law_13 : decode cL_law 13 = .ok (.astore_n 2, 1) := by decide +kernel
theorem dL_law_14 : decode cL_law 14 = .ok (.aload_n 2, 1) := by decide +kernel
theorem dL_law_15 : decode cL_law 15 = .ok (.ifnonnull 5, 3) := by decide +kernel
theorem dL_law_18 : decode cL_law 18 = .ok (.iconst 0, 1) := by decide +kernel
theorem dL_law_19 : decode cL_law 19 = .ok (.ireturn, 1) := by decide +kernel
theorem dL_law_20 : decode cL_law 20 = .ok (.iconst 0, 1) := by decide +kernel
theorem dL_law_21 : decode cL_law 21 = .ok (.istore_n 3, 1) := by decide +kernel
theorem dL_law_22 : decode cL_law 22 = .ok (.iload_n 3, 1) := by decide +kernel
theorem dL_law_23 : decode cL_law 23 = .ok (.bipush 6, 2) := by decide +kernel
theorem dL_law_25 : decode cL_law 25 = .ok (.if_icmp .ge 1008, 3) := by decide +kernel
theorem dL_law_28 : decode cL_law 28 = .ok (.aload_n 0, 1) := by decide +kernel
theorem dL_law_29 : decode cL_law 29 = .ok (.iload_n 3, 1) := by decide +kernel
theorem dL_law_30 : decode cL_law 30 = .ok (.invokestatic 69, 3) := by decide +kernel
theorem dL_law_33 : decode cL_law 33 = .ok (.iconst 2, 1) := by decide +kernel
theorem dL_law_34 : decode cL_law 34 = .ok (.ishr, 1) := by decide +kernel
theorem dL_law_35 : decode cL_law 35 = .ok (.bipush 53, 2) := by decide +kernel
theorem dL_law_37 : decode cL_law 37 = .ok (.iload_n 3, 1) := by decide +kernel
theorem dL_law_38 : decode cL_law 38 = .ok (.imul, 1) := by decide +kernel
theorem dL_law_39 : decode cL_law 39 = .ok (.iadd, 1) := by decide +kernel
theorem dL_law_40 : decode cL_law 40 = .ok (.istore 4, 2) := by decide +kernel
theorem dL_law_42 : decode cL_law 42 = .ok (.iconst 0, 1) := by decide +kernel
theorem dL_law_43 : decode cL_law 43 = .ok (.istore 5, 2) := by decide +kernel
theorem dL_law_45 : decode cL_law 45 = .ok (.iload 5, 2) := by decide +kernel
theorem dL_law_47 : decode cL_law 47 = .ok (.iconst 4, 1) := by decide +kernel
theorem dL_law_48 : decode cL_law 48 = .ok (.if_icmp .ge 32, 3) := by decide +kernel
theorem dL_law_51 : decode cL_law 51 = .ok (.aload_n 1, 1) := by decide +kernel
theorem dL_law_52 : decode cL_law 52 = .ok (.aload_n 2, 1) := by decide +kernel
theorem dL_law_53 : decode cL_law 53 = .ok (.iload 4, 2) := by decide +kernel
theorem dL_law_55 : decode cL_law 55 = .ok (.iconst 3, 1) := by decide +kernel
theorem dL_law_56 : decode cL_law 56 = .ok (.iload 5, 2) := by decide +kernel
theorem dL_law_58 : decode cL_law 58 = .ok (.imul, 1) := by decide +kernel
theorem dL_law_59 : decode cL_law 59 = .ok (.ishr, 1) := by decide +kernel
theorem dL_law_60 : decode cL_law 60 = .ok (.bipush 29, 2) := by decide +kernel
theorem dL_law_62 : decode cL_law 62 = .ok (.iload 5, 2) := by decide +kernel
theorem dL_law_64 : decode cL_law 64 = .ok (.imul, 1) := by decide +kernel
theorem dL_law_65 : decode cL_law 65 = .ok (.iadd, 1) := by decide +kernel
theorem dL_law_66 : decode cL_law 66 = .ok (.invokestatic 73, 3) := by decide +kernel
theorem dL_law_69 : decode cL_law 69 = .ok (.ifCond .ne 5, 3) := by decide +kernel
theorem dL_law_72 : decode cL_law 72 = .ok (.iconst 0, 1) := by decide +kernel
theorem dL_law_73 : decode cL_law 73 = .ok (.ireturn, 1) := by decide +kernel
theorem dL_law_74 : decode cL_law 74 = .ok (.iinc 5 1, 3) := by decide +kernel
theorem dL_law_77 : decode cL_law 77 = .ok (.goto (-32), 3) := by decide +kernel
theorem dL_law_80 : decode cL_law 80 = .ok (.aload_n 1, 1) := by decide +kernel
theorem dL_law_81 : decode cL_law 81 = .ok (.invokevirtual 82, 3) := by decide +kernel
theorem dL_law_84 : decode cL_law 84 = .ok (.lstore 5, 2) := by decide +kernel
theorem dL_law_86 : decode cL_law 86 = .ok (.aload_n 1, 1) := by decide +kernel
theorem dL_law_87 : decode cL_law 87 = .ok (.invokevirtual 86, 3) := by decide +kernel
theorem dL_law_90 : decode cL_law 90 = .ok (.istore 7, 2) := by decide +kernel
theorem dL_law_92 : decode cL_law 92 = .ok (.aload_n 1, 1) := by decide +kernel
theorem dL_law_93 : decode cL_law 93 = .ok (.invokevirtual 89, 3) := by decide +kernel
theorem dL_law_96 : decode cL_law 96 = .ok (.istore 8, 2) := by decide +kernel
theorem dL_law_98 : decode cL_law 98 = .ok (.iconst 0, 1) := by decide +kernel
theorem dL_law_99 : decode cL_law 99 = .ok (.istore 9, 2) := by decide +kernel
theorem dL_law_101 : decode cL_law 101 = .ok (.iconst 0, 1) := by decide +kernel
theorem dL_law_102 : decode cL_law 102 = .ok (.istore 10, 2) := by decide +kernel
theorem dL_law_104 : decode cL_law 104 = .ok (.iload 10, 2) := by decide +kernel
theorem dL_law_106 : decode cL_law 106 = .ok (.iload 8, 2) := by decide +kernel
theorem dL_law_108 : decode cL_law 108 = .ok (.if_icmp .ge 153, 3) := by decide +kernel
theorem dL_law_111 : decode cL_law 111 = .ok (.iconst 0, 1) := by decide +kernel
theorem dL_law_112 : decode cL_law 112 = .ok (.istore 11, 2) := by decide +kernel
theorem dL_law_114 : decode cL_law 114 = .ok (.iconst 0, 1) := by decide +kernel
theorem dL_law_115 : decode cL_law 115 = .ok (.istore 12, 2) := by decide +kernel
theorem dL_law_117 : decode cL_law 117 = .ok (.iload 12, 2) := by decide +kernel
theorem dL_law_119 : decode cL_law 119 = .ok (.iload 7, 2) := by decide +kernel
theorem dL_law_121 : decode cL_law 121 = .ok (.if_icmp .ge 103, 3) := by decide +kernel
theorem dL_law_124 : decode cL_law 124 = .ok (.iload 11, 2) := by decide +kernel
theorem dL_law_126 : decode cL_law 126 = .ok (.aload_n 1, 1) := by decide +kernel
theorem dL_law_127 : decode cL_law 127 = .ok (.iload 10, 2) := by decide +kernel
theorem dL_law_129 : decode cL_law 129 = .ok (.iload 12, 2) := by decide +kernel
theorem dL_law_131 : decode cL_law 131 = .ok (.invokevirtual 92, 3) := by decide +kernel
theorem dL_law_134 : decode cL_law 134 = .ok (.iconst 3, 1) := by decide +kernel
theorem dL_law_135 : decode cL_law 135 = .ok (.if_icmp .ne 7, 3) := by decide +kernel
theorem dL_law_138 : decode cL_law 138 = .ok (.iconst 1, 1) := by decide +kernel
theorem dL_law_139 : decode cL_law 139 = .ok (.goto 4, 3) := by decide +kernel
theorem dL_law_142 : decode cL_law 142 = .ok (.iconst 0, 1) := by decide +kernel
theorem dL_law_143 : decode cL_law 143 = .ok (.iadd, 1) := by decide +kernel
theorem dL_law_144 : decode cL_law 144 = .ok (.istore 11, 2) := by decide +kernel
theorem dL_law_146 : decode cL_law 146 = .ok (.aload_n 1, 1) := by decide +kernel
theorem dL_law_147 : decode cL_law 147 = .ok (.iload 10, 2) := by decide +kernel
theorem dL_law_149 : decode cL_law 149 = .ok (.iload 12, 2) := by decide +kernel
theorem dL_law_151 : decode cL_law 151 = .ok (.invokevirtual 95, 3) := by decide +kernel
theorem dL_law_154 : decode cL_law 154 = .ok (.ifCond .eq 15, 3) := by decide +kernel
theorem dL_law_157 : decode cL_law 157 = .ok (.aload_n 1, 1) := by decide +kernel
theorem dL_law_158 : decode cL_law 158 = .ok (.iload 10, 2) := by decide +kernel
theorem dL_law_160 : decode cL_law 160 = .ok (.iload 12, 2) := by decide +kernel
theorem dL_law_162 : decode cL_law 162 = .ok (.invokevirtual 92, 3) := by decide +kernel
theorem dL_law_165 : decode cL_law 165 = .ok (.iconst 3, 1) := by decide +kernel
theorem dL_law_166 : decode cL_law 166 = .ok (.if_icmp .ne 50, 3) := by decide +kernel
theorem dL_law_169 : decode cL_law 169 = .ok (.aload_n 1, 1) := by decide +kernel
theorem dL_law_170 : decode cL_law 170 = .ok (.iload 10, 2) := by decide +kernel
theorem dL_law_172 : decode cL_law 172 = .ok (.iload 12, 2) := by decide +kernel
theorem dL_law_174 : decode cL_law 174 = .ok (.invokevirtual 98, 3) := by decide +kernel
theorem dL_law_177 : decode cL_law 177 = .ok (.ifCond .lt 39, 3) := by decide +kernel
theorem dL_law_180 : decode cL_law 180 = .ok (.aload_n 1, 1) := by decide +kernel
theorem dL_law_181 : decode cL_law 181 = .ok (.iload 10, 2) := by decide +kernel
theorem dL_law_183 : decode cL_law 183 = .ok (.iload 12, 2) := by decide +kernel
theorem dL_law_185 : decode cL_law 185 = .ok (.invokevirtual 98, 3) := by decide +kernel
theorem dL_law_188 : decode cL_law 188 = .ok (.ifCond .le 15, 3) := by decide +kernel
theorem dL_law_191 : decode cL_law 191 = .ok (.aload_n 1, 1) := by decide +kernel
theorem dL_law_192 : decode cL_law 192 = .ok (.iload 10, 2) := by decide +kernel
theorem dL_law_194 : decode cL_law 194 = .ok (.iload 12, 2) := by decide +kernel
theorem dL_law_196 : decode cL_law 196 = .ok (.invokevirtual 92, 3) := by decide +kernel
theorem dL_law_199 : decode cL_law 199 = .ok (.iconst 5, 1) := by decide +kernel
theorem dL_law_200 : decode cL_law 200 = .ok (.if_icmp .ne 16, 3) := by decide +kernel
theorem dL_law_203 : decode cL_law 203 = .ok (.aload_n 1, 1) := by decide +kernel
theorem dL_law_204 : decode cL_law 204 = .ok (.iload 10, 2) := by decide +kernel
theorem dL_law_206 : decode cL_law 206 = .ok (.iload 12, 2) := by decide +kernel
theorem dL_law_208 : decode cL_law 208 = .ok (.invokevirtual 98, 3) := by decide +kernel
theorem dL_law_211 : decode cL_law 211 = .ok (.bipush 8, 2) := by decide +kernel
theorem dL_law_213 : decode cL_law 213 = .ok (.if_icmp .le 5, 3) := by decide +kernel
theorem dL_law_216 : decode cL_law 216 = .ok (.iconst 0, 1) := by decide +kernel
theorem dL_law_217 : decode cL_law 217 = .ok (.ireturn, 1) := by decide +kernel
theorem dL_law_218 : decode cL_law 218 = .ok (.iinc 12 1, 3) := by decide +kernel
theorem dL_law_221 : decode cL_law 221 = .ok (.goto (-104), 3) := by decide +kernel
theorem dL_law_224 : decode cL_law 224 = .ok (.iload 9, 2) := by decide +kernel
theorem dL_law_226 : decode cL_law 226 = .ok (.iload 11, 2) := by decide +kernel
theorem dL_law_228 : decode cL_law 228 = .ok (.iadd, 1) := by decide +kernel
theorem dL_law_229 : decode cL_law 229 = .ok (.istore 9, 2) := by decide +kernel
theorem dL_law_231 : decode cL_law 231 = .ok (.aload_n 1, 1) := by decide +kernel
theorem dL_law_232 : decode cL_law 232 = .ok (.iload 10, 2) := by decide +kernel
theorem dL_law_234 : decode cL_law 234 = .ok (.invokevirtual 101, 3) := by decide +kernel
theorem dL_law_237 : decode cL_law 237 = .ok (.ifCond .lt 16, 3) := by decide +kernel
theorem dL_law_240 : decode cL_law 240 = .ok (.aload_n 1, 1) := by decide +kernel
theorem dL_law_241 : decode cL_law 241 = .ok (.iload 10, 2) := by decide +kernel
theorem dL_law_243 : decode cL_law 243 = .ok (.invokevirtual 101, 3) := by decide +kernel
theorem dL_law_246 : decode cL_law 246 = .ok (.iconst 1, 1) := by decide +kernel
theorem dL_law_247 : decode cL_law 247 = .ok (.iload 11, 2) := by decide +kernel
theorem dL_law_249 : decode cL_law 249 = .ok (.ishl, 1) := by decide +kernel
theorem dL_law_250 : decode cL_law 250 = .ok (.if_icmp .lt 5, 3) := by decide +kernel
theorem dL_law_253 : decode cL_law 253 = .ok (.iconst 0, 1) := by decide +kernel
theorem dL_law_254 : decode cL_law 254 = .ok (.ireturn, 1) := by decide +kernel
theorem dL_law_255 : decode cL_law 255 = .ok (.iinc 10 1, 3) := by decide +kernel
theorem dL_law_258 : decode cL_law 258 = .ok (.goto (-154), 3) := by decide +kernel
theorem dL_law_261 : decode cL_law 261 = .ok (.aload_n 1, 1) := by decide +kernel
theorem dL_law_262 : decode cL_law 262 = .ok (.invokevirtual 104, 3) := by decide +kernel
theorem dL_law_265 : decode cL_law 265 = .ok (.istore 10, 2) := by decide +kernel
theorem dL_law_267 : decode cL_law 267 = .ok (.iload 9, 2) := by decide +kernel
theorem dL_law_269 : decode cL_law 269 = .ok (.aload_n 1, 1) := by decide +kernel
theorem dL_law_270 : decode cL_law 270 = .ok (.invokevirtual 107, 3) := by decide +kernel
theorem dL_law_273 : decode cL_law 273 = .ok (.if_icmp .ne 15, 3) := by decide +kernel
theorem dL_law_276 : decode cL_law 276 = .ok (.iload 10, 2) := by decide +kernel
theorem dL_law_278 : decode cL_law 278 = .ok (.ifCond .lt 10, 3) := by decide +kernel
theorem dL_law_281 : decode cL_law 281 = .ok (.iload 10, 2) := by decide +kernel
theorem dL_law_283 : decode cL_law 283 = .ok (.iload 7, 2) := by decide +kernel
theorem dL_law_285 : decode cL_law 285 = .ok (.if_icmp .lt 5, 3) := by decide +kernel
theorem dL_law_288 : decode cL_law 288 = .ok (.iconst 0, 1) := by decide +kernel
theorem dL_law_289 : decode cL_law 289 = .ok (.ireturn, 1) := by decide +kernel
theorem dL_law_290 : decode cL_law 290 = .ok (.iconst 0, 1) := by decide +kernel
theorem dL_law_291 : decode cL_law 291 = .ok (.istore 11, 2) := by decide +kernel
theorem dL_law_293 : decode cL_law 293 = .ok (.iload 11, 2) := by decide +kernel
theorem dL_law_295 : decode cL_law 295 = .ok (.iload 7, 2) := by decide +kernel
theorem dL_law_297 : decode cL_law 297 = .ok (.if_icmp .ge 202, 3) := by decide +kernel
theorem dL_law_300 : decode cL_law 300 = .ok (.aload_n 1, 1) := by decide +kernel
theorem dL_law_301 : decode cL_law 301 = .ok (.iload 11, 2) := by decide +kernel
theorem dL_law_303 : decode cL_law 303 = .ok (.iconst 0, 1) := by decide +kernel
theorem dL_law_304 : decode cL_law 304 = .ok (.invokevirtual 110, 3) := by decide +kernel
theorem dL_law_307 : decode cL_law 307 = .ok (.istore 12, 2) := by decide +kernel
theorem dL_law_309 : decode cL_law 309 = .ok (.iload 12, 2) := by decide +kernel
theorem dL_law_311 : decode cL_law 311 = .ok (.istore 13, 2) := by decide +kernel
theorem dL_law_313 : decode cL_law 313 = .ok (.iload 12, 2) := by decide +kernel
theorem dL_law_315 : decode cL_law 315 = .ok (.iload 11, 2) := by decide +kernel
theorem dL_law_317 : decode cL_law 317 = .ok (.if_icmp .ne 51, 3) := by decide +kernel
theorem dL_law_320 : decode cL_law 320 = .ok (.aload_n 1, 1) := by decide +kernel
theorem dL_law_321 : decode cL_law 321 = .ok (.iload 11, 2) := by decide +kernel
theorem dL_law_323 : decode cL_law 323 = .ok (.invokevirtual 113, 3) := by decide +kernel
theorem dL_law_326 : decode cL_law 326 = .ok (.aload_n 1, 1) := by decide +kernel
theorem dL_law_327 : decode cL_law 327 = .ok (.iload 10, 2) := by decide +kernel
theorem dL_law_329 : decode cL_law 329 = .ok (.invokevirtual 113, 3) := by decide +kernel
theorem dL_law_332 : decode cL_law 332 = .ok (.if_icmp .gt 36, 3) := by decide +kernel
theorem dL_law_335 : decode cL_law 335 = .ok (.iload 11, 2) := by decide +kernel
theorem dL_law_337 : decode cL_law 337 = .ok (.iload 10, 2) := by decide +kernel
theorem dL_law_339 : decode cL_law 339 = .ok (.if_icmp .ge 18, 3) := by decide +kernel
theorem dL_law_342 : decode cL_law 342 = .ok (.aload_n 1, 1) := by decide +kernel
theorem dL_law_343 : decode cL_law 343 = .ok (.iload 11, 2) := by decide +kernel
theorem dL_law_345 : decode cL_law 345 = .ok (.invokevirtual 113, 3) := by decide +kernel
theorem dL_law_348 : decode cL_law 348 = .ok (.aload_n 1, 1) := by decide +kernel
theorem dL_law_349 : decode cL_law 349 = .ok (.iload 10, 2) := by decide +kernel
theorem dL_law_351 : decode cL_law 351 = .ok (.invokevirtual 113, 3) := by decide +kernel
theorem dL_law_354 : decode cL_law 354 = .ok (.if_icmp .eq 14, 3) := by decide +kernel
theorem dL_law_357 : decode cL_law 357 = .ok (.aload_n 1, 1) := by decide +kernel
theorem dL_law_358 : decode cL_law 358 = .ok (.iload 11, 2) := by decide +kernel
theorem dL_law_360 : decode cL_law 360 = .ok (.invokevirtual 113, 3) := by decide +kernel
theorem dL_law_363 : decode cL_law 363 = .ok (.iload 9, 2) := by decide +kernel
theorem dL_law_365 : decode cL_law 365 = .ok (.if_icmp .le 5, 3) := by decide +kernel
theorem dL_law_368 : decode cL_law 368 = .ok (.iconst 0, 1) := by decide +kernel
theorem dL_law_369 : decode cL_law 369 = .ok (.ireturn, 1) := by decide +kernel
theorem dL_law_370 : decode cL_law 370 = .ok (.iconst 1, 1) := by decide +kernel
theorem dL_law_371 : decode cL_law 371 = .ok (.istore 14, 2) := by decide +kernel
theorem dL_law_373 : decode cL_law 373 = .ok (.iload 14, 2) := by decide +kernel
theorem dL_law_375 : decode cL_law 375 = .ok (.iload 8, 2) := by decide +kernel
theorem dL_law_377 : decode cL_law 377 = .ok (.if_icmp .gt 95, 3) := by decide +kernel
theorem dL_law_380 : decode cL_law 380 = .ok (.iload 14, 2) := by decide +kernel
theorem dL_law_382 : decode cL_law 382 = .ok (.iload 8, 2) := by decide +kernel
theorem dL_law_384 : decode cL_law 384 = .ok (.if_icmp .ge 14, 3) := by decide +kernel
theorem dL_law_387 : decode cL_law 387 = .ok (.aload_n 1, 1) := by decide +kernel
theorem dL_law_388 : decode cL_law 388 = .ok (.iload 11, 2) := by decide +kernel
theorem dL_law_390 : decode cL_law 390 = .ok (.iload 14, 2) := by decide +kernel
theorem dL_law_392 : decode cL_law 392 = .ok (.invokevirtual 110, 3) := by decide +kernel
theorem dL_law_395 : decode cL_law 395 = .ok (.goto 9, 3) := by decide +kernel
theorem dL_law_398 : decode cL_law 398 = .ok (.aload_n 1, 1) := by decide +kernel
theorem dL_law_399 : decode cL_law 399 = .ok (.iload 11, 2) := by decide +kernel
theorem dL_law_401 : decode cL_law 401 = .ok (.invokevirtual 116, 3) := by decide +kernel
theorem dL_law_404 : decode cL_law 404 = .ok (.istore 15, 2) := by decide +kernel
theorem dL_law_406 : decode cL_law 406 = .ok (.iload 15, 2) := by decide +kernel
theorem dL_law_408 : decode cL_law 408 = .ok (.iconst (-1), 1) := by decide +kernel
theorem dL_law_409 : decode cL_law 409 = .ok (.if_icmp .lt 42, 3) := by decide +kernel
theorem dL_law_412 : decode cL_law 412 = .ok (.iload 15, 2) := by decide +kernel
theorem dL_law_414 : decode cL_law 414 = .ok (.iload 7, 2) := by decide +kernel
theorem dL_law_416 : decode cL_law 416 = .ok (.if_icmp .ge 35, 3) := by decide +kernel
theorem dL_law_419 : decode cL_law 419 = .ok (.iload 12, 2) := by decide +kernel
theorem dL_law_421 : decode cL_law 421 = .ok (.ifCond .ge 8, 3) := by decide +kernel
theorem dL_law_424 : decode cL_law 424 = .ok (.iload 15, 2) := by decide +kernel
theorem dL_law_426 : decode cL_law 426 = .ok (.ifCond .ge 25, 3) := by decide +kernel
theorem dL_law_429 : decode cL_law 429 = .ok (.iload 12, 2) := by decide +kernel
theorem dL_law_431 : decode cL_law 431 = .ok (.ifCond .lt 22, 3) := by decide +kernel
theorem dL_law_434 : decode cL_law 434 = .ok (.iload 15, 2) := by decide +kernel
theorem dL_law_436 : decode cL_law 436 = .ok (.ifCond .lt 17, 3) := by decide +kernel
theorem dL_law_439 : decode cL_law 439 = .ok (.iload 15, 2) := by decide +kernel
theorem dL_law_441 : decode cL_law 441 = .ok (.iload 12, 2) := by decide +kernel
theorem dL_law_443 : decode cL_law 443 = .ok (.isub, 1) := by decide +kernel
theorem dL_law_444 : decode cL_law 444 = .ok (.invokestatic 119, 3) := by decide +kernel
theorem dL_law_447 : decode cL_law 447 = .ok (.iconst 1, 1) := by decide +kernel
theorem dL_law_448 : decode cL_law 448 = .ok (.if_icmp .le 5, 3) := by decide +kernel
theorem dL_law_451 : decode cL_law 451 = .ok (.iconst 0, 1) := by decide +kernel
theorem dL_law_452 : decode cL_law 452 = .ok (.ireturn, 1) := by decide +kernel
theorem dL_law_453 : decode cL_law 453 = .ok (.iload 15, 2) := by decide +kernel
theorem dL_law_455 : decode cL_law 455 = .ok (.ifCond .lt 7, 3) := by decide +kernel
theorem dL_law_458 : decode cL_law 458 = .ok (.iload 15, 2) := by decide +kernel
theorem dL_law_460 : decode cL_law 460 = .ok (.istore 13, 2) := by decide +kernel
theorem dL_law_462 : decode cL_law 462 = .ok (.iload 15, 2) := by decide +kernel
theorem dL_law_464 : decode cL_law 464 = .ok (.istore 12, 2) := by decide +kernel
theorem dL_law_466 : decode cL_law 466 = .ok (.iinc 14 1, 3) := by decide +kernel
theorem dL_law_469 : decode cL_law 469 = .ok (.goto (-96), 3) := by decide +kernel
theorem dL_law_472 : decode cL_law 472 = .ok (.iload 12, 2) := by decide +kernel
theorem dL_law_474 : decode cL_law 474 = .ok (.ifCond .ge 19, 3) := by decide +kernel
theorem dL_law_477 : decode cL_law 477 = .ok (.iload 13, 2) := by decide +kernel
theorem dL_law_479 : decode cL_law 479 = .ok (.ifCond .eq 14, 3) := by decide +kernel
theorem dL_law_482 : decode cL_law 482 = .ok (.iload 13, 2) := by decide +kernel
theorem dL_law_484 : decode cL_law 484 = .ok (.iload 7, 2) := by decide +kernel
theorem dL_law_486 : decode cL_law 486 = .ok (.iconst 1, 1) := by decide +kernel
theorem dL_law_487 : decode cL_law 487 = .ok (.isub, 1) := by decide +kernel
theorem dL_law_488 : decode cL_law 488 = .ok (.if_icmp .eq 5, 3) := by decide +kernel
theorem dL_law_491 : decode cL_law 491 = .ok (.iconst 0, 1) := by decide +kernel
theorem dL_law_492 : decode cL_law 492 = .ok (.ireturn, 1) := by decide +kernel
theorem dL_law_493 : decode cL_law 493 = .ok (.iinc 11 1, 3) := by decide +kernel
theorem dL_law_496 : decode cL_law 496 = .ok (.goto (-203), 3) := by decide +kernel
theorem dL_law_499 : decode cL_law 499 = .ok (.iload 4, 2) := by decide +kernel
theorem dL_law_501 : decode cL_law 501 = .ok (.iconst 5, 1) := by decide +kernel
theorem dL_law_502 : decode cL_law 502 = .ok (.ishr, 1) := by decide +kernel
theorem dL_law_503 : decode cL_law 503 = .ok (.iload 7, 2) := by decide +kernel
theorem dL_law_505 : decode cL_law 505 = .ok (.invokestatic 15, 3) := by decide +kernel
theorem dL_law_508 : decode cL_law 508 = .ok (.istore 11, 2) := by decide +kernel
theorem dL_law_510 : decode cL_law 510 = .ok (.aload_n 1, 1) := by decide +kernel
theorem dL_law_511 : decode cL_law 511 = .ok (.iload 11, 2) := by decide +kernel
theorem dL_law_513 : decode cL_law 513 = .ok (.invokevirtual 124, 3) := by decide +kernel
theorem dL_law_516 : decode cL_law 516 = .ok (.istore 12, 2) := by decide +kernel
theorem dL_law_518 : decode cL_law 518 = .ok (.iconst 1, 1) := by decide +kernel
theorem dL_law_519 : decode cL_law 519 = .ok (.iload 4, 2) := by decide +kernel
theorem dL_law_521 : decode cL_law 521 = .ok (.bipush 6, 2) := by decide +kernel
theorem dL_law_523 : decode cL_law 523 = .ok (.ishr, 1) := by decide +kernel
theorem dL_law_524 : decode cL_law 524 = .ok (.bipush 10, 2) := by decide +kernel
theorem dL_law_526 : decode cL_law 526 = .ok (.invokestatic 15, 3) := by decide +kernel
theorem dL_law_529 : decode cL_law 529 = .ok (.iadd, 1) := by decide +kernel
theorem dL_law_530 : decode cL_law 530 = .ok (.istore 13, 2) := by decide +kernel
theorem dL_law_532 : decode cL_law 532 = .ok (.aload_n 1, 1) := by decide +kernel
theorem dL_law_533 : decode cL_law 533 = .ok (.iload 11, 2) := by decide +kernel
theorem dL_law_535 : decode cL_law 535 = .ok (.iload 13, 2) := by decide +kernel
theorem dL_law_537 : decode cL_law 537 = .ok (.invokevirtual 127, 3) := by decide +kernel
theorem dL_law_540 : decode cL_law 540 = .ok (.istore 14, 2) := by decide +kernel

theorem dL_below_0 : decode cL_below 0 = .ok (.iload_n 0, 1) := by decide +kernel
theorem dL_below_1 : decode cL_below 1 = .ok (.ldc 7, 2) := by decide +kernel
theorem dL_below_3 : decode cL_below 3 = .ok (.iand, 1) := by decide +kernel
theorem dL_below_4 : decode cL_below 4 = .ok (.iload_n 1, 1) := by decide +kernel
theorem dL_below_5 : decode cL_below 5 = .ok (.irem, 1) := by decide +kernel
theorem dL_below_6 : decode cL_below 6 = .ok (.ireturn, 1) := by decide +kernel
theorem dL_cell_0 : decode cL_cell 0 = .ok (.iload_n 1, 1) := by decide +kernel
theorem dL_cell_1 : decode cL_cell 1 = .ok (.aload_n 0, 1) := by decide +kernel
theorem dL_cell_2 : decode cL_cell 2 = .ok (.arraylength, 1) := by decide +kernel
theorem dL_cell_3 : decode cL_cell 3 = .ok (.if_icmp .ge 9, 3) := by decide +kernel
theorem dL_cell_6 : decode cL_cell 6 = .ok (.aload_n 0, 1) := by decide +kernel
theorem dL_cell_7 : decode cL_cell 7 = .ok (.iload_n 1, 1) := by decide +kernel
theorem dL_cell_8 : decode cL_cell 8 = .ok (.iaload, 1) := by decide +kernel
theorem dL_cell_9 : decode cL_cell 9 = .ok (.goto 9, 3) := by decide +kernel
theorem dL_cell_12 : decode cL_cell 12 = .ok (.ldc 8, 2) := by decide +kernel
theorem dL_cell_14 : decode cL_cell 14 = .ok (.iload_n 1, 1) := by decide +kernel
theorem dL_cell_15 : decode cL_cell 15 = .ok (.iconst 3, 1) := by decide +kernel
theorem dL_cell_16 : decode cL_cell 16 = .ok (.iadd, 1) := by decide +kernel
theorem dL_cell_17 : decode cL_cell 17 = .ok (.imul, 1) := by decide +kernel
theorem dL_cell_18 : decode cL_cell 18 = .ok (.ireturn, 1) := by decide +kernel
set_option maxRecDepth 20000 in
theorem ggL_act_L_below : GoodIn wsL_act wsL_below := goodIn_r _ [10, 11] rfl (by decide +kernel)
set_option maxRecDepth 20000 in
theorem gL_act_L_below : GoodIn wsL_act (va_wsS RL 15 yL_below wsL_below) := goodIn_app (goodIn_of _ (by decide +kernel)) ggL_act_L_below
set_option maxRecDepth 20000 in
theorem ggL_act_X2_lay : GoodIn wsL_act wsX2_lay := goodIn_r _ [16, 17, 4, 18, 19, 20, 182, 183, 184, 185, 186, 187] rfl (by decide +kernel)
set_option maxRecDepth 20000 in
theorem gL_act_X2_lay : GoodIn wsL_act (wsV RL 25 RX2 yX2_lay wsX2_lay) := goodIn_app (goodIn_of _ (by decide +kernel)) ggL_act_X2_lay
set_option maxRecDepth 20000 in
theorem ggL_act_X1_lay : GoodIn wsL_act wsX1_lay := goodIn_ca (goodIn_r _ [25, 26, 27, 28, 24, 29, 30, 31, 32, 33, 34, 35, 36, 37, 38, 39, 40, 41, 42, 43, 44, 45, 46, 47, 48, 49, 50, 51, 52, 53, 54, 188, 189, 190, 191, 192, 193, 194, 195, 196, 197, 198] rfl (by decide +kernel)) (goodIn_sub (fun _ h => List.mem_cons_of_mem _ (List.mem_append_left _ (List.mem_append_left _ (List.mem_append_right _ h)))) (by decide +kernel))
set_option maxRecDepth 20000 in
theorem gL_act_X1_lay : GoodIn wsL_act (wsV RL 29 RX1 yX1_lay wsX1_lay) := goodIn_app (goodIn_of _ (by decide +kernel)) ggL_act_X1_lay
set_option maxRecDepth 20000 in
theorem ggL_act_X1_put : GoodIn wsL_act wsX1_put := goodIn_ca (goodIn_ca (goodIn_r _ [58, 26, 59, 60, 61, 24, 62, 63, 64, 65, 66, 67, 68, 69, 70, 71, 35, 72, 38, 73, 74, 75, 76, 77, 78, 79, 80, 37, 27, 28, 29, 30, 31, 81, 82, 83, 84, 40, 41, 42, 85, 86, 87, 88, 89, 90, 91, 92, 93, 94, 53, 54, 188, 189, 190, 191, 192, 193, 194, 195, 196, 197, 198] rfl (by decide +kernel)) (goodIn_sub (fun _ h => List.mem_cons_of_mem _ (List.mem_append_left _ (List.mem_append_right _ h))) (by decide +kernel))) (goodIn_sub (fun _ h => List.mem_cons_of_mem _ (List.mem_append_left _ (List.mem_append_left _ (List.mem_append_right _ h)))) (by decide +kernel))
set_option maxRecDepth 20000 in
theorem gL_act_X1_put : GoodIn wsL_act (wsV RL 33 RX1 yX1_put wsX1_put) := goodIn_app (goodIn_of _ (by decide +kernel)) ggL_act_X1_put
set_option maxRecDepth 20000 in
theorem ggL_act_X1_putCounter : GoodIn wsL_act wsX1_putCounter := goodIn_ca (goodIn_ca (goodIn_r _ [98, 26, 59, 60, 61, 24, 62, 63, 64, 65, 66, 67, 68, 69, 70, 71, 35, 72, 38, 73, 74, 75, 76, 77, 78, 79, 80, 37, 27, 28, 29, 30, 31, 81, 82, 83, 84, 40, 41, 42, 85, 86, 87, 88, 89, 90, 91, 92, 93, 94, 53, 54, 188, 189, 190, 191, 192, 193, 194, 195, 196, 197, 198] rfl (by decide +kernel)) (goodIn_sub (fun _ h => List.mem_cons_of_mem _ (List.mem_append_left _ (List.mem_append_right _ h))) (by decide +kernel))) (goodIn_sub (fun _ h => List.mem_cons_of_mem _ (List.mem_append_left _ (List.mem_append_left _ (List.mem_append_right _ h)))) (by decide +kernel))
set_option maxRecDepth 20000 in
theorem gL_act_X1_putCounter : GoodIn wsL_act (wsV RL 37 RX1 yX1_putCounter wsX1_putCounter) := goodIn_app (goodIn_of _ (by decide +kernel)) ggL_act_X1_putCounter
set_option maxRecDepth 20000 in
theorem ggL_act_X1_turn : GoodIn wsL_act wsX1_turn := goodIn_ca (goodIn_ca (goodIn_r _ [102, 103, 104, 26, 59, 60, 61, 24, 62, 63, 64, 65, 66, 67, 68, 69, 70, 71, 35, 72, 38, 73, 74, 75, 76, 77, 78, 79, 80, 37, 105, 86, 87, 88, 106, 90, 91, 92, 40, 93, 94, 107, 108, 109, 110, 42, 111, 112, 113, 114, 89, 53, 54, 115, 188, 189, 190, 191, 192, 193, 194, 195, 196, 197, 198] rfl (by decide +kernel)) (goodIn_sub (fun _ h => List.mem_cons_of_mem _ (List.mem_append_right _ h)) (by decide +kernel))) (goodIn_sub (fun _ h => List.mem_cons_of_mem _ (List.mem_append_left _ (List.mem_append_right _ h))) (by decide +kernel))
set_option maxRecDepth 20000 in
theorem gL_act_X1_turn : GoodIn wsL_act (wsV RL 40 RX1 yX1_turn wsX1_turn) := goodIn_app (goodIn_of _ (by decide +kernel)) ggL_act_X1_turn
set_option maxRecDepth 20000 in
theorem ggL_act_X1_setHopper : GoodIn wsL_act wsX1_setHopper := goodIn_ca (goodIn_ca (goodIn_r _ [119, 26, 120, 121, 24, 122, 67, 68, 73, 74, 75, 76, 77, 78, 79, 35, 80, 37, 27, 28, 29, 30, 31, 123, 124, 125, 126, 127, 43, 93, 94, 53, 54, 188, 189, 190, 191, 192, 193, 194, 195, 196, 197, 198] rfl (by decide +kernel)) (goodIn_sub (fun _ h => List.mem_cons_of_mem _ (List.mem_append_left _ (List.mem_append_right _ h))) (by decide +kernel))) (goodIn_sub (fun _ h => List.mem_cons_of_mem _ (List.mem_append_left _ (List.mem_append_left _ (List.mem_append_right _ h)))) (by decide +kernel))
set_option maxRecDepth 20000 in
theorem gL_act_X1_setHopper : GoodIn wsL_act (wsV RL 50 RX1 yX1_setHopper wsX1_setHopper) := goodIn_app (goodIn_of _ (by decide +kernel)) ggL_act_X1_setHopper
set_option maxRecDepth 20000 in
theorem ggL_act_X1_run : GoodIn wsL_act wsX1_run := goodIn_ca (goodIn_ca (goodIn_r _ [131, 26, 120, 121, 24, 122, 67, 68, 27, 28, 29, 30, 31, 132, 133, 134, 35, 135, 127, 43, 93, 94, 53, 54, 136, 137, 138, 139, 38, 39, 52, 140, 141, 142, 143, 85, 86, 87, 88, 37, 144, 145, 146, 147, 40, 42, 41, 148, 78, 79, 80, 149, 150, 151, 152, 188, 189, 190, 191, 192, 193, 194, 195, 196, 197, 198] rfl (by decide +kernel)) (goodIn_sub (fun _ h => List.mem_cons_of_mem _ (List.mem_append_left _ (List.mem_append_right _ h))) (by decide +kernel))) (goodIn_sub (fun _ h => List.mem_cons_of_mem _ (List.mem_append_left _ (List.mem_append_left _ (List.mem_append_right _ h)))) (by decide +kernel))
set_option maxRecDepth 20000 in
theorem gL_act_X1_run : GoodIn wsL_act (wsV RL 53 RX1 yX1_run wsX1_run) := goodIn_app (goodIn_of _ (by decide +kernel)) ggL_act_X1_run
set_option maxRecDepth 20000 in
theorem ggL_act_X2_run : GoodIn wsL_act wsX2_run := goodIn_r _ [156, 157, 20, 18, 158, 159, 160, 15, 161, 17, 19, 162, 163, 164, 165, 166, 182, 183, 184, 185, 186, 187] rfl (by decide +kernel)
set_option maxRecDepth 20000 in
theorem gL_act_X2_run : GoodIn wsL_act (wsV RL 56 RX2 yX2_run wsX2_run) := goodIn_app (goodIn_of _ (by decide +kernel)) ggL_act_X2_run
set_option maxRecDepth 20000 in
theorem ggL_act_X1_emptyBins : GoodIn wsL_act wsX1_emptyBins := goodIn_r _ [170, 26, 171, 172, 173, 35, 174, 52, 175, 49, 50, 51, 44, 45, 46, 47, 188, 189, 190, 191, 192, 193, 194, 195, 196, 197, 198] rfl (by decide +kernel)
set_option maxRecDepth 20000 in
theorem gL_act_X1_emptyBins : GoodIn wsL_act (wsV RL 57 RX1 yX1_emptyBins wsX1_emptyBins) := goodIn_app (goodIn_of _ (by decide +kernel)) ggL_act_X1_emptyBins
set_option maxRecDepth 20000 in
theorem ggL_act_X1_drop : GoodIn wsL_act wsX1_drop := goodIn_ca (goodIn_r _ [179, 26, 73, 74, 75, 24, 76, 67, 68, 77, 78, 79, 35, 80, 37, 180, 137, 138, 139, 38, 39, 52, 140, 141, 142, 143, 85, 86, 87, 88, 144, 145, 146, 147, 40, 42, 41, 93, 94, 53, 54, 148, 188, 189, 190, 191, 192, 193, 194, 195, 196, 197, 198] rfl (by decide +kernel)) (goodIn_sub (fun _ h => List.mem_cons_of_mem _ (List.mem_append_left _ (List.mem_append_right _ h))) (by decide +kernel))
set_option maxRecDepth 20000 in
theorem gL_act_X1_drop : GoodIn wsL_act (wsV RL 61 RX1 yX1_drop wsX1_drop) := goodIn_app (goodIn_of _ (by decide +kernel)) ggL_act_X1_drop
set_option maxRecDepth 20000 in
theorem ggL_act_X2_drop : GoodIn wsL_act wsX2_drop := goodIn_r _ [161, 17, 19, 18, 162, 163, 164, 15, 165, 166, 182, 183, 184, 185, 186, 187] rfl (by decide +kernel)
set_option maxRecDepth 20000 in
theorem gL_act_X2_drop : GoodIn wsL_act (wsV RL 65 RX2 yX2_drop wsX2_drop) := goodIn_app (goodIn_of _ (by decide +kernel)) ggL_act_X2_drop
theorem dL_act_0 : decode cL_act 0 = .ok (.iload_n 2, 1) := by decide +kernel
theorem dL_act_1 : decode cL_act 1 = .ok (.iconst 4, 1) := by decide +kernel
theorem dL_act_2 : decode cL_act 2 = .ok (.ishr, 1) := by decide +kernel
theorem dL_act_3 : decode cL_act 3 = .ok (.aload_n 1, 1) := by decide +kernel
theorem dL_act_4 : decode cL_act 4 = .ok (.getfield 9, 3) := by decide +kernel
theorem dL_act_7 : decode cL_act 7 = .ok (.arraylength, 1) := by decide +kernel
theorem dL_act_8 : decode cL_act 8 = .ok (.invokestatic 15, 3) := by decide +kernel
theorem dL_act_11 : decode cL_act 11 = .ok (.istore_n 3, 1) := by decide +kernel
theorem dL_act_12 : decode cL_act 12 = .ok (.iload_n 2, 1) := by decide +kernel
theorem dL_act_13 : decode cL_act 13 = .ok (.bipush 7, 2) := by decide +kernel
theorem dL_act_15 : decode cL_act 15 = .ok (.ishr, 1) := by decide +kernel
theorem dL_act_16 : decode cL_act 16 = .ok (.aload_n 1, 1) := by decide +kernel
theorem dL_act_17 : decode cL_act 17 = .ok (.getfield 21, 3) := by decide +kernel
theorem dL_act_20 : decode cL_act 20 = .ok (.arraylength, 1) := by decide +kernel
theorem dL_act_21 : decode cL_act 21 = .ok (.invokestatic 15, 3) := by decide +kernel
theorem dL_act_24 : decode cL_act 24 = .ok (.istore 4, 2) := by decide +kernel
theorem dL_act_26 : decode cL_act 26 = .ok (.aload_n 1, 1) := by decide +kernel
theorem dL_act_27 : decode cL_act 27 = .ok (.getfield 21, 3) := by decide +kernel
theorem dL_act_30 : decode cL_act 30 = .ok (.iload 4, 2) := by decide +kernel
theorem dL_act_32 : decode cL_act 32 = .ok (.aaload, 1) := by decide +kernel
theorem dL_act_33 : decode cL_act 33 = .ok (.iload_n 3, 1) := by decide +kernel
theorem dL_act_34 : decode cL_act 34 = .ok (.aaload, 1) := by decide +kernel
theorem dL_act_35 : decode cL_act 35 = .ok (.astore 5, 2) := by decide +kernel
theorem dL_act_37 : decode cL_act 37 = .ok (.iconst 1, 1) := by decide +kernel
theorem dL_act_38 : decode cL_act 38 = .ok (.istore 6, 2) := by decide +kernel
theorem dL_act_40 : decode cL_act 40 = .ok (.iload_n 2, 1) := by decide +kernel
theorem dL_act_41 : decode cL_act 41 = .ok (.bipush 16, 2) := by decide +kernel
theorem dL_act_43 : decode cL_act 43 = .ok (.invokestatic 15, 3) := by decide +kernel
theorem dL_act_46 : decode cL_act 46 = .ok (.tableswitch 523 0 12 #[66, 133, 133, 133, 133, 133, 209, 273, 337, 337, 405, 405, 453], 66) := by decide +kernel
theorem dL_act_112 : decode cL_act 112 = .ok (.iload_n 2, 1) := by decide +kernel
theorem dL_act_113 : decode cL_act 113 = .ok (.iconst 5, 1) := by decide +kernel
theorem dL_act_114 : decode cL_act 114 = .ok (.ishr, 1) := by decide +kernel
theorem dL_act_115 : decode cL_act 115 = .ok (.iconst 4, 1) := by decide +kernel
theorem dL_act_116 : decode cL_act 116 = .ok (.invokestatic 15, 3) := by decide +kernel
theorem dL_act_119 : decode cL_act 119 = .ok (.ifCond .le 5, 3) := by decide +kernel
theorem dL_act_122 : decode cL_act 122 = .ok (.iconst 1, 1) := by decide +kernel
theorem dL_act_123 : decode cL_act 123 = .ok (.ireturn, 1) := by decide +kernel
theorem dL_act_124 : decode cL_act 124 = .ok (.iconst 2, 1) := by decide +kernel
theorem dL_act_125 : decode cL_act 125 = .ok (.iload_n 2, 1) := by decide +kernel
theorem dL_act_126 : decode cL_act 126 = .ok (.iconst 3, 1) := by decide +kernel
theorem dL_act_127 : decode cL_act 127 = .ok (.ishr, 1) := by decide +kernel
theorem dL_act_128 : decode cL_act 128 = .ok (.bipush 8, 2) := by decide +kernel
theorem dL_act_130 : decode cL_act 130 = .ok (.invokestatic 15, 3) := by decide +kernel
theorem dL_act_133 : decode cL_act 133 = .ok (.iadd, 1) := by decide +kernel
theorem dL_act_134 : decode cL_act 134 = .ok (.istore 7, 2) := by decide +kernel
theorem dL_act_136 : decode cL_act 136 = .ok (.iconst 1, 1) := by decide +kernel
theorem dL_act_137 : decode cL_act 137 = .ok (.iload_n 2, 1) := by decide +kernel
theorem dL_act_138 : decode cL_act 138 = .ok (.bipush 6, 2) := by decide +kernel
theorem dL_act_140 : decode cL_act 140 = .ok (.ishr, 1) := by decide +kernel
theorem dL_act_141 : decode cL_act 141 = .ok (.bipush 8, 2) := by decide +kernel
theorem dL_act_143 : decode cL_act 143 = .ok (.invokestatic 15, 3) := by decide +kernel
theorem dL_act_146 : decode cL_act 146 = .ok (.iadd, 1) := by decide +kernel
theorem dL_act_147 : decode cL_act 147 = .ok (.istore 8, 2) := by decide +kernel
theorem dL_act_149 : decode cL_act 149 = .ok (.aload_n 1, 1) := by decide +kernel
theorem dL_act_150 : decode cL_act 150 = .ok (.iload 7, 2) := by decide +kernel
theorem dL_act_152 : decode cL_act 152 = .ok (.iload 8, 2) := by decide +kernel
theorem dL_act_154 : decode cL_act 154 = .ok (.invokevirtual 25, 3) := by decide +kernel
theorem dL_act_157 : decode cL_act 157 = .ok (.aload_n 0, 1) := by decide +kernel
theorem dL_act_158 : decode cL_act 158 = .ok (.iload 7, 2) := by decide +kernel
theorem dL_act_160 : decode cL_act 160 = .ok (.iload 8, 2) := by decide +kernel
theorem dL_act_162 : decode cL_act 162 = .ok (.invokevirtual 29, 3) := by decide +kernel
theorem dL_act_165 : decode cL_act 165 = .ok (.iload 7, 2) := by decide +kernel
theorem dL_act_167 : decode cL_act 167 = .ok (.iload 8, 2) := by decide +kernel
theorem dL_act_169 : decode cL_act 169 = .ok (.imul, 1) := by decide +kernel
theorem dL_act_170 : decode cL_act 170 = .ok (.if_icmp .ne 7, 3) := by decide +kernel
theorem dL_act_173 : decode cL_act 173 = .ok (.iconst 1, 1) := by decide +kernel
theorem dL_act_174 : decode cL_act 174 = .ok (.goto 4, 3) := by decide +kernel
theorem dL_act_177 : decode cL_act 177 = .ok (.iconst 0, 1) := by decide +kernel
theorem dL_act_178 : decode cL_act 178 = .ok (.ireturn, 1) := by decide +kernel
theorem dL_act_179 : decode cL_act 179 = .ok (.aload 5, 2) := by decide +kernel
theorem dL_act_181 : decode cL_act 181 = .ok (.iconst 0, 1) := by decide +kernel
theorem dL_act_182 : decode cL_act 182 = .ok (.iaload, 1) := by decide +kernel
theorem dL_act_183 : decode cL_act 183 = .ok (.istore 7, 2) := by decide +kernel
theorem dL_act_185 : decode cL_act 185 = .ok (.iload_n 2, 1) := by decide +kernel
theorem dL_act_186 : decode cL_act 186 = .ok (.bipush 8, 2) := by decide +kernel
theorem dL_act_188 : decode cL_act 188 = .ok (.ishr, 1) := by decide +kernel
theorem dL_act_189 : decode cL_act 189 = .ok (.iconst 3, 1) := by decide +kernel
theorem dL_act_190 : decode cL_act 190 = .ok (.invokestatic 15, 3) := by decide +kernel
theorem dL_act_193 : decode cL_act 193 = .ok (.ifCond .ne 7, 3) := by decide +kernel
theorem dL_act_196 : decode cL_act 196 = .ok (.iconst 3, 1) := by decide +kernel
theorem dL_act_197 : decode cL_act 197 = .ok (.goto 11, 3) := by decide +kernel
theorem dL_act_200 : decode cL_act 200 = .ok (.iload_n 2, 1) := by decide +kernel
theorem dL_act_201 : decode cL_act 201 = .ok (.bipush 9, 2) := by decide +kernel
theorem dL_act_203 : decode cL_act 203 = .ok (.ishr, 1) := by decide +kernel
theorem dL_act_204 : decode cL_act 204 = .ok (.iconst 5, 1) := by decide +kernel
theorem dL_act_205 : decode cL_act 205 = .ok (.invokestatic 15, 3) := by decide +kernel
theorem dL_act_208 : decode cL_act 208 = .ok (.istore 8, 2) := by decide +kernel
theorem dL_act_210 : decode cL_act 210 = .ok (.aload_n 1, 1) := by decide +kernel
theorem dL_act_211 : decode cL_act 211 = .ok (.getfield 21, 3) := by decide +kernel
theorem dL_act_214 : decode cL_act 214 = .ok (.iload 4, 2) := by decide +kernel
theorem dL_act_216 : decode cL_act 216 = .ok (.aaload, 1) := by decide +kernel
theorem dL_act_217 : decode cL_act 217 = .ok (.iload_n 3, 1) := by decide +kernel
theorem dL_act_218 : decode cL_act 218 = .ok (.iconst 3, 1) := by decide +kernel
theorem dL_act_219 : decode cL_act 219 = .ok (.newarray .int, 2) := by decide +kernel
theorem dL_act_221 : decode cL_act 221 = .ok (.dup, 1) := by decide +kernel
theorem dL_act_222 : decode cL_act 222 = .ok (.iconst 0, 1) := by decide +kernel
theorem dL_act_223 : decode cL_act 223 = .ok (.iload 8, 2) := by decide +kernel
theorem dL_act_225 : decode cL_act 225 = .ok (.iastore, 1) := by decide +kernel
theorem dL_act_226 : decode cL_act 226 = .ok (.dup, 1) := by decide +kernel
theorem dL_act_227 : decode cL_act 227 = .ok (.iconst 1, 1) := by decide +kernel
theorem dL_act_228 : decode cL_act 228 = .ok (.iconst 0, 1) := by decide +kernel
theorem dL_act_229 : decode cL_act 229 = .ok (.iastore, 1) := by decide +kernel
theorem dL_act_230 : decode cL_act 230 = .ok (.dup, 1) := by decide +kernel
theorem dL_act_231 : decode cL_act 231 = .ok (.iconst 2, 1) := by decide +kernel
theorem dL_act_232 : decode cL_act 232 = .ok (.iconst 0, 1) := by decide +kernel
theorem dL_act_233 : decode cL_act 233 = .ok (.iastore, 1) := by decide +kernel
theorem dL_act_234 : decode cL_act 234 = .ok (.aastore, 1) := by decide +kernel
theorem dL_act_235 : decode cL_act 235 = .ok (.aload_n 0, 1) := by decide +kernel
theorem dL_act_236 : decode cL_act 236 = .ok (.iload 4, 2) := by decide +kernel
theorem dL_act_238 : decode cL_act 238 = .ok (.iload_n 3, 1) := by decide +kernel
theorem dL_act_239 : decode cL_act 239 = .ok (.iload 8, 2) := by decide +kernel
theorem dL_act_241 : decode cL_act 241 = .ok (.invokevirtual 33, 3) := by decide +kernel
theorem dL_act_244 : decode cL_act 244 = .ok (.iload 7, 2) := by decide +kernel
theorem dL_act_246 : decode cL_act 246 = .ok (.if_icmp .ne 7, 3) := by decide +kernel
theorem dL_act_249 : decode cL_act 249 = .ok (.iconst 1, 1) := by decide +kernel
theorem dL_act_250 : decode cL_act 250 = .ok (.goto 4, 3) := by decide +kernel
theorem dL_act_253 : decode cL_act 253 = .ok (.iconst 0, 1) := by decide +kernel
theorem dL_act_254 : decode cL_act 254 = .ok (.ireturn, 1) := by decide +kernel
theorem dL_act_255 : decode cL_act 255 = .ok (.aload 5, 2) := by decide +kernel
theorem dL_act_257 : decode cL_act 257 = .ok (.iconst 0, 1) := by decide +kernel
theorem dL_act_258 : decode cL_act 258 = .ok (.iaload, 1) := by decide +kernel
theorem dL_act_259 : decode cL_act 259 = .ok (.istore 7, 2) := by decide +kernel
theorem dL_act_261 : decode cL_act 261 = .ok (.iconst 2, 1) := by decide +kernel
theorem dL_act_262 : decode cL_act 262 = .ok (.iload_n 2, 1) := by decide +kernel
theorem dL_act_263 : decode cL_act 263 = .ok (.bipush 9, 2) := by decide +kernel
theorem dL_act_265 : decode cL_act 265 = .ok (.ishr, 1) := by decide +kernel
theorem dL_act_266 : decode cL_act 266 = .ok (.bipush 8, 2) := by decide +kernel
theorem dL_act_268 : decode cL_act 268 = .ok (.invokestatic 15, 3) := by decide +kernel
theorem dL_act_271 : decode cL_act 271 = .ok (.iadd, 1) := by decide +kernel
theorem dL_act_272 : decode cL_act 272 = .ok (.istore 8, 2) := by decide +kernel
theorem dL_act_274 : decode cL_act 274 = .ok (.aload_n 1, 1) := by decide +kernel
theorem dL_act_275 : decode cL_act 275 = .ok (.getfield 21, 3) := by decide +kernel
theorem dL_act_278 : decode cL_act 278 = .ok (.iload 4, 2) := by decide +kernel
theorem dL_act_280 : decode cL_act 280 = .ok (.aaload, 1) := by decide +kernel
theorem dL_act_281 : decode cL_act 281 = .ok (.iload_n 3, 1) := by decide +kernel
theorem dL_act_282 : decode cL_act 282 = .ok (.iconst 3, 1) := by decide +kernel
theorem dL_act_283 : decode cL_act 283 = .ok (.newarray .int, 2) := by decide +kernel
theorem dL_act_285 : decode cL_act 285 = .ok (.dup, 1) := by decide +kernel
theorem dL_act_286 : decode cL_act 286 = .ok (.iconst 0, 1) := by decide +kernel
theorem dL_act_287 : decode cL_act 287 = .ok (.iconst 5, 1) := by decide +kernel
theorem dL_act_288 : decode cL_act 288 = .ok (.iastore, 1) := by decide +kernel
theorem dL_act_289 : decode cL_act 289 = .ok (.dup, 1) := by decide +kernel
theorem dL_act_290 : decode cL_act 290 = .ok (.iconst 1, 1) := by decide +kernel
theorem dL_act_291 : decode cL_act 291 = .ok (.iload 8, 2) := by decide +kernel
theorem dL_act_293 : decode cL_act 293 = .ok (.iastore, 1) := by decide +kernel
theorem dL_act_294 : decode cL_act 294 = .ok (.dup, 1) := by decide +kernel
theorem dL_act_295 : decode cL_act 295 = .ok (.iconst 2, 1) := by decide +kernel
theorem dL_act_296 : decode cL_act 296 = .ok (.iconst 0, 1) := by decide +kernel
theorem dL_act_297 : decode cL_act 297 = .ok (.iastore, 1) := by decide +kernel
theorem dL_act_298 : decode cL_act 298 = .ok (.aastore, 1) := by decide +kernel
theorem dL_act_299 : decode cL_act 299 = .ok (.aload_n 0, 1) := by decide +kernel
theorem dL_act_300 : decode cL_act 300 = .ok (.iload 4, 2) := by decide +kernel
theorem dL_act_302 : decode cL_act 302 = .ok (.iload_n 3, 1) := by decide +kernel
theorem dL_act_303 : decode cL_act 303 = .ok (.iload 8, 2) := by decide +kernel
theorem dL_act_305 : decode cL_act 305 = .ok (.invokevirtual 37, 3) := by decide +kernel
theorem dL_act_308 : decode cL_act 308 = .ok (.iload 7, 2) := by decide +kernel
theorem dL_act_310 : decode cL_act 310 = .ok (.if_icmp .ne 7, 3) := by decide +kernel
theorem dL_act_313 : decode cL_act 313 = .ok (.iconst 1, 1) := by decide +kernel
theorem dL_act_314 : decode cL_act 314 = .ok (.goto 4, 3) := by decide +kernel
theorem dL_act_317 : decode cL_act 317 = .ok (.iconst 0, 1) := by decide +kernel
theorem dL_act_318 : decode cL_act 318 = .ok (.ireturn, 1) := by decide +kernel
theorem dL_act_319 : decode cL_act 319 = .ok (.aload 5, 2) := by decide +kernel
theorem dL_act_321 : decode cL_act 321 = .ok (.iconst 0, 1) := by decide +kernel
theorem dL_act_322 : decode cL_act 322 = .ok (.iaload, 1) := by decide +kernel
theorem dL_act_323 : decode cL_act 323 = .ok (.iconst 3, 1) := by decide +kernel
theorem dL_act_324 : decode cL_act 324 = .ok (.if_icmp .ne 7, 3) := by decide +kernel
theorem dL_act_327 : decode cL_act 327 = .ok (.iconst 1, 1) := by decide +kernel
theorem dL_act_328 : decode cL_act 328 = .ok (.goto 4, 3) := by decide +kernel
theorem dL_act_331 : decode cL_act 331 = .ok (.iconst 0, 1) := by decide +kernel
theorem dL_act_332 : decode cL_act 332 = .ok (.istore 6, 2) := by decide +kernel
theorem dL_act_334 : decode cL_act 334 = .ok (.iload 6, 2) := by decide +kernel
theorem dL_act_336 : decode cL_act 336 = .ok (.ifCond .eq 13, 3) := by decide +kernel
theorem dL_act_339 : decode cL_act 339 = .ok (.aload 5, 2) := by decide +kernel
theorem dL_act_341 : decode cL_act 341 = .ok (.iconst 2, 1) := by decide +kernel
theorem dL_act_342 : decode cL_act 342 = .ok (.iconst 1, 1) := by decide +kernel
theorem dL_act_343 : decode cL_act 343 = .ok (.aload 5, 2) := by decide +kernel
theorem dL_act_345 : decode cL_act 345 = .ok (.iconst 2, 1) := by decide +kernel
theorem dL_act_346 : decode cL_act 346 = .ok (.iaload, 1) := by decide +kernel
theorem dL_act_347 : decode cL_act 347 = .ok (.isub, 1) := by decide +kernel
theorem dL_act_348 : decode cL_act 348 = .ok (.iastore, 1) := by decide +kernel
theorem dL_act_349 : decode cL_act 349 = .ok (.aload_n 0, 1) := by decide +kernel
theorem dL_act_350 : decode cL_act 350 = .ok (.iload 4, 2) := by decide +kernel
theorem dL_act_352 : decode cL_act 352 = .ok (.iload_n 3, 1) := by decide +kernel
theorem dL_act_353 : decode cL_act 353 = .ok (.invokevirtual 40, 3) := by decide +kernel
theorem dL_act_356 : decode cL_act 356 = .ok (.aload 5, 2) := by decide +kernel
theorem dL_act_358 : decode cL_act 358 = .ok (.iconst 2, 1) := by decide +kernel
theorem dL_act_359 : decode cL_act 359 = .ok (.iaload, 1) := by decide +kernel
theorem dL_act_360 : decode cL_act 360 = .ok (.iconst 1, 1) := by decide +kernel
theorem dL_act_361 : decode cL_act 361 = .ok (.if_icmp .ne 7, 3) := by decide +kernel
theorem dL_act_364 : decode cL_act 364 = .ok (.iconst 1, 1) := by decide +kernel
theorem dL_act_365 : decode cL_act 365 = .ok (.goto 4, 3) := by decide +kernel
theorem dL_act_368 : decode cL_act 368 = .ok (.iconst 0, 1) := by decide +kernel
theorem dL_act_369 : decode cL_act 369 = .ok (.if_icmp .ne 12, 3) := by decide +kernel
theorem dL_act_372 : decode cL_act 372 = .ok (.iload 6, 2) := by decide +kernel
theorem dL_act_374 : decode cL_act 374 = .ok (.ifCond .eq 7, 3) := by decide +kernel
theorem dL_act_377 : decode cL_act 377 = .ok (.iconst 1, 1) := by decide +kernel
theorem dL_act_378 : decode cL_act 378 = .ok (.goto 4, 3) := by decide +kernel
theorem dL_act_381 : decode cL_act 381 = .ok (.iconst 0, 1) := by decide +kernel
theorem dL_act_382 : decode cL_act 382 = .ok (.ireturn, 1) := by decide +kernel
theorem dL_act_383 : decode cL_act 383 = .ok (.iload_n 2, 1) := by decide +kernel
theorem dL_act_384 : decode cL_act 384 = .ok (.bipush 6, 2) := by decide +kernel
theorem dL_act_386 : decode cL_act 386 = .ok (.ishr, 1) := by decide +kernel
theorem dL_act_387 : decode cL_act 387 = .ok (.iconst 2, 1) := by decide +kernel
theorem dL_act_388 : decode cL_act 388 = .ok (.invokestatic 15, 3) := by decide +kernel
theorem dL_act_391 : decode cL_act 391 = .ok (.istore 7, 2) := by decide +kernel
theorem dL_act_393 : decode cL_act 393 = .ok (.aload_n 1, 1) := by decide +kernel
theorem dL_act_394 : decode cL_act 394 = .ok (.getfield 44, 3) := by decide +kernel
theorem dL_act_397 : decode cL_act 397 = .ok (.iload 7, 2) := by decide +kernel
theorem dL_act_399 : decode cL_act 399 = .ok (.iaload, 1) := by decide +kernel
theorem dL_act_400 : decode cL_act 400 = .ok (.istore 8, 2) := by decide +kernel
theorem dL_act_402 : decode cL_act 402 = .ok (.aload_n 1, 1) := by decide +kernel
theorem dL_act_403 : decode cL_act 403 = .ok (.getfield 47, 3) := by decide +kernel
theorem dL_act_406 : decode cL_act 406 = .ok (.iload 7, 2) := by decide +kernel
theorem dL_act_408 : decode cL_act 408 = .ok (.iload_n 3, 1) := by decide +kernel
theorem dL_act_409 : decode cL_act 409 = .ok (.iastore, 1) := by decide +kernel
theorem dL_act_410 : decode cL_act 410 = .ok (.aload_n 1, 1) := by decide +kernel
theorem dL_act_411 : decode cL_act 411 = .ok (.getfield 44, 3) := by decide +kernel
theorem dL_act_414 : decode cL_act 414 = .ok (.iload 7, 2) := by decide +kernel
theorem dL_act_416 : decode cL_act 416 = .ok (.iload_n 2, 1) := by decide +kernel
theorem dL_act_417 : decode cL_act 417 = .ok (.bipush 8, 2) := by decide +kernel
theorem dL_act_419 : decode cL_act 419 = .ok (.ishr, 1) := by decide +kernel
theorem dL_act_420 : decode cL_act 420 = .ok (.bipush 100, 2) := by decide +kernel
theorem dL_act_422 : decode cL_act 422 = .ok (.invokestatic 15, 3) := by decide +kernel
theorem dL_act_425 : decode cL_act 425 = .ok (.iastore, 1) := by decide +kernel
theorem dL_act_426 : decode cL_act 426 = .ok (.aload_n 0, 1) := by decide +kernel
theorem dL_act_427 : decode cL_act 427 = .ok (.iload 7, 2) := by decide +kernel
theorem dL_act_429 : decode cL_act 429 = .ok (.iload_n 3, 1) := by decide +kernel
theorem dL_act_430 : decode cL_act 430 = .ok (.aload_n 1, 1) := by decide +kernel
theorem dL_act_431 : decode cL_act 431 = .ok (.getfield 44, 3) := by decide +kernel
theorem dL_act_434 : decode cL_act 434 = .ok (.iload 7, 2) := by decide +kernel
theorem dL_act_436 : decode cL_act 436 = .ok (.iaload, 1) := by decide +kernel
theorem dL_act_437 : decode cL_act 437 = .ok (.invokevirtual 50, 3) := by decide +kernel
theorem dL_act_440 : decode cL_act 440 = .ok (.iload 8, 2) := by decide +kernel
theorem dL_act_442 : decode cL_act 442 = .ok (.if_icmp .ne 7, 3) := by decide +kernel
theorem dL_act_445 : decode cL_act 445 = .ok (.iconst 1, 1) := by decide +kernel
theorem dL_act_446 : decode cL_act 446 = .ok (.goto 4, 3) := by decide +kernel
theorem dL_act_449 : decode cL_act 449 = .ok (.iconst 0, 1) := by decide +kernel
theorem dL_act_450 : decode cL_act 450 = .ok (.ireturn, 1) := by decide +kernel
theorem dL_act_451 : decode cL_act 451 = .ok (.iload_n 2, 1) := by decide +kernel
theorem dL_act_452 : decode cL_act 452 = .ok (.bipush 6, 2) := by decide +kernel
theorem dL_act_454 : decode cL_act 454 = .ok (.ishr, 1) := by decide +kernel
theorem dL_act_455 : decode cL_act 455 = .ok (.iconst 2, 1) := by decide +kernel
theorem dL_act_456 : decode cL_act 456 = .ok (.invokestatic 15, 3) := by decide +kernel
theorem dL_act_459 : decode cL_act 459 = .ok (.istore 7, 2) := by decide +kernel
theorem dL_act_461 : decode cL_act 461 = .ok (.iconst 1, 1) := by decide +kernel
theorem dL_act_462 : decode cL_act 462 = .ok (.iload_n 2, 1) := by decide +kernel
theorem dL_act_463 : decode cL_act 463 = .ok (.bipush 8, 2) := by decide +kernel
theorem dL_act_465 : decode cL_act 465 = .ok (.ishr, 1) := by decide +kernel
theorem dL_act_466 : decode cL_act 466 = .ok (.bipush 99, 2) := by decide +kernel
theorem dL_act_468 : decode cL_act 468 = .ok (.invokestatic 15, 3) := by decide +kernel
theorem dL_act_471 : decode cL_act 471 = .ok (.iadd, 1) := by decide +kernel
theorem dL_act_472 : decode cL_act 472 = .ok (.istore 8, 2) := by decide +kernel
theorem dL_act_474 : decode cL_act 474 = .ok (.aload_n 0, 1) := by decide +kernel
theorem dL_act_475 : decode cL_act 475 = .ok (.iload 7, 2) := by decide +kernel
theorem dL_act_477 : decode cL_act 477 = .ok (.iload 8, 2) := by decide +kernel
theorem dL_act_479 : decode cL_act 479 = .ok (.invokevirtual 53, 3) := by decide +kernel
theorem dL_act_482 : decode cL_act 482 = .ok (.aload_n 1, 1) := by decide +kernel
theorem dL_act_483 : decode cL_act 483 = .ok (.iload 7, 2) := by decide +kernel
theorem dL_act_485 : decode cL_act 485 = .ok (.iload 8, 2) := by decide +kernel
theorem dL_act_487 : decode cL_act 487 = .ok (.invokevirtual 56, 3) := by decide +kernel
theorem dL_act_490 : decode cL_act 490 = .ok (.if_icmp .ne 7, 3) := by decide +kernel
theorem dL_act_493 : decode cL_act 493 = .ok (.iconst 1, 1) := by decide +kernel
theorem dL_act_494 : decode cL_act 494 = .ok (.goto 4, 3) := by decide +kernel
theorem dL_act_497 : decode cL_act 497 = .ok (.iconst 0, 1) := by decide +kernel
theorem dL_act_498 : decode cL_act 498 = .ok (.ireturn, 1) := by decide +kernel
theorem dL_act_499 : decode cL_act 499 = .ok (.iconst 0, 1) := by decide +kernel
theorem dL_act_500 : decode cL_act 500 = .ok (.istore 7, 2) := by decide +kernel
theorem dL_act_502 : decode cL_act 502 = .ok (.aload_n 1, 1) := by decide +kernel
theorem dL_act_503 : decode cL_act 503 = .ok (.getfield 9, 3) := by decide +kernel
theorem dL_act_506 : decode cL_act 506 = .ok (.astore 8, 2) := by decide +kernel
theorem dL_act_508 : decode cL_act 508 = .ok (.aload 8, 2) := by decide +kernel
theorem dL_act_510 : decode cL_act 510 = .ok (.arraylength, 1) := by decide +kernel
theorem dL_act_511 : decode cL_act 511 = .ok (.istore 9, 2) := by decide +kernel
theorem dL_act_513 : decode cL_act 513 = .ok (.iconst 0, 1) := by decide +kernel
theorem dL_act_514 : decode cL_act 514 = .ok (.istore 10, 2) := by decide +kernel
theorem dL_act_516 : decode cL_act 516 = .ok (.iload 10, 2) := by decide +kernel
theorem dL_act_518 : decode cL_act 518 = .ok (.iload 9, 2) := by decide +kernel
theorem dL_act_520 : decode cL_act 520 = .ok (.if_icmp .ge 23, 3) := by decide +kernel
theorem dL_act_523 : decode cL_act 523 = .ok (.aload 8, 2) := by decide +kernel
theorem dL_act_525 : decode cL_act 525 = .ok (.iload 10, 2) := by decide +kernel
theorem dL_act_527 : decode cL_act 527 = .ok (.iaload, 1) := by decide +kernel
theorem dL_act_528 : decode cL_act 528 = .ok (.istore 11, 2) := by decide +kernel
theorem dL_act_530 : decode cL_act 530 = .ok (.iload 7, 2) := by decide +kernel
theorem dL_act_532 : decode cL_act 532 = .ok (.iload 11, 2) := by decide +kernel
theorem dL_act_534 : decode cL_act 534 = .ok (.iadd, 1) := by decide +kernel
theorem dL_act_535 : decode cL_act 535 = .ok (.istore 7, 2) := by decide +kernel
theorem dL_act_537 : decode cL_act 537 = .ok (.iinc 10 1, 3) := by decide +kernel
theorem dL_act_540 : decode cL_act 540 = .ok (.goto (-24), 3) := by decide +kernel
theorem dL_act_543 : decode cL_act 543 = .ok (.aload_n 1, 1) := by decide +kernel
theorem dL_act_544 : decode cL_act 544 = .ok (.aload_n 1, 1) := by decide +kernel
theorem dL_act_545 : decode cL_act 545 = .ok (.getfield 9, 3) := by decide +kernel
theorem dL_act_548 : decode cL_act 548 = .ok (.arraylength, 1) := by decide +kernel
theorem dL_act_549 : decode cL_act 549 = .ok (.newarray .int, 2) := by decide +kernel
theorem dL_act_551 : decode cL_act 551 = .ok (.putfield 9, 3) := by decide +kernel
theorem dL_act_554 : decode cL_act 554 = .ok (.aload_n 0, 1) := by decide +kernel
theorem dL_act_555 : decode cL_act 555 = .ok (.invokevirtual 57, 3) := by decide +kernel
theorem dL_act_558 : decode cL_act 558 = .ok (.iload 7, 2) := by decide +kernel
theorem dL_act_560 : decode cL_act 560 = .ok (.if_icmp .ne 7, 3) := by decide +kernel
theorem dL_act_563 : decode cL_act 563 = .ok (.iconst 1, 1) := by decide +kernel
theorem dL_act_564 : decode cL_act 564 = .ok (.goto 4, 3) := by decide +kernel
theorem dL_act_567 : decode cL_act 567 = .ok (.iconst 0, 1) := by decide +kernel
theorem dL_act_568 : decode cL_act 568 = .ok (.ireturn, 1) := by decide +kernel
theorem dL_act_569 : decode cL_act 569 = .ok (.aload_n 0, 1) := by decide +kernel
theorem dL_act_570 : decode cL_act 570 = .ok (.iload_n 3, 1) := by decide +kernel
theorem dL_act_571 : decode cL_act 571 = .ok (.invokevirtual 61, 3) := by decide +kernel
theorem dL_act_574 : decode cL_act 574 = .ok (.aload_n 1, 1) := by decide +kernel
theorem dL_act_575 : decode cL_act 575 = .ok (.iload_n 3, 1) := by decide +kernel
theorem dL_act_576 : decode cL_act 576 = .ok (.invokevirtual 65, 3) := by decide +kernel
theorem dL_act_579 : decode cL_act 579 = .ok (.if_icmp .ne 7, 3) := by decide +kernel
theorem dL_act_582 : decode cL_act 582 = .ok (.iconst 1, 1) := by decide +kernel
theorem dL_act_583 : decode cL_act 583 = .ok (.goto 4, 3) := by decide +kernel
theorem dL_act_586 : decode cL_act 586 = .ok (.iconst 0, 1) := by decide +kernel
theorem dL_act_587 : decode cL_act 587 = .ok (.ireturn, 1) := by decide +kernel
theorem dL_act_588 : decode cL_act 588 = .ok (.astore 7, 2) := by decide +kernel
theorem dL_act_590 : decode cL_act 590 = .ok (.iload 6, 2) := by decide +kernel
theorem dL_act_592 : decode cL_act 592 = .ok (.ifCond .ne 7, 3) := by decide +kernel
theorem dL_act_595 : decode cL_act 595 = .ok (.iconst 1, 1) := by decide +kernel
theorem dL_act_596 : decode cL_act 596 = .ok (.goto 4, 3) := by decide +kernel
theorem dL_act_599 : decode cL_act 599 = .ok (.iconst 0, 1) := by decide +kernel
theorem dL_act_600 : decode cL_act 600 = .ok (.ireturn, 1) := by decide +kernel
set_option maxRecDepth 20000 in
theorem ggL_build_X2_init : GoodIn wsL_build wsX2_init := goodIn_r _ [5, 6, 7, 8, 9, 10, 11, 12, 13, 196, 197, 198, 199, 200, 201] rfl (by decide +kernel)
set_option maxRecDepth 20000 in
theorem gL_build_X2_init_n68 : GoodIn wsL_build (wsX2_init) := ggL_build_X2_init
set_option maxRecDepth 20000 in
theorem ggL_build_L_cell : GoodIn wsL_build wsL_cell := goodIn_r _ [17, 18] rfl (by decide +kernel)
set_option maxRecDepth 20000 in
theorem gL_build_L_cell : GoodIn wsL_build (va_wsS RL 69 yL_cell wsL_cell) := goodIn_app (goodIn_of _ (by decide +kernel)) ggL_build_L_cell
set_option maxRecDepth 20000 in
theorem ggL_build_L_below : GoodIn wsL_build wsL_below := goodIn_r _ [21, 22] rfl (by decide +kernel)
set_option maxRecDepth 20000 in
theorem gL_build_L_below : GoodIn wsL_build (va_wsS RL 15 yL_below wsL_below) := goodIn_app (goodIn_of _ (by decide +kernel)) ggL_build_L_below
set_option maxRecDepth 20000 in
theorem ggL_build_X2_lay : GoodIn wsL_build wsX2_lay := goodIn_r _ [26, 9, 10, 11, 27, 12, 196, 197, 198, 199, 200, 201] rfl (by decide +kernel)
set_option maxRecDepth 20000 in
theorem gL_build_X2_lay : GoodIn wsL_build (wsV RL 25 RX2 yX2_lay wsX2_lay) := goodIn_app (goodIn_of _ (by decide +kernel)) ggL_build_X2_lay
set_option maxRecDepth 20000 in
theorem ggL_build_X1_lay : GoodIn wsL_build wsX1_lay := goodIn_ca (goodIn_r _ [32, 33, 34, 35, 31, 36, 37, 38, 39, 40, 41, 42, 43, 44, 45, 46, 47, 48, 49, 50, 51, 52, 53, 54, 55, 56, 57, 58, 59, 60, 61, 202, 203, 204, 205, 206, 207, 208, 209, 210, 211, 212] rfl (by decide +kernel)) (goodIn_sub (fun _ h => List.mem_cons_of_mem _ (List.mem_append_left _ (List.mem_append_left _ (List.mem_append_right _ h)))) (by decide +kernel))
set_option maxRecDepth 20000 in
theorem gL_build_X1_lay : GoodIn wsL_build (wsV RL 29 RX1 yX1_lay wsX1_lay) := goodIn_app (goodIn_of _ (by decide +kernel)) ggL_build_X1_lay
set_option maxRecDepth 20000 in
theorem ggLba_h : GoodIn wsL_build [Cond.codeWith yL_act cL_act 12 (some .boolean) [(40, 123, 588, 66), (124, 178, 588, 66), (179, 254, 588, 66), (255, 318, 588, 66), (319, 382, 588, 66), (383, 450, 588, 66), (451, 498, 588, 66), (499, 568, 588, 66), (569, 587, 588, 66)]] := goodIn_r _ [64] rfl (by decide +kernel)
set_option maxRecDepth 20000 in
theorem ggLba_r1 : GoodIn wsL_build wsL_act_r1 := goodIn_r _ [65, 66, 67, 10, 68, 69, 19, 20, 16, 21, 22, 23, 24, 25, 3, 26, 9, 11, 27, 12, 28, 29, 30, 31] rfl (by decide +kernel)
set_option maxRecDepth 20000 in
theorem ggLba_r2 : GoodIn wsL_build wsL_act_r2 := goodIn_r _ [32, 33, 34, 35, 36, 37, 38, 39, 40, 41, 42, 43, 44, 45, 46, 47, 48, 49, 50, 51, 52, 53, 54, 55] rfl (by decide +kernel)
set_option maxRecDepth 20000 in
theorem ggLba_r3 : GoodIn wsL_build wsL_act_r3 := goodIn_r _ [56, 57, 58, 59, 60, 61, 70, 71, 72, 73, 74, 75, 76, 77, 78, 79, 80, 81, 82, 83, 84, 85, 86, 87] rfl (by decide +kernel)
set_option maxRecDepth 20000 in
theorem ggLba_r4 : GoodIn wsL_build wsL_act_r4 := goodIn_r _ [88, 89, 90, 91, 92, 93, 94, 95, 96, 97, 98, 99, 100, 101, 102, 103, 104, 105, 106, 107, 108, 109, 110, 111] rfl (by decide +kernel)
set_option maxRecDepth 20000 in
theorem ggLba_r5 : GoodIn wsL_build wsL_act_r5 := goodIn_r _ [112, 113, 114, 115, 116, 117, 118, 119, 120, 121, 122, 123, 124, 125, 126, 127, 128, 129, 130, 131, 132, 133, 134, 135] rfl (by decide +kernel)
set_option maxRecDepth 20000 in
theorem ggLba_r6 : GoodIn wsL_build wsL_act_r6 := goodIn_r _ [136, 137, 138, 139, 140, 141, 142, 143, 144, 145, 146, 147, 148, 149, 150, 151, 152, 153, 154, 155, 156, 157, 158, 159] rfl (by decide +kernel)
set_option maxRecDepth 20000 in
theorem ggLba_r7 : GoodIn wsL_build wsL_act_r7 := goodIn_r _ [160, 161, 162, 163, 164, 165, 166, 167, 168, 169, 170, 171, 13, 172, 173, 174, 175, 176, 177, 178, 179, 180, 181, 182] rfl (by decide +kernel)
set_option maxRecDepth 20000 in
theorem ggLba_r8 : GoodIn wsL_build wsL_act_r8 := goodIn_r _ [183, 184, 185, 186, 187, 188, 189, 190, 191, 192, 193, 194, 195] rfl (by decide +kernel)
set_option maxRecDepth 20000 in
theorem ggLba_X20 : GoodIn wsL_build wsX20 := goodIn_r _ [196, 197, 198, 199, 200, 201] rfl (by decide +kernel)
set_option maxRecDepth 20000 in
theorem ggLba_X10 : GoodIn wsL_build wsX10 := goodIn_r _ [202, 203] rfl (by decide +kernel)
set_option maxRecDepth 20000 in
theorem ggLba_X00 : GoodIn wsL_build wsX00 := goodIn_r _ [204, 205, 206, 207, 208, 209, 210, 211, 212] rfl (by decide +kernel)
set_option maxRecDepth 20000 in
theorem ggL_build_L_act : GoodIn wsL_build wsL_act := goodIn_ca (goodIn_ca (goodIn_ca (goodIn_app ggLba_h (goodIn_app (goodIn_app (goodIn_app (goodIn_app ggLba_r1 (goodIn_app ggLba_r2 (goodIn_app ggLba_r3 (goodIn_app ggLba_r4 (goodIn_app ggLba_r5 (goodIn_app ggLba_r6 (goodIn_app ggLba_r7 ggLba_r8))))))) ggLba_X20) ggLba_X10) ggLba_X00)) (goodIn_sub (fun _ h => List.mem_cons_of_mem _ (List.mem_append_left _ (List.mem_append_left _ (List.mem_append_right _ h)))) (by decide +kernel))) (goodIn_sub (fun _ h => List.mem_cons_of_mem _ (List.mem_append_left _ (List.mem_append_right _ h))) (by decide +kernel))) (goodIn_sub (fun _ h => List.mem_cons_of_mem _ (List.mem_append_right _ h)) (by decide +kernel))
set_option maxRecDepth 20000 in
theorem gL_build_L_act : GoodIn wsL_build (va_wsS RL 73 yL_act wsL_act) := goodIn_app (goodIn_of _ (by decide +kernel)) ggL_build_L_act
theorem dL_build_0 : decode cL_build 0 = .ok (.new 10, 3) := by decide +kernel
theorem dL_build_3 : decode cL_build 3 = .ok (.dup, 1) := by decide +kernel
theorem dL_build_4 : decode cL_build 4 = .ok (.invokespecial 68, 3) := by decide +kernel
theorem dL_build_7 : decode cL_build 7 = .ok (.astore_n 2, 1) := by decide +kernel
theorem dL_build_8 : decode cL_build 8 = .ok (.iconst 2, 1) := by decide +kernel
theorem dL_build_9 : decode cL_build 9 = .ok (.aload_n 1, 1) := by decide +kernel
theorem dL_build_10 : decode cL_build 10 = .ok (.iconst 0, 1) := by decide +kernel
theorem dL_build_11 : decode cL_build 11 = .ok (.invokestatic 69, 3) := by decide +kernel
theorem dL_build_14 : decode cL_build 14 = .ok (.bipush 8, 2) := by decide +kernel
theorem dL_build_16 : decode cL_build 16 = .ok (.invokestatic 15, 3) := by decide +kernel
theorem dL_build_19 : decode cL_build 19 = .ok (.iadd, 1) := by decide +kernel
theorem dL_build_20 : decode cL_build 20 = .ok (.istore_n 3, 1) := by decide +kernel
theorem dL_build_21 : decode cL_build 21 = .ok (.iconst 1, 1) := by decide +kernel
theorem dL_build_22 : decode cL_build 22 = .ok (.aload_n 1, 1) := by decide +kernel
theorem dL_build_23 : decode cL_build 23 = .ok (.iconst 0, 1) := by decide +kernel
theorem dL_build_24 : decode cL_build 24 = .ok (.invokestatic 69, 3) := by decide +kernel
theorem dL_build_27 : decode cL_build 27 = .ok (.iconst 4, 1) := by decide +kernel
theorem dL_build_28 : decode cL_build 28 = .ok (.ishr, 1) := by decide +kernel
theorem dL_build_29 : decode cL_build 29 = .ok (.bipush 8, 2) := by decide +kernel
theorem dL_build_31 : decode cL_build 31 = .ok (.invokestatic 15, 3) := by decide +kernel
theorem dL_build_34 : decode cL_build 34 = .ok (.iadd, 1) := by decide +kernel
theorem dL_build_35 : decode cL_build 35 = .ok (.istore 4, 2) := by decide +kernel
theorem dL_build_37 : decode cL_build 37 = .ok (.aload_n 2, 1) := by decide +kernel
theorem dL_build_38 : decode cL_build 38 = .ok (.iload_n 3, 1) := by decide +kernel
theorem dL_build_39 : decode cL_build 39 = .ok (.iload 4, 2) := by decide +kernel
theorem dL_build_41 : decode cL_build 41 = .ok (.invokevirtual 25, 3) := by decide +kernel
theorem dL_build_44 : decode cL_build 44 = .ok (.aload_n 0, 1) := by decide +kernel
theorem dL_build_45 : decode cL_build 45 = .ok (.iload_n 3, 1) := by decide +kernel
theorem dL_build_46 : decode cL_build 46 = .ok (.iload 4, 2) := by decide +kernel
theorem dL_build_48 : decode cL_build 48 = .ok (.invokevirtual 29, 3) := by decide +kernel
theorem dL_build_51 : decode cL_build 51 = .ok (.iload_n 3, 1) := by decide +kernel
theorem dL_build_52 : decode cL_build 52 = .ok (.iload 4, 2) := by decide +kernel
theorem dL_build_54 : decode cL_build 54 = .ok (.imul, 1) := by decide +kernel
theorem dL_build_55 : decode cL_build 55 = .ok (.if_icmp .eq 5, 3) := by decide +kernel
theorem dL_build_58 : decode cL_build 58 = .ok (.aconst_null, 1) := by decide +kernel
theorem dL_build_59 : decode cL_build 59 = .ok (.areturn, 1) := by decide +kernel
theorem dL_build_60 : decode cL_build 60 = .ok (.bipush 8, 2) := by decide +kernel
theorem dL_build_62 : decode cL_build 62 = .ok (.aload_n 1, 1) := by decide +kernel
theorem dL_build_63 : decode cL_build 63 = .ok (.iconst 0, 1) := by decide +kernel
theorem dL_build_64 : decode cL_build 64 = .ok (.invokestatic 69, 3) := by decide +kernel
theorem dL_build_67 : decode cL_build 67 = .ok (.bipush 7, 2) := by decide +kernel
theorem dL_build_69 : decode cL_build 69 = .ok (.ishr, 1) := by decide +kernel
theorem dL_build_70 : decode cL_build 70 = .ok (.bipush 30, 2) := by decide +kernel
theorem dL_build_72 : decode cL_build 72 = .ok (.invokestatic 15, 3) := by decide +kernel
theorem dL_build_75 : decode cL_build 75 = .ok (.iadd, 1) := by decide +kernel
theorem dL_build_76 : decode cL_build 76 = .ok (.istore 5, 2) := by decide +kernel
theorem dL_build_78 : decode cL_build 78 = .ok (.iconst 0, 1) := by decide +kernel
theorem dL_build_79 : decode cL_build 79 = .ok (.istore 6, 2) := by decide +kernel
theorem dL_build_81 : decode cL_build 81 = .ok (.iload 6, 2) := by decide +kernel
theorem dL_build_83 : decode cL_build 83 = .ok (.iload 5, 2) := by decide +kernel
theorem dL_build_85 : decode cL_build 85 = .ok (.if_icmp .ge 81, 3) := by decide +kernel
theorem dL_build_88 : decode cL_build 88 = .ok (.aload_n 1, 1) := by decide +kernel
theorem dL_build_89 : decode cL_build 89 = .ok (.iconst 1, 1) := by decide +kernel
theorem dL_build_90 : decode cL_build 90 = .ok (.iload 6, 2) := by decide +kernel
theorem dL_build_92 : decode cL_build 92 = .ok (.bipush 15, 2) := by decide +kernel
theorem dL_build_94 : decode cL_build 94 = .ok (.irem, 1) := by decide +kernel
theorem dL_build_95 : decode cL_build 95 = .ok (.iadd, 1) := by decide +kernel
theorem dL_build_96 : decode cL_build 96 = .ok (.invokestatic 69, 3) := by decide +kernel
theorem dL_build_99 : decode cL_build 99 = .ok (.iload 6, 2) := by decide +kernel
theorem dL_build_101 : decode cL_build 101 = .ok (.bipush 15, 2) := by decide +kernel
theorem dL_build_103 : decode cL_build 103 = .ok (.idiv, 1) := by decide +kernel
theorem dL_build_104 : decode cL_build 104 = .ok (.iconst 3, 1) := by decide +kernel
theorem dL_build_105 : decode cL_build 105 = .ok (.imul, 1) := by decide +kernel
theorem dL_build_106 : decode cL_build 106 = .ok (.ishr, 1) := by decide +kernel
theorem dL_build_107 : decode cL_build 107 = .ok (.bipush 37, 2) := by decide +kernel
theorem dL_build_109 : decode cL_build 109 = .ok (.iload 6, 2) := by decide +kernel
theorem dL_build_111 : decode cL_build 111 = .ok (.imul, 1) := by decide +kernel
theorem dL_build_112 : decode cL_build 112 = .ok (.iadd, 1) := by decide +kernel
theorem dL_build_113 : decode cL_build 113 = .ok (.istore 7, 2) := by decide +kernel
theorem dL_build_115 : decode cL_build 115 = .ok (.aload_n 0, 1) := by decide +kernel
theorem dL_build_116 : decode cL_build 116 = .ok (.aload_n 2, 1) := by decide +kernel
theorem dL_build_117 : decode cL_build 117 = .ok (.iload 6, 2) := by decide +kernel
theorem dL_build_119 : decode cL_build 119 = .ok (.iconst 4, 1) := by decide +kernel
theorem dL_build_120 : decode cL_build 120 = .ok (.irem, 1) := by decide +kernel
theorem dL_build_121 : decode cL_build 121 = .ok (.iconst 3, 1) := by decide +kernel
theorem dL_build_122 : decode cL_build 122 = .ok (.if_icmp .ge 28, 3) := by decide +kernel
theorem dL_build_125 : decode cL_build 125 = .ok (.iload 7, 2) := by decide +kernel
theorem dL_build_127 : decode cL_build 127 = .ok (.iload 7, 2) := by decide +kernel
theorem dL_build_129 : decode cL_build 129 = .ok (.bipush 16, 2) := by decide +kernel
theorem dL_build_131 : decode cL_build 131 = .ok (.invokestatic 15, 3) := by decide +kernel
theorem dL_build_134 : decode cL_build 134 = .ok (.isub, 1) := by decide +kernel
theorem dL_build_135 : decode cL_build 135 = .ok (.iconst 1, 1) := by decide +kernel
theorem dL_build_136 : decode cL_build 136 = .ok (.iadd, 1) := by decide +kernel
theorem dL_build_137 : decode cL_build 137 = .ok (.iload 7, 2) := by decide +kernel
theorem dL_build_139 : decode cL_build 139 = .ok (.iconst 5, 1) := by decide +kernel
theorem dL_build_140 : decode cL_build 140 = .ok (.ishr, 1) := by decide +kernel
theorem dL_build_141 : decode cL_build 141 = .ok (.bipush 6, 2) := by decide +kernel
theorem dL_build_143 : decode cL_build 143 = .ok (.invokestatic 15, 3) := by decide +kernel
theorem dL_build_146 : decode cL_build 146 = .ok (.iadd, 1) := by decide +kernel
theorem dL_build_147 : decode cL_build 147 = .ok (.goto 5, 3) := by decide +kernel
theorem dL_build_150 : decode cL_build 150 = .ok (.iload 7, 2) := by decide +kernel
theorem dL_build_152 : decode cL_build 152 = .ok (.invokestatic 73, 3) := by decide +kernel
theorem dL_build_155 : decode cL_build 155 = .ok (.ifCond .ne 5, 3) := by decide +kernel
theorem dL_build_158 : decode cL_build 158 = .ok (.aconst_null, 1) := by decide +kernel
theorem dL_build_159 : decode cL_build 159 = .ok (.areturn, 1) := by decide +kernel
theorem dL_build_160 : decode cL_build 160 = .ok (.iinc 6 1, 3) := by decide +kernel
theorem dL_build_163 : decode cL_build 163 = .ok (.goto (-82), 3) := by decide +kernel
theorem dL_build_166 : decode cL_build 166 = .ok (.aload_n 2, 1) := by decide +kernel
theorem dL_build_167 : decode cL_build 167 = .ok (.areturn, 1) := by decide +kernel

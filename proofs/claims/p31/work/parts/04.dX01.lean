theorem dJ9_abs_0f7a4_0 : decode cJ9_abs_0f7a4 0 = .ok (.iload_n 0, 1) := by decide +kernel
theorem dJ9_abs_0f7a4_1 : decode cJ9_abs_0f7a4 1 = .ok (.ifCond .ge 8, 3) := by decide +kernel
theorem dJ9_abs_0f7a4_4 : decode cJ9_abs_0f7a4 4 = .ok (.iload_n 0, 1) := by decide +kernel
theorem dJ9_abs_0f7a4_5 : decode cJ9_abs_0f7a4 5 = .ok (.ineg, 1) := by decide +kernel
theorem dJ9_abs_0f7a4_6 : decode cJ9_abs_0f7a4 6 = .ok (.goto 4, 3) := by decide +kernel
theorem dJ9_abs_0f7a4_9 : decode cJ9_abs_0f7a4 9 = .ok (.iload_n 0, 1) := by decide +kernel
theorem dJ9_abs_0f7a4_10 : decode cJ9_abs_0f7a4 10 = .ok (.ireturn, 1) := by decide +kernel
theorem dJ9_min_7cf53_0 : decode cJ9_min_7cf53 0 = .ok (.iload_n 0, 1) := by decide +kernel
theorem dJ9_min_7cf53_1 : decode cJ9_min_7cf53 1 = .ok (.iload_n 1, 1) := by decide +kernel
theorem dJ9_min_7cf53_2 : decode cJ9_min_7cf53 2 = .ok (.if_icmp .gt 7, 3) := by decide +kernel
theorem dJ9_min_7cf53_5 : decode cJ9_min_7cf53 5 = .ok (.iload_n 0, 1) := by decide +kernel
theorem dJ9_min_7cf53_6 : decode cJ9_min_7cf53 6 = .ok (.goto 4, 3) := by decide +kernel
theorem dJ9_min_7cf53_9 : decode cJ9_min_7cf53 9 = .ok (.iload_n 1, 1) := by decide +kernel
theorem dJ9_min_7cf53_10 : decode cJ9_min_7cf53 10 = .ok (.ireturn, 1) := by decide +kernel
theorem dJ7_fill_53178_0 : decode cJ7_fill_53178 0 = .ok (.iconst 0, 1) := by decide +kernel
theorem dJ7_fill_53178_1 : decode cJ7_fill_53178 1 = .ok (.istore_n 2, 1) := by decide +kernel
theorem dJ7_fill_53178_2 : decode cJ7_fill_53178 2 = .ok (.aload_n 0, 1) := by decide +kernel
theorem dJ7_fill_53178_3 : decode cJ7_fill_53178 3 = .ok (.arraylength, 1) := by decide +kernel
theorem dJ7_fill_53178_4 : decode cJ7_fill_53178 4 = .ok (.istore_n 3, 1) := by decide +kernel
theorem dJ7_fill_53178_5 : decode cJ7_fill_53178 5 = .ok (.iload_n 2, 1) := by decide +kernel
theorem dJ7_fill_53178_6 : decode cJ7_fill_53178 6 = .ok (.iload_n 3, 1) := by decide +kernel
theorem dJ7_fill_53178_7 : decode cJ7_fill_53178 7 = .ok (.if_icmp .ge 13, 3) := by decide +kernel
theorem dJ7_fill_53178_10 : decode cJ7_fill_53178 10 = .ok (.aload_n 0, 1) := by decide +kernel
theorem dJ7_fill_53178_11 : decode cJ7_fill_53178 11 = .ok (.iload_n 2, 1) := by decide +kernel
theorem dJ7_fill_53178_12 : decode cJ7_fill_53178 12 = .ok (.iload_n 1, 1) := by decide +kernel
theorem dJ7_fill_53178_13 : decode cJ7_fill_53178 13 = .ok (.iastore, 1) := by decide +kernel
theorem dJ7_fill_53178_14 : decode cJ7_fill_53178 14 = .ok (.iinc 2 1, 3) := by decide +kernel
theorem dJ7_fill_53178_17 : decode cJ7_fill_53178 17 = .ok (.goto (-12), 3) := by decide +kernel
theorem dJ7_fill_53178_20 : decode cJ7_fill_53178 20 = .ok (.return_, 1) := by decide +kernel
set_option maxRecDepth 20000 in
theorem ggX0_init_X0_layBoard : GoodIn wsX0_init wsX0_layBoard := goodIn_r _ [15, 16, 17, 18, 5, 6, 7, 9, 19, 20, 21, 22, 23, 24, 25, 14, 26, 8, 27, 28, 29, 30, 31, 32, 33, 34, 35, 36, 37, 38] rfl (by decide +kernel)
set_option maxRecDepth 20000 in
theorem gX0_init_X0_layBoard : GoodIn wsX0_init (wsV RX0 30 RX0 yX0_layBoard wsX0_layBoard) := goodIn_app (goodIn_of _ (by decide +kernel)) ggX0_init_X0_layBoard
theorem dX0_init_0 : decode cX0_init 0 = .ok (.aload_n 0, 1) := by decide +kernel
theorem dX0_init_1 : decode cX0_init 1 = .ok (.invokespecial 3, 3) := by decide +kernel
theorem dX0_init_4 : decode cX0_init 4 = .ok (.aload_n 0, 1) := by decide +kernel
theorem dX0_init_5 : decode cX0_init 5 = .ok (.bipush 72, 2) := by decide +kernel
theorem dX0_init_7 : decode cX0_init 7 = .ok (.newarray .int, 2) := by decide +kernel
theorem dX0_init_9 : decode cX0_init 9 = .ok (.putfield 9, 3) := by decide +kernel
theorem dX0_init_12 : decode cX0_init 12 = .ok (.aload_n 0, 1) := by decide +kernel
theorem dX0_init_13 : decode cX0_init 13 = .ok (.bipush 72, 2) := by decide +kernel
theorem dX0_init_15 : decode cX0_init 15 = .ok (.newarray .int, 2) := by decide +kernel
theorem dX0_init_17 : decode cX0_init 17 = .ok (.putfield 15, 3) := by decide +kernel
theorem dX0_init_20 : decode cX0_init 20 = .ok (.aload_n 0, 1) := by decide +kernel
theorem dX0_init_21 : decode cX0_init 21 = .ok (.bipush 72, 2) := by decide +kernel
theorem dX0_init_23 : decode cX0_init 23 = .ok (.newarray .int, 2) := by decide +kernel
theorem dX0_init_25 : decode cX0_init 25 = .ok (.putfield 18, 3) := by decide +kernel
theorem dX0_init_28 : decode cX0_init 28 = .ok (.aload_n 0, 1) := by decide +kernel
theorem dX0_init_29 : decode cX0_init 29 = .ok (.bipush 9, 2) := by decide +kernel
theorem dX0_init_31 : decode cX0_init 31 = .ok (.newarray .int, 2) := by decide +kernel
theorem dX0_init_33 : decode cX0_init 33 = .ok (.putfield 21, 3) := by decide +kernel
theorem dX0_init_36 : decode cX0_init 36 = .ok (.aload_n 0, 1) := by decide +kernel
theorem dX0_init_37 : decode cX0_init 37 = .ok (.iconst 2, 1) := by decide +kernel
theorem dX0_init_38 : decode cX0_init 38 = .ok (.newarray .int, 2) := by decide +kernel
theorem dX0_init_40 : decode cX0_init 40 = .ok (.putfield 24, 3) := by decide +kernel
theorem dX0_init_43 : decode cX0_init 43 = .ok (.aload_n 0, 1) := by decide +kernel
theorem dX0_init_44 : decode cX0_init 44 = .ok (.iconst 2, 1) := by decide +kernel
theorem dX0_init_45 : decode cX0_init 45 = .ok (.newarray .int, 2) := by decide +kernel
theorem dX0_init_47 : decode cX0_init 47 = .ok (.putfield 27, 3) := by decide +kernel
theorem dX0_init_50 : decode cX0_init 50 = .ok (.aload_n 0, 1) := by decide +kernel
theorem dX0_init_51 : decode cX0_init 51 = .ok (.iconst 5, 1) := by decide +kernel
theorem dX0_init_52 : decode cX0_init 52 = .ok (.iconst 4, 1) := by decide +kernel
theorem dX0_init_53 : decode cX0_init 53 = .ok (.invokevirtual 30, 3) := by decide +kernel
theorem dX0_init_56 : decode cX0_init 56 = .ok (.return_, 1) := by decide +kernel
set_option maxRecDepth 20000 in
theorem ggX0_layBoard_J7_fill_53178 : GoodIn wsX0_layBoard wsJ7_fill_53178 := goodIn_r _ [11] rfl (by decide +kernel)
set_option maxRecDepth 20000 in
theorem gX0_layBoard_J7_fill_53178 : GoodIn wsX0_layBoard (va_wsS RX0 44 yJ7_fill_53178 wsJ7_fill_53178) := goodIn_app (goodIn_of _ (by decide +kernel)) ggX0_layBoard_J7_fill_53178
set_option maxRecDepth 20000 in
theorem ggX0_layBoard_X0_clearBins : GoodIn wsX0_layBoard wsX0_clearBins := goodIn_r _ [16, 17, 8, 9, 10, 11, 21, 22, 23, 24, 25, 26, 27, 28, 29] rfl (by decide +kernel)
set_option maxRecDepth 20000 in
theorem gX0_layBoard_X0_clearBins : GoodIn wsX0_layBoard (wsV RX0 50 RX0 yX0_clearBins wsX0_clearBins) := goodIn_app (goodIn_of _ (by decide +kernel)) ggX0_layBoard_X0_clearBins
set_option maxRecDepth 20000 in
theorem ggX0_layBoard_X1_setCell : GoodIn wsX0_layBoard wsX1_setCell := goodIn_r _ [20] rfl (by decide +kernel)
set_option maxRecDepth 20000 in
theorem gX0_layBoard_X1_setCell_n53 : GoodIn wsX0_layBoard (wsX1_setCell) := ggX0_layBoard_X1_setCell
theorem dX0_layBoard_0 : decode cX0_layBoard 0 = .ok (.aload_n 0, 1) := by decide +kernel
theorem dX0_layBoard_1 : decode cX0_layBoard 1 = .ok (.iload_n 1, 1) := by decide +kernel
theorem dX0_layBoard_2 : decode cX0_layBoard 2 = .ok (.putfield 34, 3) := by decide +kernel
theorem dX0_layBoard_5 : decode cX0_layBoard 5 = .ok (.aload_n 0, 1) := by decide +kernel
theorem dX0_layBoard_6 : decode cX0_layBoard 6 = .ok (.iload_n 2, 1) := by decide +kernel
theorem dX0_layBoard_7 : decode cX0_layBoard 7 = .ok (.putfield 38, 3) := by decide +kernel
theorem dX0_layBoard_10 : decode cX0_layBoard 10 = .ok (.aload_n 0, 1) := by decide +kernel
theorem dX0_layBoard_11 : decode cX0_layBoard 11 = .ok (.iconst 0, 1) := by decide +kernel
theorem dX0_layBoard_12 : decode cX0_layBoard 12 = .ok (.putfield 41, 3) := by decide +kernel
theorem dX0_layBoard_15 : decode cX0_layBoard 15 = .ok (.aload_n 0, 1) := by decide +kernel
theorem dX0_layBoard_16 : decode cX0_layBoard 16 = .ok (.getfield 9, 3) := by decide +kernel
theorem dX0_layBoard_19 : decode cX0_layBoard 19 = .ok (.iconst 0, 1) := by decide +kernel
theorem dX0_layBoard_20 : decode cX0_layBoard 20 = .ok (.invokestatic 44, 3) := by decide +kernel
theorem dX0_layBoard_23 : decode cX0_layBoard 23 = .ok (.aload_n 0, 1) := by decide +kernel
theorem dX0_layBoard_24 : decode cX0_layBoard 24 = .ok (.getfield 15, 3) := by decide +kernel
theorem dX0_layBoard_27 : decode cX0_layBoard 27 = .ok (.iconst 0, 1) := by decide +kernel
theorem dX0_layBoard_28 : decode cX0_layBoard 28 = .ok (.invokestatic 44, 3) := by decide +kernel
theorem dX0_layBoard_31 : decode cX0_layBoard 31 = .ok (.aload_n 0, 1) := by decide +kernel
theorem dX0_layBoard_32 : decode cX0_layBoard 32 = .ok (.getfield 18, 3) := by decide +kernel
theorem dX0_layBoard_35 : decode cX0_layBoard 35 = .ok (.iconst 0, 1) := by decide +kernel
theorem dX0_layBoard_36 : decode cX0_layBoard 36 = .ok (.invokestatic 44, 3) := by decide +kernel
theorem dX0_layBoard_39 : decode cX0_layBoard 39 = .ok (.aload_n 0, 1) := by decide +kernel
theorem dX0_layBoard_40 : decode cX0_layBoard 40 = .ok (.invokevirtual 50, 3) := by decide +kernel
theorem dX0_layBoard_43 : decode cX0_layBoard 43 = .ok (.aload_n 0, 1) := by decide +kernel
theorem dX0_layBoard_44 : decode cX0_layBoard 44 = .ok (.getfield 24, 3) := by decide +kernel
theorem dX0_layBoard_47 : decode cX0_layBoard 47 = .ok (.iconst 0, 1) := by decide +kernel
theorem dX0_layBoard_48 : decode cX0_layBoard 48 = .ok (.iconst 0, 1) := by decide +kernel
theorem dX0_layBoard_49 : decode cX0_layBoard 49 = .ok (.invokestatic 53, 3) := by decide +kernel
theorem dX0_layBoard_52 : decode cX0_layBoard 52 = .ok (.aload_n 0, 1) := by decide +kernel
theorem dX0_layBoard_53 : decode cX0_layBoard 53 = .ok (.getfield 24, 3) := by decide +kernel
theorem dX0_layBoard_56 : decode cX0_layBoard 56 = .ok (.iconst 1, 1) := by decide +kernel
theorem dX0_layBoard_57 : decode cX0_layBoard 57 = .ok (.iload_n 1, 1) := by decide +kernel
theorem dX0_layBoard_58 : decode cX0_layBoard 58 = .ok (.iconst 1, 1) := by decide +kernel
theorem dX0_layBoard_59 : decode cX0_layBoard 59 = .ok (.isub, 1) := by decide +kernel
theorem dX0_layBoard_60 : decode cX0_layBoard 60 = .ok (.invokestatic 53, 3) := by decide +kernel
theorem dX0_layBoard_63 : decode cX0_layBoard 63 = .ok (.return_, 1) := by decide +kernel
set_option maxRecDepth 20000 in
theorem ggX0_becomeLike_X1_copyCells : GoodIn wsX0_becomeLike wsX1_copyCells := goodIn_r _ [12, 13, 14, 11, 15] rfl (by decide +kernel)
set_option maxRecDepth 20000 in
theorem gX0_becomeLike_X1_copyCells_n57 : GoodIn wsX0_becomeLike (wsX1_copyCells) := ggX0_becomeLike_X1_copyCells
theorem dX0_becomeLike_0 : decode cX0_becomeLike 0 = .ok (.aload_n 0, 1) := by decide +kernel
theorem dX0_becomeLike_1 : decode cX0_becomeLike 1 = .ok (.aload_n 1, 1) := by decide +kernel
theorem dX0_becomeLike_2 : decode cX0_becomeLike 2 = .ok (.getfield 34, 3) := by decide +kernel
theorem dX0_becomeLike_5 : decode cX0_becomeLike 5 = .ok (.putfield 34, 3) := by decide +kernel
theorem dX0_becomeLike_8 : decode cX0_becomeLike 8 = .ok (.aload_n 0, 1) := by decide +kernel
theorem dX0_becomeLike_9 : decode cX0_becomeLike 9 = .ok (.aload_n 1, 1) := by decide +kernel
theorem dX0_becomeLike_10 : decode cX0_becomeLike 10 = .ok (.getfield 38, 3) := by decide +kernel
theorem dX0_becomeLike_13 : decode cX0_becomeLike 13 = .ok (.putfield 38, 3) := by decide +kernel
theorem dX0_becomeLike_16 : decode cX0_becomeLike 16 = .ok (.aload_n 0, 1) := by decide +kernel
theorem dX0_becomeLike_17 : decode cX0_becomeLike 17 = .ok (.aload_n 1, 1) := by decide +kernel
theorem dX0_becomeLike_18 : decode cX0_becomeLike 18 = .ok (.getfield 41, 3) := by decide +kernel
theorem dX0_becomeLike_21 : decode cX0_becomeLike 21 = .ok (.putfield 41, 3) := by decide +kernel
theorem dX0_becomeLike_24 : decode cX0_becomeLike 24 = .ok (.aload_n 1, 1) := by decide +kernel
theorem dX0_becomeLike_25 : decode cX0_becomeLike 25 = .ok (.getfield 9, 3) := by decide +kernel
theorem dX0_becomeLike_28 : decode cX0_becomeLike 28 = .ok (.aload_n 0, 1) := by decide +kernel
theorem dX0_becomeLike_29 : decode cX0_becomeLike 29 = .ok (.getfield 9, 3) := by decide +kernel
theorem dX0_becomeLike_32 : decode cX0_becomeLike 32 = .ok (.invokestatic 57, 3) := by decide +kernel
theorem dX0_becomeLike_35 : decode cX0_becomeLike 35 = .ok (.aload_n 1, 1) := by decide +kernel
theorem dX0_becomeLike_36 : decode cX0_becomeLike 36 = .ok (.getfield 15, 3) := by decide +kernel
theorem dX0_becomeLike_39 : decode cX0_becomeLike 39 = .ok (.aload_n 0, 1) := by decide +kernel
theorem dX0_becomeLike_40 : decode cX0_becomeLike 40 = .ok (.getfield 15, 3) := by decide +kernel
theorem dX0_becomeLike_43 : decode cX0_becomeLike 43 = .ok (.invokestatic 57, 3) := by decide +kernel
theorem dX0_becomeLike_46 : decode cX0_becomeLike 46 = .ok (.aload_n 1, 1) := by decide +kernel
theorem dX0_becomeLike_47 : decode cX0_becomeLike 47 = .ok (.getfield 18, 3) := by decide +kernel
theorem dX0_becomeLike_50 : decode cX0_becomeLike 50 = .ok (.aload_n 0, 1) := by decide +kernel
theorem dX0_becomeLike_51 : decode cX0_becomeLike 51 = .ok (.getfield 18, 3) := by decide +kernel
theorem dX0_becomeLike_54 : decode cX0_becomeLike 54 = .ok (.invokestatic 57, 3) := by decide +kernel
theorem dX0_becomeLike_57 : decode cX0_becomeLike 57 = .ok (.aload_n 1, 1) := by decide +kernel
theorem dX0_becomeLike_58 : decode cX0_becomeLike 58 = .ok (.getfield 21, 3) := by decide +kernel
theorem dX0_becomeLike_61 : decode cX0_becomeLike 61 = .ok (.aload_n 0, 1) := by decide +kernel
theorem dX0_becomeLike_62 : decode cX0_becomeLike 62 = .ok (.getfield 21, 3) := by decide +kernel
theorem dX0_becomeLike_65 : decode cX0_becomeLike 65 = .ok (.invokestatic 57, 3) := by decide +kernel
theorem dX0_becomeLike_68 : decode cX0_becomeLike 68 = .ok (.aload_n 1, 1) := by decide +kernel
theorem dX0_becomeLike_69 : decode cX0_becomeLike 69 = .ok (.getfield 24, 3) := by decide +kernel
theorem dX0_becomeLike_72 : decode cX0_becomeLike 72 = .ok (.aload_n 0, 1) := by decide +kernel
theorem dX0_becomeLike_73 : decode cX0_becomeLike 73 = .ok (.getfield 24, 3) := by decide +kernel
theorem dX0_becomeLike_76 : decode cX0_becomeLike 76 = .ok (.invokestatic 57, 3) := by decide +kernel
theorem dX0_becomeLike_79 : decode cX0_becomeLike 79 = .ok (.aload_n 1, 1) := by decide +kernel
theorem dX0_becomeLike_80 : decode cX0_becomeLike 80 = .ok (.getfield 27, 3) := by decide +kernel
theorem dX0_becomeLike_83 : decode cX0_becomeLike 83 = .ok (.aload_n 0, 1) := by decide +kernel
theorem dX0_becomeLike_84 : decode cX0_becomeLike 84 = .ok (.getfield 27, 3) := by decide +kernel
theorem dX0_becomeLike_87 : decode cX0_becomeLike 87 = .ok (.invokestatic 57, 3) := by decide +kernel
theorem dX0_becomeLike_90 : decode cX0_becomeLike 90 = .ok (.return_, 1) := by decide +kernel
theorem dX0_hasRow_0 : decode cX0_hasRow 0 = .ok (.iload_n 1, 1) := by decide +kernel
theorem dX0_hasRow_1 : decode cX0_hasRow 1 = .ok (.ifCond .lt 15, 3) := by decide +kernel
theorem dX0_hasRow_4 : decode cX0_hasRow 4 = .ok (.iload_n 1, 1) := by decide +kernel
theorem dX0_hasRow_5 : decode cX0_hasRow 5 = .ok (.aload_n 0, 1) := by decide +kernel
theorem dX0_hasRow_6 : decode cX0_hasRow 6 = .ok (.getfield 38, 3) := by decide +kernel
theorem dX0_hasRow_9 : decode cX0_hasRow 9 = .ok (.if_icmp .ge 7, 3) := by decide +kernel
theorem dX0_hasRow_12 : decode cX0_hasRow 12 = .ok (.iconst 1, 1) := by decide +kernel
theorem dX0_hasRow_13 : decode cX0_hasRow 13 = .ok (.goto 4, 3) := by decide +kernel
theorem dX0_hasRow_16 : decode cX0_hasRow 16 = .ok (.iconst 0, 1) := by decide +kernel
theorem dX0_hasRow_17 : decode cX0_hasRow 17 = .ok (.ireturn, 1) := by decide +kernel
theorem dX0_hasColumn_0 : decode cX0_hasColumn 0 = .ok (.iload_n 1, 1) := by decide +kernel
theorem dX0_hasColumn_1 : decode cX0_hasColumn 1 = .ok (.ifCond .lt 15, 3) := by decide +kernel
theorem dX0_hasColumn_4 : decode cX0_hasColumn 4 = .ok (.iload_n 1, 1) := by decide +kernel
theorem dX0_hasColumn_5 : decode cX0_hasColumn 5 = .ok (.aload_n 0, 1) := by decide +kernel
theorem dX0_hasColumn_6 : decode cX0_hasColumn 6 = .ok (.getfield 34, 3) := by decide +kernel
theorem dX0_hasColumn_9 : decode cX0_hasColumn 9 = .ok (.if_icmp .ge 7, 3) := by decide +kernel
theorem dX0_hasColumn_12 : decode cX0_hasColumn 12 = .ok (.iconst 1, 1) := by decide +kernel
theorem dX0_hasColumn_13 : decode cX0_hasColumn 13 = .ok (.goto 4, 3) := by decide +kernel
theorem dX0_hasColumn_16 : decode cX0_hasColumn 16 = .ok (.iconst 0, 1) := by decide +kernel
theorem dX0_hasColumn_17 : decode cX0_hasColumn 17 = .ok (.ireturn, 1) := by decide +kernel
theorem dX0_placeOf_0 : decode cX0_placeOf 0 = .ok (.iload_n 1, 1) := by decide +kernel
theorem dX0_placeOf_1 : decode cX0_placeOf 1 = .ok (.aload_n 0, 1) := by decide +kernel
theorem dX0_placeOf_2 : decode cX0_placeOf 2 = .ok (.getfield 34, 3) := by decide +kernel
theorem dX0_placeOf_5 : decode cX0_placeOf 5 = .ok (.imul, 1) := by decide +kernel
theorem dX0_placeOf_6 : decode cX0_placeOf 6 = .ok (.iload_n 2, 1) := by decide +kernel
theorem dX0_placeOf_7 : decode cX0_placeOf 7 = .ok (.iadd, 1) := by decide +kernel
theorem dX0_placeOf_8 : decode cX0_placeOf 8 = .ok (.ireturn, 1) := by decide +kernel
set_option maxRecDepth 20000 in
theorem ggX0_partIn_X1_cell : GoodIn wsX0_partIn wsX1_cell := goodIn_r _ [4] rfl (by decide +kernel)
set_option maxRecDepth 20000 in
theorem gX0_partIn_X1_cell_n61 : GoodIn wsX0_partIn (wsX1_cell) := ggX0_partIn_X1_cell
theorem dX0_partIn_0 : decode cX0_partIn 0 = .ok (.aload_n 0, 1) := by decide +kernel
theorem dX0_partIn_1 : decode cX0_partIn 1 = .ok (.getfield 9, 3) := by decide +kernel
theorem dX0_partIn_4 : decode cX0_partIn 4 = .ok (.iload_n 1, 1) := by decide +kernel
theorem dX0_partIn_5 : decode cX0_partIn 5 = .ok (.invokestatic 61, 3) := by decide +kernel
theorem dX0_partIn_8 : decode cX0_partIn 8 = .ok (.ireturn, 1) := by decide +kernel
set_option maxRecDepth 20000 in
theorem ggX0_isRightToggle_X0_partIn : GoodIn wsX0_isRightToggle wsX0_partIn := goodIn_r _ [6, 7, 8, 9, 10, 11, 12, 13, 14, 15, 16, 17, 18, 19] rfl (by decide +kernel)
set_option maxRecDepth 20000 in
theorem gX0_isRightToggle_X0_partIn : GoodIn wsX0_isRightToggle (wsV RX0 65 RX0 yX0_partIn wsX0_partIn) := goodIn_app (goodIn_of _ (by decide +kernel)) ggX0_isRightToggle_X0_partIn
set_option maxRecDepth 20000 in
theorem ggX0_isRightToggle_X1_cell : GoodIn wsX0_isRightToggle wsX1_cell := goodIn_r _ [10] rfl (by decide +kernel)
set_option maxRecDepth 20000 in
theorem gX0_isRightToggle_X1_cell_n61 : GoodIn wsX0_isRightToggle (wsX1_cell) := ggX0_isRightToggle_X1_cell
theorem dX0_isRightToggle_0 : decode cX0_isRightToggle 0 = .ok (.aload_n 0, 1) := by decide +kernel
theorem dX0_isRightToggle_1 : decode cX0_isRightToggle 1 = .ok (.iload_n 1, 1) := by decide +kernel
theorem dX0_isRightToggle_2 : decode cX0_isRightToggle 2 = .ok (.invokevirtual 65, 3) := by decide +kernel
theorem dX0_isRightToggle_5 : decode cX0_isRightToggle 5 = .ok (.iconst 3, 1) := by decide +kernel
theorem dX0_isRightToggle_6 : decode cX0_isRightToggle 6 = .ok (.if_icmp .ne 19, 3) := by decide +kernel
theorem dX0_isRightToggle_9 : decode cX0_isRightToggle 9 = .ok (.aload_n 0, 1) := by decide +kernel
theorem dX0_isRightToggle_10 : decode cX0_isRightToggle 10 = .ok (.getfield 18, 3) := by decide +kernel
theorem dX0_isRightToggle_13 : decode cX0_isRightToggle 13 = .ok (.iload_n 1, 1) := by decide +kernel
theorem dX0_isRightToggle_14 : decode cX0_isRightToggle 14 = .ok (.invokestatic 61, 3) := by decide +kernel
theorem dX0_isRightToggle_17 : decode cX0_isRightToggle 17 = .ok (.iconst 1, 1) := by decide +kernel
theorem dX0_isRightToggle_18 : decode cX0_isRightToggle 18 = .ok (.if_icmp .ne 7, 3) := by decide +kernel
theorem dX0_isRightToggle_21 : decode cX0_isRightToggle 21 = .ok (.iconst 1, 1) := by decide +kernel
theorem dX0_isRightToggle_22 : decode cX0_isRightToggle 22 = .ok (.goto 4, 3) := by decide +kernel
theorem dX0_isRightToggle_25 : decode cX0_isRightToggle 25 = .ok (.iconst 0, 1) := by decide +kernel
theorem dX0_isRightToggle_26 : decode cX0_isRightToggle 26 = .ok (.ireturn, 1) := by decide +kernel
set_option maxRecDepth 20000 in
theorem ggX0_countedIn_X0_partIn : GoodIn wsX0_countedIn wsX0_partIn := goodIn_r _ [6, 7, 8, 9, 10, 11, 12, 13, 14, 15, 16, 17, 18, 19] rfl (by decide +kernel)
set_option maxRecDepth 20000 in
theorem gX0_countedIn_X0_partIn : GoodIn wsX0_countedIn (wsV RX0 65 RX0 yX0_partIn wsX0_partIn) := goodIn_app (goodIn_of _ (by decide +kernel)) ggX0_countedIn_X0_partIn
set_option maxRecDepth 20000 in
theorem ggX0_countedIn_X1_cell : GoodIn wsX0_countedIn wsX1_cell := goodIn_r _ [10] rfl (by decide +kernel)
set_option maxRecDepth 20000 in
theorem gX0_countedIn_X1_cell_n61 : GoodIn wsX0_countedIn (wsX1_cell) := ggX0_countedIn_X1_cell
theorem dX0_countedIn_0 : decode cX0_countedIn 0 = .ok (.aload_n 0, 1) := by decide +kernel
theorem dX0_countedIn_1 : decode cX0_countedIn 1 = .ok (.iload_n 1, 1) := by decide +kernel
theorem dX0_countedIn_2 : decode cX0_countedIn 2 = .ok (.invokevirtual 65, 3) := by decide +kernel
theorem dX0_countedIn_5 : decode cX0_countedIn 5 = .ok (.iconst 5, 1) := by decide +kernel
theorem dX0_countedIn_6 : decode cX0_countedIn 6 = .ok (.if_icmp .ne 14, 3) := by decide +kernel
theorem dX0_countedIn_9 : decode cX0_countedIn 9 = .ok (.aload_n 0, 1) := by decide +kernel
theorem dX0_countedIn_10 : decode cX0_countedIn 10 = .ok (.getfield 18, 3) := by decide +kernel
theorem dX0_countedIn_13 : decode cX0_countedIn 13 = .ok (.iload_n 1, 1) := by decide +kernel
theorem dX0_countedIn_14 : decode cX0_countedIn 14 = .ok (.invokestatic 61, 3) := by decide +kernel
theorem dX0_countedIn_17 : decode cX0_countedIn 17 = .ok (.goto 4, 3) := by decide +kernel
theorem dX0_countedIn_20 : decode cX0_countedIn 20 = .ok (.iconst 0, 1) := by decide +kernel
theorem dX0_countedIn_21 : decode cX0_countedIn 21 = .ok (.ireturn, 1) := by decide +kernel
set_option maxRecDepth 20000 in
theorem ggX0_replacePart_X0_placeOf : GoodIn wsX0_replacePart wsX0_placeOf := goodIn_r _ [8, 9, 19, 20, 21, 22, 23, 24, 25, 26, 27] rfl (by decide +kernel)
set_option maxRecDepth 20000 in
theorem gX0_replacePart_X0_placeOf : GoodIn wsX0_replacePart (wsV RX0 69 RX0 yX0_placeOf wsX0_placeOf) := goodIn_app (goodIn_of _ (by decide +kernel)) ggX0_replacePart_X0_placeOf
set_option maxRecDepth 20000 in
theorem ggX0_replacePart_X0_partIn : GoodIn wsX0_replacePart wsX0_partIn := goodIn_r _ [13, 1, 14, 15, 16, 19, 20, 21, 22, 23, 24, 25, 26, 27] rfl (by decide +kernel)
set_option maxRecDepth 20000 in
theorem gX0_replacePart_X0_partIn : GoodIn wsX0_replacePart (wsV RX0 65 RX0 yX0_partIn wsX0_partIn) := goodIn_app (goodIn_of _ (by decide +kernel)) ggX0_replacePart_X0_partIn
set_option maxRecDepth 20000 in
theorem ggX0_replacePart_X1_setCell : GoodIn wsX0_replacePart wsX1_setCell := goodIn_r _ [18] rfl (by decide +kernel)
set_option maxRecDepth 20000 in
theorem gX0_replacePart_X1_setCell_n53 : GoodIn wsX0_replacePart (wsX1_setCell) := ggX0_replacePart_X1_setCell
theorem dX0_replacePart_0 : decode cX0_replacePart 0 = .ok (.aload_n 0, 1) := by decide +kernel
theorem dX0_replacePart_1 : decode cX0_replacePart 1 = .ok (.iload_n 1, 1) := by decide +kernel
theorem dX0_replacePart_2 : decode cX0_replacePart 2 = .ok (.iload_n 2, 1) := by decide +kernel
theorem dX0_replacePart_3 : decode cX0_replacePart 3 = .ok (.invokevirtual 69, 3) := by decide +kernel
theorem dX0_replacePart_6 : decode cX0_replacePart 6 = .ok (.istore 5, 2) := by decide +kernel
theorem dX0_replacePart_8 : decode cX0_replacePart 8 = .ok (.aload_n 0, 1) := by decide +kernel
theorem dX0_replacePart_9 : decode cX0_replacePart 9 = .ok (.iload 5, 2) := by decide +kernel
theorem dX0_replacePart_11 : decode cX0_replacePart 11 = .ok (.invokevirtual 65, 3) := by decide +kernel
theorem dX0_replacePart_14 : decode cX0_replacePart 14 = .ok (.istore 6, 2) := by decide +kernel
theorem dX0_replacePart_16 : decode cX0_replacePart 16 = .ok (.aload_n 0, 1) := by decide +kernel
theorem dX0_replacePart_17 : decode cX0_replacePart 17 = .ok (.getfield 9, 3) := by decide +kernel
theorem dX0_replacePart_20 : decode cX0_replacePart 20 = .ok (.iload 5, 2) := by decide +kernel
theorem dX0_replacePart_22 : decode cX0_replacePart 22 = .ok (.iload_n 3, 1) := by decide +kernel
theorem dX0_replacePart_23 : decode cX0_replacePart 23 = .ok (.invokestatic 53, 3) := by decide +kernel
theorem dX0_replacePart_26 : decode cX0_replacePart 26 = .ok (.aload_n 0, 1) := by decide +kernel
theorem dX0_replacePart_27 : decode cX0_replacePart 27 = .ok (.getfield 15, 3) := by decide +kernel
theorem dX0_replacePart_30 : decode cX0_replacePart 30 = .ok (.iload 5, 2) := by decide +kernel
theorem dX0_replacePart_32 : decode cX0_replacePart 32 = .ok (.iload 4, 2) := by decide +kernel
theorem dX0_replacePart_34 : decode cX0_replacePart 34 = .ok (.invokestatic 53, 3) := by decide +kernel
theorem dX0_replacePart_37 : decode cX0_replacePart 37 = .ok (.aload_n 0, 1) := by decide +kernel
theorem dX0_replacePart_38 : decode cX0_replacePart 38 = .ok (.getfield 18, 3) := by decide +kernel
theorem dX0_replacePart_41 : decode cX0_replacePart 41 = .ok (.iload 5, 2) := by decide +kernel
theorem dX0_replacePart_43 : decode cX0_replacePart 43 = .ok (.iconst 0, 1) := by decide +kernel
theorem dX0_replacePart_44 : decode cX0_replacePart 44 = .ok (.invokestatic 53, 3) := by decide +kernel
theorem dX0_replacePart_47 : decode cX0_replacePart 47 = .ok (.iload 6, 2) := by decide +kernel
theorem dX0_replacePart_49 : decode cX0_replacePart 49 = .ok (.ireturn, 1) := by decide +kernel
set_option maxRecDepth 20000 in
theorem ggX0_turnOver_X0_isRightToggle : GoodIn wsX0_turnOver wsX0_isRightToggle := goodIn_r _ [6, 1, 7, 8, 9, 5, 10, 11, 12, 13, 14, 17, 18, 19, 20, 21, 22, 23, 24, 25] rfl (by decide +kernel)
set_option maxRecDepth 20000 in
theorem gX0_turnOver_X0_isRightToggle : GoodIn wsX0_turnOver (wsV RX0 73 RX0 yX0_isRightToggle wsX0_isRightToggle) := goodIn_app (goodIn_of _ (by decide +kernel)) ggX0_turnOver_X0_isRightToggle
set_option maxRecDepth 20000 in
theorem ggX0_turnOver_X1_setCell : GoodIn wsX0_turnOver wsX1_setCell := goodIn_r _ [16] rfl (by decide +kernel)
set_option maxRecDepth 20000 in
theorem gX0_turnOver_X1_setCell_n53 : GoodIn wsX0_turnOver (wsX1_setCell) := ggX0_turnOver_X1_setCell
theorem dX0_turnOver_0 : decode cX0_turnOver 0 = .ok (.aload_n 0, 1) := by decide +kernel
theorem dX0_turnOver_1 : decode cX0_turnOver 1 = .ok (.getfield 18, 3) := by decide +kernel
theorem dX0_turnOver_4 : decode cX0_turnOver 4 = .ok (.iload_n 1, 1) := by decide +kernel
theorem dX0_turnOver_5 : decode cX0_turnOver 5 = .ok (.aload_n 0, 1) := by decide +kernel
theorem dX0_turnOver_6 : decode cX0_turnOver 6 = .ok (.iload_n 1, 1) := by decide +kernel
theorem dX0_turnOver_7 : decode cX0_turnOver 7 = .ok (.invokevirtual 73, 3) := by decide +kernel
theorem dX0_turnOver_10 : decode cX0_turnOver 10 = .ok (.ifCond .eq 7, 3) := by decide +kernel
theorem dX0_turnOver_13 : decode cX0_turnOver 13 = .ok (.iconst 0, 1) := by decide +kernel
theorem dX0_turnOver_14 : decode cX0_turnOver 14 = .ok (.goto 4, 3) := by decide +kernel
theorem dX0_turnOver_17 : decode cX0_turnOver 17 = .ok (.iconst 1, 1) := by decide +kernel
theorem dX0_turnOver_18 : decode cX0_turnOver 18 = .ok (.invokestatic 53, 3) := by decide +kernel
theorem dX0_turnOver_21 : decode cX0_turnOver 21 = .ok (.return_, 1) := by decide +kernel
theorem dX0_countToggles_0 : decode cX0_countToggles 0 = .ok (.iconst 0, 1) := by decide +kernel
theorem dX0_countToggles_1 : decode cX0_countToggles 1 = .ok (.istore_n 1, 1) := by decide +kernel
theorem dX0_countToggles_2 : decode cX0_countToggles 2 = .ok (.aload_n 0, 1) := by decide +kernel
theorem dX0_countToggles_3 : decode cX0_countToggles 3 = .ok (.getfield 9, 3) := by decide +kernel
theorem dX0_countToggles_6 : decode cX0_countToggles 6 = .ok (.astore_n 2, 1) := by decide +kernel
theorem dX0_countToggles_7 : decode cX0_countToggles 7 = .ok (.aload_n 2, 1) := by decide +kernel
theorem dX0_countToggles_8 : decode cX0_countToggles 8 = .ok (.arraylength, 1) := by decide +kernel
theorem dX0_countToggles_9 : decode cX0_countToggles 9 = .ok (.istore_n 3, 1) := by decide +kernel
theorem dX0_countToggles_10 : decode cX0_countToggles 10 = .ok (.iconst 0, 1) := by decide +kernel
theorem dX0_countToggles_11 : decode cX0_countToggles 11 = .ok (.istore 4, 2) := by decide +kernel
theorem dX0_countToggles_13 : decode cX0_countToggles 13 = .ok (.iload 4, 2) := by decide +kernel
theorem dX0_countToggles_15 : decode cX0_countToggles 15 = .ok (.iload_n 3, 1) := by decide +kernel
theorem dX0_countToggles_16 : decode cX0_countToggles 16 = .ok (.if_icmp .ge 24, 3) := by decide +kernel
theorem dX0_countToggles_19 : decode cX0_countToggles 19 = .ok (.aload_n 2, 1) := by decide +kernel
theorem dX0_countToggles_20 : decode cX0_countToggles 20 = .ok (.iload 4, 2) := by decide +kernel
theorem dX0_countToggles_22 : decode cX0_countToggles 22 = .ok (.iaload, 1) := by decide +kernel
theorem dX0_countToggles_23 : decode cX0_countToggles 23 = .ok (.istore 5, 2) := by decide +kernel
theorem dX0_countToggles_25 : decode cX0_countToggles 25 = .ok (.iload 5, 2) := by decide +kernel
theorem dX0_countToggles_27 : decode cX0_countToggles 27 = .ok (.iconst 3, 1) := by decide +kernel
theorem dX0_countToggles_28 : decode cX0_countToggles 28 = .ok (.if_icmp .ne 6, 3) := by decide +kernel
theorem dX0_countToggles_31 : decode cX0_countToggles 31 = .ok (.iinc 1 1, 3) := by decide +kernel
theorem dX0_countToggles_34 : decode cX0_countToggles 34 = .ok (.iinc 4 1, 3) := by decide +kernel
theorem dX0_countToggles_37 : decode cX0_countToggles 37 = .ok (.goto (-24), 3) := by decide +kernel
theorem dX0_countToggles_40 : decode cX0_countToggles 40 = .ok (.iload_n 1, 1) := by decide +kernel
theorem dX0_countToggles_41 : decode cX0_countToggles 41 = .ok (.ireturn, 1) := by decide +kernel
set_option maxRecDepth 20000 in
theorem ggX0_numberToldBy_X0_placeOf : GoodIn wsX0_numberToldBy wsX0_placeOf := goodIn_r _ [6, 1, 20, 21, 22, 23, 24, 25, 26, 27, 28] rfl (by decide +kernel)
set_option maxRecDepth 20000 in
theorem gX0_numberToldBy_X0_placeOf : GoodIn wsX0_numberToldBy (wsV RX0 69 RX0 yX0_placeOf wsX0_placeOf) := goodIn_app (goodIn_of _ (by decide +kernel)) ggX0_numberToldBy_X0_placeOf
set_option maxRecDepth 20000 in
theorem ggX0_numberToldBy_X0_partIn : GoodIn wsX0_numberToldBy wsX0_partIn := goodIn_r _ [10, 11, 12, 13, 14, 20, 21, 22, 23, 24, 25, 26, 27, 28] rfl (by decide +kernel)
set_option maxRecDepth 20000 in
theorem gX0_numberToldBy_X0_partIn : GoodIn wsX0_numberToldBy (wsV RX0 65 RX0 yX0_partIn wsX0_partIn) := goodIn_app (goodIn_of _ (by decide +kernel)) ggX0_numberToldBy_X0_partIn
set_option maxRecDepth 20000 in
theorem ggX0_numberToldBy_X0_isRightToggle : GoodIn wsX0_numberToldBy wsX0_isRightToggle := goodIn_r _ [18, 19, 7, 8, 9, 5, 10, 11, 12, 13, 14, 20, 21, 22, 23, 24, 25, 26, 27, 28] rfl (by decide +kernel)
set_option maxRecDepth 20000 in
theorem gX0_numberToldBy_X0_isRightToggle : GoodIn wsX0_numberToldBy (wsV RX0 73 RX0 yX0_isRightToggle wsX0_isRightToggle) := goodIn_app (goodIn_of _ (by decide +kernel)) ggX0_numberToldBy_X0_isRightToggle
theorem dX0_numberToldBy_0 : decode cX0_numberToldBy 0 = .ok (.iconst 0, 1) := by decide +kernel
theorem dX0_numberToldBy_1 : decode cX0_numberToldBy 1 = .ok (.istore_n 2, 1) := by decide +kernel
theorem dX0_numberToldBy_2 : decode cX0_numberToldBy 2 = .ok (.iconst 1, 1) := by decide +kernel
theorem dX0_numberToldBy_3 : decode cX0_numberToldBy 3 = .ok (.istore_n 3, 1) := by decide +kernel
theorem dX0_numberToldBy_4 : decode cX0_numberToldBy 4 = .ok (.iconst 0, 1) := by decide +kernel
theorem dX0_numberToldBy_5 : decode cX0_numberToldBy 5 = .ok (.istore 4, 2) := by decide +kernel
theorem dX0_numberToldBy_7 : decode cX0_numberToldBy 7 = .ok (.iload 4, 2) := by decide +kernel
theorem dX0_numberToldBy_9 : decode cX0_numberToldBy 9 = .ok (.aload_n 0, 1) := by decide +kernel
theorem dX0_numberToldBy_10 : decode cX0_numberToldBy 10 = .ok (.getfield 34, 3) := by decide +kernel
theorem dX0_numberToldBy_13 : decode cX0_numberToldBy 13 = .ok (.if_icmp .ge 49, 3) := by decide +kernel
theorem dX0_numberToldBy_16 : decode cX0_numberToldBy 16 = .ok (.aload_n 0, 1) := by decide +kernel
theorem dX0_numberToldBy_17 : decode cX0_numberToldBy 17 = .ok (.iload_n 1, 1) := by decide +kernel
theorem dX0_numberToldBy_18 : decode cX0_numberToldBy 18 = .ok (.iload 4, 2) := by decide +kernel
theorem dX0_numberToldBy_20 : decode cX0_numberToldBy 20 = .ok (.invokevirtual 69, 3) := by decide +kernel
theorem dX0_numberToldBy_23 : decode cX0_numberToldBy 23 = .ok (.istore 5, 2) := by decide +kernel
theorem dX0_numberToldBy_25 : decode cX0_numberToldBy 25 = .ok (.aload_n 0, 1) := by decide +kernel
theorem dX0_numberToldBy_26 : decode cX0_numberToldBy 26 = .ok (.iload 5, 2) := by decide +kernel
theorem dX0_numberToldBy_28 : decode cX0_numberToldBy 28 = .ok (.invokevirtual 65, 3) := by decide +kernel
theorem dX0_numberToldBy_31 : decode cX0_numberToldBy 31 = .ok (.iconst 3, 1) := by decide +kernel
theorem dX0_numberToldBy_32 : decode cX0_numberToldBy 32 = .ok (.if_icmp .ne 24, 3) := by decide +kernel
theorem dX0_numberToldBy_35 : decode cX0_numberToldBy 35 = .ok (.iload_n 2, 1) := by decide +kernel
theorem dX0_numberToldBy_36 : decode cX0_numberToldBy 36 = .ok (.aload_n 0, 1) := by decide +kernel
theorem dX0_numberToldBy_37 : decode cX0_numberToldBy 37 = .ok (.iload 5, 2) := by decide +kernel
theorem dX0_numberToldBy_39 : decode cX0_numberToldBy 39 = .ok (.invokevirtual 73, 3) := by decide +kernel
theorem dX0_numberToldBy_42 : decode cX0_numberToldBy 42 = .ok (.ifCond .eq 7, 3) := by decide +kernel
theorem dX0_numberToldBy_45 : decode cX0_numberToldBy 45 = .ok (.iload_n 3, 1) := by decide +kernel
theorem dX0_numberToldBy_46 : decode cX0_numberToldBy 46 = .ok (.goto 4, 3) := by decide +kernel
theorem dX0_numberToldBy_49 : decode cX0_numberToldBy 49 = .ok (.iconst 0, 1) := by decide +kernel
theorem dX0_numberToldBy_50 : decode cX0_numberToldBy 50 = .ok (.iadd, 1) := by decide +kernel
theorem dX0_numberToldBy_51 : decode cX0_numberToldBy 51 = .ok (.istore_n 2, 1) := by decide +kernel
theorem dX0_numberToldBy_52 : decode cX0_numberToldBy 52 = .ok (.iload_n 3, 1) := by decide +kernel
theorem dX0_numberToldBy_53 : decode cX0_numberToldBy 53 = .ok (.iconst 2, 1) := by decide +kernel
theorem dX0_numberToldBy_54 : decode cX0_numberToldBy 54 = .ok (.imul, 1) := by decide +kernel
theorem dX0_numberToldBy_55 : decode cX0_numberToldBy 55 = .ok (.istore_n 3, 1) := by decide +kernel
theorem dX0_numberToldBy_56 : decode cX0_numberToldBy 56 = .ok (.iinc 4 1, 3) := by decide +kernel
theorem dX0_numberToldBy_59 : decode cX0_numberToldBy 59 = .ok (.goto (-52), 3) := by decide +kernel
theorem dX0_numberToldBy_62 : decode cX0_numberToldBy 62 = .ok (.iload_n 2, 1) := by decide +kernel
theorem dX0_numberToldBy_63 : decode cX0_numberToldBy 63 = .ok (.ireturn, 1) := by decide +kernel
set_option maxRecDepth 20000 in
theorem ggX0_togglesUnlike_X0_isRightToggle : GoodIn wsX0_togglesUnlike wsX0_isRightToggle := goodIn_r _ [6, 7, 8, 9, 10, 5, 11, 1, 12, 13, 14, 15, 16, 17, 18, 19, 20, 21, 22, 23] rfl (by decide +kernel)
set_option maxRecDepth 20000 in
theorem gX0_togglesUnlike_X0_isRightToggle : GoodIn wsX0_togglesUnlike (wsV RX0 73 RX0 yX0_isRightToggle wsX0_isRightToggle) := goodIn_app (goodIn_of _ (by decide +kernel)) ggX0_togglesUnlike_X0_isRightToggle
theorem dX0_togglesUnlike_0 : decode cX0_togglesUnlike 0 = .ok (.iconst 0, 1) := by decide +kernel
theorem dX0_togglesUnlike_1 : decode cX0_togglesUnlike 1 = .ok (.istore_n 2, 1) := by decide +kernel
theorem dX0_togglesUnlike_2 : decode cX0_togglesUnlike 2 = .ok (.iconst 0, 1) := by decide +kernel
theorem dX0_togglesUnlike_3 : decode cX0_togglesUnlike 3 = .ok (.istore_n 3, 1) := by decide +kernel
theorem dX0_togglesUnlike_4 : decode cX0_togglesUnlike 4 = .ok (.iload_n 3, 1) := by decide +kernel
theorem dX0_togglesUnlike_5 : decode cX0_togglesUnlike 5 = .ok (.aload_n 0, 1) := by decide +kernel
theorem dX0_togglesUnlike_6 : decode cX0_togglesUnlike 6 = .ok (.getfield 9, 3) := by decide +kernel
theorem dX0_togglesUnlike_9 : decode cX0_togglesUnlike 9 = .ok (.arraylength, 1) := by decide +kernel
theorem dX0_togglesUnlike_10 : decode cX0_togglesUnlike 10 = .ok (.if_icmp .ge 25, 3) := by decide +kernel
theorem dX0_togglesUnlike_13 : decode cX0_togglesUnlike 13 = .ok (.aload_n 0, 1) := by decide +kernel
theorem dX0_togglesUnlike_14 : decode cX0_togglesUnlike 14 = .ok (.iload_n 3, 1) := by decide +kernel
theorem dX0_togglesUnlike_15 : decode cX0_togglesUnlike 15 = .ok (.invokevirtual 73, 3) := by decide +kernel
theorem dX0_togglesUnlike_18 : decode cX0_togglesUnlike 18 = .ok (.aload_n 1, 1) := by decide +kernel
theorem dX0_togglesUnlike_19 : decode cX0_togglesUnlike 19 = .ok (.iload_n 3, 1) := by decide +kernel
theorem dX0_togglesUnlike_20 : decode cX0_togglesUnlike 20 = .ok (.invokevirtual 73, 3) := by decide +kernel
theorem dX0_togglesUnlike_23 : decode cX0_togglesUnlike 23 = .ok (.if_icmp .eq 6, 3) := by decide +kernel
theorem dX0_togglesUnlike_26 : decode cX0_togglesUnlike 26 = .ok (.iinc 2 1, 3) := by decide +kernel
theorem dX0_togglesUnlike_29 : decode cX0_togglesUnlike 29 = .ok (.iinc 3 1, 3) := by decide +kernel
theorem dX0_togglesUnlike_32 : decode cX0_togglesUnlike 32 = .ok (.goto (-28), 3) := by decide +kernel
theorem dX0_togglesUnlike_35 : decode cX0_togglesUnlike 35 = .ok (.iload_n 2, 1) := by decide +kernel
theorem dX0_togglesUnlike_36 : decode cX0_togglesUnlike 36 = .ok (.ireturn, 1) := by decide +kernel
set_option maxRecDepth 20000 in
theorem ggX0_hasStatesOf_X1_cell : GoodIn wsX0_hasStatesOf wsX1_cell := goodIn_r _ [4] rfl (by decide +kernel)
set_option maxRecDepth 20000 in
theorem gX0_hasStatesOf_X1_cell_n61 : GoodIn wsX0_hasStatesOf (wsX1_cell) := ggX0_hasStatesOf_X1_cell
theorem dX0_hasStatesOf_0 : decode cX0_hasStatesOf 0 = .ok (.iconst 0, 1) := by decide +kernel
theorem dX0_hasStatesOf_1 : decode cX0_hasStatesOf 1 = .ok (.istore_n 2, 1) := by decide +kernel
theorem dX0_hasStatesOf_2 : decode cX0_hasStatesOf 2 = .ok (.iload_n 2, 1) := by decide +kernel
theorem dX0_hasStatesOf_3 : decode cX0_hasStatesOf 3 = .ok (.aload_n 0, 1) := by decide +kernel
theorem dX0_hasStatesOf_4 : decode cX0_hasStatesOf 4 = .ok (.getfield 18, 3) := by decide +kernel
theorem dX0_hasStatesOf_7 : decode cX0_hasStatesOf 7 = .ok (.arraylength, 1) := by decide +kernel
theorem dX0_hasStatesOf_8 : decode cX0_hasStatesOf 8 = .ok (.if_icmp .ge 30, 3) := by decide +kernel
theorem dX0_hasStatesOf_11 : decode cX0_hasStatesOf 11 = .ok (.aload_n 0, 1) := by decide +kernel
theorem dX0_hasStatesOf_12 : decode cX0_hasStatesOf 12 = .ok (.getfield 18, 3) := by decide +kernel
theorem dX0_hasStatesOf_15 : decode cX0_hasStatesOf 15 = .ok (.iload_n 2, 1) := by decide +kernel
theorem dX0_hasStatesOf_16 : decode cX0_hasStatesOf 16 = .ok (.invokestatic 61, 3) := by decide +kernel
theorem dX0_hasStatesOf_19 : decode cX0_hasStatesOf 19 = .ok (.aload_n 1, 1) := by decide +kernel
theorem dX0_hasStatesOf_20 : decode cX0_hasStatesOf 20 = .ok (.getfield 18, 3) := by decide +kernel
theorem dX0_hasStatesOf_23 : decode cX0_hasStatesOf 23 = .ok (.iload_n 2, 1) := by decide +kernel
theorem dX0_hasStatesOf_24 : decode cX0_hasStatesOf 24 = .ok (.invokestatic 61, 3) := by decide +kernel
theorem dX0_hasStatesOf_27 : decode cX0_hasStatesOf 27 = .ok (.if_icmp .eq 5, 3) := by decide +kernel
theorem dX0_hasStatesOf_30 : decode cX0_hasStatesOf 30 = .ok (.iconst 0, 1) := by decide +kernel
theorem dX0_hasStatesOf_31 : decode cX0_hasStatesOf 31 = .ok (.ireturn, 1) := by decide +kernel
theorem dX0_hasStatesOf_32 : decode cX0_hasStatesOf 32 = .ok (.iinc 2 1, 3) := by decide +kernel
theorem dX0_hasStatesOf_35 : decode cX0_hasStatesOf 35 = .ok (.goto (-33), 3) := by decide +kernel
theorem dX0_hasStatesOf_38 : decode cX0_hasStatesOf 38 = .ok (.iconst 1, 1) := by decide +kernel
theorem dX0_hasStatesOf_39 : decode cX0_hasStatesOf 39 = .ok (.ireturn, 1) := by decide +kernel
set_option maxRecDepth 20000 in
theorem ggX0_letFall_X0_fallTo : GoodIn wsX0_letFall wsX0_fallTo := goodIn_r _ [8, 9, 10, 11, 7, 12, 13, 14, 15, 16, 17, 18, 19, 20, 21, 22, 23, 24, 25, 26, 27, 28, 29, 30, 31, 32, 33, 34, 35, 36, 37, 38] rfl (by decide +kernel)
set_option maxRecDepth 20000 in
theorem gX0_letFall_X0_fallTo : GoodIn wsX0_letFall (wsV RX0 77 RX0 yX0_fallTo wsX0_fallTo) := goodIn_app (goodIn_of _ (by decide +kernel)) ggX0_letFall_X0_fallTo
set_option maxRecDepth 20000 in
theorem ggX0_letFall_X1_cell : GoodIn wsX0_letFall wsX1_cell := goodIn_r _ [23] rfl (by decide +kernel)
set_option maxRecDepth 20000 in
theorem gX0_letFall_X1_cell_n61 : GoodIn wsX0_letFall (wsX1_cell) := ggX0_letFall_X1_cell
set_option maxRecDepth 20000 in
theorem ggX0_letFall_X1_setCell : GoodIn wsX0_letFall wsX1_setCell := goodIn_r _ [25] rfl (by decide +kernel)
set_option maxRecDepth 20000 in
theorem gX0_letFall_X1_setCell_n53 : GoodIn wsX0_letFall (wsX1_setCell) := ggX0_letFall_X1_setCell
theorem dX0_letFall_0 : decode cX0_letFall 0 = .ok (.aload_n 0, 1) := by decide +kernel
theorem dX0_letFall_1 : decode cX0_letFall 1 = .ok (.iload_n 1, 1) := by decide +kernel
theorem dX0_letFall_2 : decode cX0_letFall 2 = .ok (.aload_n 0, 1) := by decide +kernel
theorem dX0_letFall_3 : decode cX0_letFall 3 = .ok (.getfield 38, 3) := by decide +kernel
theorem dX0_letFall_6 : decode cX0_letFall 6 = .ok (.invokevirtual 77, 3) := by decide +kernel
theorem dX0_letFall_9 : decode cX0_letFall 9 = .ok (.istore_n 2, 1) := by decide +kernel
theorem dX0_letFall_10 : decode cX0_letFall 10 = .ok (.iload_n 2, 1) := by decide +kernel
theorem dX0_letFall_11 : decode cX0_letFall 11 = .ok (.iconst (-1), 1) := by decide +kernel
theorem dX0_letFall_12 : decode cX0_letFall 12 = .ok (.if_icmp .ne 16, 3) := by decide +kernel
theorem dX0_letFall_15 : decode cX0_letFall 15 = .ok (.aload_n 0, 1) := by decide +kernel
theorem dX0_letFall_16 : decode cX0_letFall 16 = .ok (.dup, 1) := by decide +kernel
theorem dX0_letFall_17 : decode cX0_letFall 17 = .ok (.getfield 41, 3) := by decide +kernel
theorem dX0_letFall_20 : decode cX0_letFall 20 = .ok (.iconst 1, 1) := by decide +kernel
theorem dX0_letFall_21 : decode cX0_letFall 21 = .ok (.iadd, 1) := by decide +kernel
theorem dX0_letFall_22 : decode cX0_letFall 22 = .ok (.putfield 41, 3) := by decide +kernel
theorem dX0_letFall_25 : decode cX0_letFall 25 = .ok (.goto 21, 3) := by decide +kernel
theorem dX0_letFall_28 : decode cX0_letFall 28 = .ok (.aload_n 0, 1) := by decide +kernel
theorem dX0_letFall_29 : decode cX0_letFall 29 = .ok (.getfield 21, 3) := by decide +kernel
theorem dX0_letFall_32 : decode cX0_letFall 32 = .ok (.iload_n 2, 1) := by decide +kernel
theorem dX0_letFall_33 : decode cX0_letFall 33 = .ok (.aload_n 0, 1) := by decide +kernel
theorem dX0_letFall_34 : decode cX0_letFall 34 = .ok (.getfield 21, 3) := by decide +kernel
theorem dX0_letFall_37 : decode cX0_letFall 37 = .ok (.iload_n 2, 1) := by decide +kernel
theorem dX0_letFall_38 : decode cX0_letFall 38 = .ok (.invokestatic 61, 3) := by decide +kernel
theorem dX0_letFall_41 : decode cX0_letFall 41 = .ok (.iconst 1, 1) := by decide +kernel
theorem dX0_letFall_42 : decode cX0_letFall 42 = .ok (.iadd, 1) := by decide +kernel
theorem dX0_letFall_43 : decode cX0_letFall 43 = .ok (.invokestatic 53, 3) := by decide +kernel
theorem dX0_letFall_46 : decode cX0_letFall 46 = .ok (.iload_n 2, 1) := by decide +kernel
theorem dX0_letFall_47 : decode cX0_letFall 47 = .ok (.ireturn, 1) := by decide +kernel
set_option maxRecDepth 20000 in
theorem ggX0_fallTo_X0_placeOf : GoodIn wsX0_fallTo wsX0_placeOf := goodIn_r _ [5, 6, 23, 24, 25, 26, 27, 28, 29, 30, 31] rfl (by decide +kernel)
set_option maxRecDepth 20000 in
theorem gX0_fallTo_X0_placeOf : GoodIn wsX0_fallTo (wsV RX0 69 RX0 yX0_placeOf wsX0_placeOf) := goodIn_app (goodIn_of _ (by decide +kernel)) ggX0_fallTo_X0_placeOf
set_option maxRecDepth 20000 in
theorem ggX0_fallTo_X0_wayOut : GoodIn wsX0_fallTo wsX0_wayOut := goodIn_r _ [10, 11, 12, 13, 14, 15, 16, 17, 18, 23, 24, 25, 26, 27, 28, 29, 30, 31] rfl (by decide +kernel)
set_option maxRecDepth 20000 in
theorem gX0_fallTo_X0_wayOut : GoodIn wsX0_fallTo (wsV RX0 80 RX0 yX0_wayOut wsX0_wayOut) := goodIn_app (goodIn_of _ (by decide +kernel)) ggX0_fallTo_X0_wayOut
set_option maxRecDepth 20000 in
theorem ggX0_fallTo_X0_hasColumn : GoodIn wsX0_fallTo wsX0_hasColumn := goodIn_r _ [22, 6, 23, 24, 25, 26, 27, 28, 29, 30, 31] rfl (by decide +kernel)
set_option maxRecDepth 20000 in
theorem gX0_fallTo_X0_hasColumn : GoodIn wsX0_fallTo (wsV RX0 83 RX0 yX0_hasColumn wsX0_hasColumn) := goodIn_app (goodIn_of _ (by decide +kernel)) ggX0_fallTo_X0_hasColumn
theorem dX0_fallTo_0 : decode cX0_fallTo 0 = .ok (.iload_n 1, 1) := by decide +kernel
theorem dX0_fallTo_1 : decode cX0_fallTo 1 = .ok (.istore_n 3, 1) := by decide +kernel
theorem dX0_fallTo_2 : decode cX0_fallTo 2 = .ok (.iconst 0, 1) := by decide +kernel
theorem dX0_fallTo_3 : decode cX0_fallTo 3 = .ok (.istore 4, 2) := by decide +kernel
theorem dX0_fallTo_5 : decode cX0_fallTo 5 = .ok (.iconst 0, 1) := by decide +kernel
theorem dX0_fallTo_6 : decode cX0_fallTo 6 = .ok (.istore 5, 2) := by decide +kernel
theorem dX0_fallTo_8 : decode cX0_fallTo 8 = .ok (.iload 5, 2) := by decide +kernel
theorem dX0_fallTo_10 : decode cX0_fallTo 10 = .ok (.iload_n 2, 1) := by decide +kernel
theorem dX0_fallTo_11 : decode cX0_fallTo 11 = .ok (.if_icmp .ge 39, 3) := by decide +kernel
theorem dX0_fallTo_14 : decode cX0_fallTo 14 = .ok (.aload_n 0, 1) := by decide +kernel
theorem dX0_fallTo_15 : decode cX0_fallTo 15 = .ok (.aload_n 0, 1) := by decide +kernel
theorem dX0_fallTo_16 : decode cX0_fallTo 16 = .ok (.iload 5, 2) := by decide +kernel
theorem dX0_fallTo_18 : decode cX0_fallTo 18 = .ok (.iload_n 3, 1) := by decide +kernel
theorem dX0_fallTo_19 : decode cX0_fallTo 19 = .ok (.invokevirtual 69, 3) := by decide +kernel
theorem dX0_fallTo_22 : decode cX0_fallTo 22 = .ok (.iload 4, 2) := by decide +kernel
theorem dX0_fallTo_24 : decode cX0_fallTo 24 = .ok (.invokevirtual 80, 3) := by decide +kernel
theorem dX0_fallTo_27 : decode cX0_fallTo 27 = .ok (.istore 4, 2) := by decide +kernel
theorem dX0_fallTo_29 : decode cX0_fallTo 29 = .ok (.iload_n 3, 1) := by decide +kernel
theorem dX0_fallTo_30 : decode cX0_fallTo 30 = .ok (.iload 4, 2) := by decide +kernel
theorem dX0_fallTo_32 : decode cX0_fallTo 32 = .ok (.iadd, 1) := by decide +kernel
theorem dX0_fallTo_33 : decode cX0_fallTo 33 = .ok (.istore_n 3, 1) := by decide +kernel
theorem dX0_fallTo_34 : decode cX0_fallTo 34 = .ok (.aload_n 0, 1) := by decide +kernel
theorem dX0_fallTo_35 : decode cX0_fallTo 35 = .ok (.iload_n 3, 1) := by decide +kernel
theorem dX0_fallTo_36 : decode cX0_fallTo 36 = .ok (.invokevirtual 83, 3) := by decide +kernel
theorem dX0_fallTo_39 : decode cX0_fallTo 39 = .ok (.ifCond .ne 5, 3) := by decide +kernel
theorem dX0_fallTo_42 : decode cX0_fallTo 42 = .ok (.iconst (-1), 1) := by decide +kernel
theorem dX0_fallTo_43 : decode cX0_fallTo 43 = .ok (.ireturn, 1) := by decide +kernel
theorem dX0_fallTo_44 : decode cX0_fallTo 44 = .ok (.iinc 5 1, 3) := by decide +kernel
theorem dX0_fallTo_47 : decode cX0_fallTo 47 = .ok (.goto (-39), 3) := by decide +kernel
theorem dX0_fallTo_50 : decode cX0_fallTo 50 = .ok (.iload_n 3, 1) := by decide +kernel
theorem dX0_fallTo_51 : decode cX0_fallTo 51 = .ok (.ireturn, 1) := by decide +kernel
set_option maxRecDepth 20000 in
theorem ggX0_wayOut_X1_cell : GoodIn wsX0_wayOut wsX1_cell := goodIn_r _ [6] rfl (by decide +kernel)
set_option maxRecDepth 20000 in
theorem gX0_wayOut_X1_cell_n61 : GoodIn wsX0_wayOut (wsX1_cell) := ggX0_wayOut_X1_cell
set_option maxRecDepth 20000 in
theorem ggX0_wayOut_X1_setCell : GoodIn wsX0_wayOut wsX1_setCell := goodIn_r _ [8] rfl (by decide +kernel)
set_option maxRecDepth 20000 in
theorem gX0_wayOut_X1_setCell_n53 : GoodIn wsX0_wayOut (wsX1_setCell) := ggX0_wayOut_X1_setCell
theorem dX0_wayOut_0 : decode cX0_wayOut 0 = .ok (.aload_n 0, 1) := by decide +kernel
theorem dX0_wayOut_1 : decode cX0_wayOut 1 = .ok (.getfield 9, 3) := by decide +kernel
theorem dX0_wayOut_4 : decode cX0_wayOut 4 = .ok (.iload_n 1, 1) := by decide +kernel
theorem dX0_wayOut_5 : decode cX0_wayOut 5 = .ok (.invokestatic 61, 3) := by decide +kernel
theorem dX0_wayOut_8 : decode cX0_wayOut 8 = .ok (.tableswitch 101 1 5 #[36, 38, 42, 40, 42], 36) := by decide +kernel
theorem dX0_wayOut_44 : decode cX0_wayOut 44 = .ok (.iconst (-1), 1) := by decide +kernel
theorem dX0_wayOut_45 : decode cX0_wayOut 45 = .ok (.ireturn, 1) := by decide +kernel
theorem dX0_wayOut_46 : decode cX0_wayOut 46 = .ok (.iconst 1, 1) := by decide +kernel
theorem dX0_wayOut_47 : decode cX0_wayOut 47 = .ok (.ireturn, 1) := by decide +kernel
theorem dX0_wayOut_48 : decode cX0_wayOut 48 = .ok (.iload_n 2, 1) := by decide +kernel
theorem dX0_wayOut_49 : decode cX0_wayOut 49 = .ok (.ireturn, 1) := by decide +kernel
theorem dX0_wayOut_50 : decode cX0_wayOut 50 = .ok (.aload_n 0, 1) := by decide +kernel
theorem dX0_wayOut_51 : decode cX0_wayOut 51 = .ok (.getfield 18, 3) := by decide +kernel
theorem dX0_wayOut_54 : decode cX0_wayOut 54 = .ok (.iload_n 1, 1) := by decide +kernel
theorem dX0_wayOut_55 : decode cX0_wayOut 55 = .ok (.invokestatic 61, 3) := by decide +kernel
theorem dX0_wayOut_58 : decode cX0_wayOut 58 = .ok (.iconst 1, 1) := by decide +kernel
theorem dX0_wayOut_59 : decode cX0_wayOut 59 = .ok (.iadd, 1) := by decide +kernel
theorem dX0_wayOut_60 : decode cX0_wayOut 60 = .ok (.istore_n 3, 1) := by decide +kernel
theorem dX0_wayOut_61 : decode cX0_wayOut 61 = .ok (.iload_n 3, 1) := by decide +kernel
theorem dX0_wayOut_62 : decode cX0_wayOut 62 = .ok (.aload_n 0, 1) := by decide +kernel
theorem dX0_wayOut_63 : decode cX0_wayOut 63 = .ok (.getfield 15, 3) := by decide +kernel
theorem dX0_wayOut_66 : decode cX0_wayOut 66 = .ok (.iload_n 1, 1) := by decide +kernel
theorem dX0_wayOut_67 : decode cX0_wayOut 67 = .ok (.invokestatic 61, 3) := by decide +kernel
theorem dX0_wayOut_70 : decode cX0_wayOut 70 = .ok (.if_icmp .lt 7, 3) := by decide +kernel
theorem dX0_wayOut_73 : decode cX0_wayOut 73 = .ok (.iconst 1, 1) := by decide +kernel
theorem dX0_wayOut_74 : decode cX0_wayOut 74 = .ok (.goto 4, 3) := by decide +kernel
theorem dX0_wayOut_77 : decode cX0_wayOut 77 = .ok (.iconst 0, 1) := by decide +kernel
theorem dX0_wayOut_78 : decode cX0_wayOut 78 = .ok (.istore 4, 2) := by decide +kernel
theorem dX0_wayOut_80 : decode cX0_wayOut 80 = .ok (.aload_n 0, 1) := by decide +kernel
theorem dX0_wayOut_81 : decode cX0_wayOut 81 = .ok (.getfield 18, 3) := by decide +kernel
theorem dX0_wayOut_84 : decode cX0_wayOut 84 = .ok (.iload_n 1, 1) := by decide +kernel
theorem dX0_wayOut_85 : decode cX0_wayOut 85 = .ok (.iload 4, 2) := by decide +kernel
theorem dX0_wayOut_87 : decode cX0_wayOut 87 = .ok (.ifCond .eq 7, 3) := by decide +kernel
theorem dX0_wayOut_90 : decode cX0_wayOut 90 = .ok (.iconst 0, 1) := by decide +kernel
theorem dX0_wayOut_91 : decode cX0_wayOut 91 = .ok (.goto 4, 3) := by decide +kernel
theorem dX0_wayOut_94 : decode cX0_wayOut 94 = .ok (.iload_n 3, 1) := by decide +kernel
theorem dX0_wayOut_95 : decode cX0_wayOut 95 = .ok (.invokestatic 53, 3) := by decide +kernel
theorem dX0_wayOut_98 : decode cX0_wayOut 98 = .ok (.iload 4, 2) := by decide +kernel
theorem dX0_wayOut_100 : decode cX0_wayOut 100 = .ok (.ifCond .eq 7, 3) := by decide +kernel
theorem dX0_wayOut_103 : decode cX0_wayOut 103 = .ok (.iconst 1, 1) := by decide +kernel
theorem dX0_wayOut_104 : decode cX0_wayOut 104 = .ok (.goto 4, 3) := by decide +kernel
theorem dX0_wayOut_107 : decode cX0_wayOut 107 = .ok (.iconst (-1), 1) := by decide +kernel
theorem dX0_wayOut_108 : decode cX0_wayOut 108 = .ok (.ireturn, 1) := by decide +kernel
theorem dX0_wayOut_109 : decode cX0_wayOut 109 = .ok (.iconst 0, 1) := by decide +kernel
theorem dX0_wayOut_110 : decode cX0_wayOut 110 = .ok (.ireturn, 1) := by decide +kernel
theorem dX0_marblesInBins_0 : decode cX0_marblesInBins 0 = .ok (.iconst 0, 1) := by decide +kernel
theorem dX0_marblesInBins_1 : decode cX0_marblesInBins 1 = .ok (.istore_n 1, 1) := by decide +kernel
theorem dX0_marblesInBins_2 : decode cX0_marblesInBins 2 = .ok (.aload_n 0, 1) := by decide +kernel
theorem dX0_marblesInBins_3 : decode cX0_marblesInBins 3 = .ok (.getfield 21, 3) := by decide +kernel
theorem dX0_marblesInBins_6 : decode cX0_marblesInBins 6 = .ok (.astore_n 2, 1) := by decide +kernel
theorem dX0_marblesInBins_7 : decode cX0_marblesInBins 7 = .ok (.aload_n 2, 1) := by decide +kernel
theorem dX0_marblesInBins_8 : decode cX0_marblesInBins 8 = .ok (.arraylength, 1) := by decide +kernel
theorem dX0_marblesInBins_9 : decode cX0_marblesInBins 9 = .ok (.istore_n 3, 1) := by decide +kernel
theorem dX0_marblesInBins_10 : decode cX0_marblesInBins 10 = .ok (.iconst 0, 1) := by decide +kernel
theorem dX0_marblesInBins_11 : decode cX0_marblesInBins 11 = .ok (.istore 4, 2) := by decide +kernel
theorem dX0_marblesInBins_13 : decode cX0_marblesInBins 13 = .ok (.iload 4, 2) := by decide +kernel
theorem dX0_marblesInBins_15 : decode cX0_marblesInBins 15 = .ok (.iload_n 3, 1) := by decide +kernel
theorem dX0_marblesInBins_16 : decode cX0_marblesInBins 16 = .ok (.if_icmp .ge 20, 3) := by decide +kernel
theorem dX0_marblesInBins_19 : decode cX0_marblesInBins 19 = .ok (.aload_n 2, 1) := by decide +kernel
theorem dX0_marblesInBins_20 : decode cX0_marblesInBins 20 = .ok (.iload 4, 2) := by decide +kernel
theorem dX0_marblesInBins_22 : decode cX0_marblesInBins 22 = .ok (.iaload, 1) := by decide +kernel
theorem dX0_marblesInBins_23 : decode cX0_marblesInBins 23 = .ok (.istore 5, 2) := by decide +kernel
theorem dX0_marblesInBins_25 : decode cX0_marblesInBins 25 = .ok (.iload_n 1, 1) := by decide +kernel
theorem dX0_marblesInBins_26 : decode cX0_marblesInBins 26 = .ok (.iload 5, 2) := by decide +kernel
theorem dX0_marblesInBins_28 : decode cX0_marblesInBins 28 = .ok (.iadd, 1) := by decide +kernel
theorem dX0_marblesInBins_29 : decode cX0_marblesInBins 29 = .ok (.istore_n 1, 1) := by decide +kernel
theorem dX0_marblesInBins_30 : decode cX0_marblesInBins 30 = .ok (.iinc 4 1, 3) := by decide +kernel
theorem dX0_marblesInBins_33 : decode cX0_marblesInBins 33 = .ok (.goto (-20), 3) := by decide +kernel
theorem dX0_marblesInBins_36 : decode cX0_marblesInBins 36 = .ok (.iload_n 1, 1) := by decide +kernel
theorem dX0_marblesInBins_37 : decode cX0_marblesInBins 37 = .ok (.ireturn, 1) := by decide +kernel
set_option maxRecDepth 20000 in
theorem ggX0_clearBins_J7_fill_53178 : GoodIn wsX0_clearBins wsJ7_fill_53178 := goodIn_r _ [5] rfl (by decide +kernel)
set_option maxRecDepth 20000 in
theorem gX0_clearBins_J7_fill_53178 : GoodIn wsX0_clearBins (va_wsS RX0 44 yJ7_fill_53178 wsJ7_fill_53178) := goodIn_app (goodIn_of _ (by decide +kernel)) ggX0_clearBins_J7_fill_53178
theorem dX0_clearBins_0 : decode cX0_clearBins 0 = .ok (.aload_n 0, 1) := by decide +kernel
theorem dX0_clearBins_1 : decode cX0_clearBins 1 = .ok (.getfield 21, 3) := by decide +kernel
theorem dX0_clearBins_4 : decode cX0_clearBins 4 = .ok (.iconst 0, 1) := by decide +kernel
theorem dX0_clearBins_5 : decode cX0_clearBins 5 = .ok (.invokestatic 44, 3) := by decide +kernel
theorem dX0_clearBins_8 : decode cX0_clearBins 8 = .ok (.return_, 1) := by decide +kernel
set_option maxRecDepth 20000 in
theorem ggX0_fillHopper_X1_cell : GoodIn wsX0_fillHopper wsX1_cell := goodIn_r _ [5] rfl (by decide +kernel)
set_option maxRecDepth 20000 in
theorem gX0_fillHopper_X1_cell_n61 : GoodIn wsX0_fillHopper (wsX1_cell) := ggX0_fillHopper_X1_cell
set_option maxRecDepth 20000 in
theorem ggX0_fillHopper_X1_setCell : GoodIn wsX0_fillHopper wsX1_setCell := goodIn_r _ [7] rfl (by decide +kernel)
set_option maxRecDepth 20000 in
theorem gX0_fillHopper_X1_setCell_n53 : GoodIn wsX0_fillHopper (wsX1_setCell) := ggX0_fillHopper_X1_setCell
theorem dX0_fillHopper_0 : decode cX0_fillHopper 0 = .ok (.aload_n 0, 1) := by decide +kernel
theorem dX0_fillHopper_1 : decode cX0_fillHopper 1 = .ok (.getfield 27, 3) := by decide +kernel
theorem dX0_fillHopper_4 : decode cX0_fillHopper 4 = .ok (.iload_n 1, 1) := by decide +kernel
theorem dX0_fillHopper_5 : decode cX0_fillHopper 5 = .ok (.invokestatic 61, 3) := by decide +kernel
theorem dX0_fillHopper_8 : decode cX0_fillHopper 8 = .ok (.istore 4, 2) := by decide +kernel
theorem dX0_fillHopper_10 : decode cX0_fillHopper 10 = .ok (.aload_n 0, 1) := by decide +kernel
theorem dX0_fillHopper_11 : decode cX0_fillHopper 11 = .ok (.getfield 24, 3) := by decide +kernel
theorem dX0_fillHopper_14 : decode cX0_fillHopper 14 = .ok (.iload_n 1, 1) := by decide +kernel
theorem dX0_fillHopper_15 : decode cX0_fillHopper 15 = .ok (.iload_n 2, 1) := by decide +kernel
theorem dX0_fillHopper_16 : decode cX0_fillHopper 16 = .ok (.invokestatic 53, 3) := by decide +kernel
theorem dX0_fillHopper_19 : decode cX0_fillHopper 19 = .ok (.aload_n 0, 1) := by decide +kernel
theorem dX0_fillHopper_20 : decode cX0_fillHopper 20 = .ok (.getfield 27, 3) := by decide +kernel
theorem dX0_fillHopper_23 : decode cX0_fillHopper 23 = .ok (.iload_n 1, 1) := by decide +kernel
theorem dX0_fillHopper_24 : decode cX0_fillHopper 24 = .ok (.iload_n 3, 1) := by decide +kernel
theorem dX0_fillHopper_25 : decode cX0_fillHopper 25 = .ok (.invokestatic 53, 3) := by decide +kernel
theorem dX0_fillHopper_28 : decode cX0_fillHopper 28 = .ok (.iload 4, 2) := by decide +kernel
theorem dX0_fillHopper_30 : decode cX0_fillHopper 30 = .ok (.ireturn, 1) := by decide +kernel
set_option maxRecDepth 20000 in
theorem ggX0_runFrom_X1_cell : GoodIn wsX0_runFrom wsX1_cell := goodIn_r _ [5] rfl (by decide +kernel)
set_option maxRecDepth 20000 in
theorem gX0_runFrom_X1_cell_n61 : GoodIn wsX0_runFrom (wsX1_cell) := ggX0_runFrom_X1_cell
set_option maxRecDepth 20000 in
theorem ggX0_runFrom_X1_setCell : GoodIn wsX0_runFrom wsX1_setCell := goodIn_r _ [7] rfl (by decide +kernel)
set_option maxRecDepth 20000 in
theorem gX0_runFrom_X1_setCell_n53 : GoodIn wsX0_runFrom (wsX1_setCell) := ggX0_runFrom_X1_setCell
set_option maxRecDepth 20000 in
theorem ggX0_runFrom_X0_letFall : GoodIn wsX0_runFrom wsX0_letFall := goodIn_r _ [12, 13, 14, 15, 16, 17, 18, 11, 19, 20, 21, 22, 23, 24, 25, 26, 27, 28, 29, 30, 31, 3, 4, 5, 6, 7, 32, 33, 34, 35, 40, 41, 42, 43, 44, 45, 46, 47, 48] rfl (by decide +kernel)
set_option maxRecDepth 20000 in
theorem gX0_runFrom_X0_letFall : GoodIn wsX0_runFrom (wsV RX0 86 RX0 yX0_letFall wsX0_letFall) := goodIn_app (goodIn_of _ (by decide +kernel)) ggX0_runFrom_X0_letFall
set_option maxRecDepth 20000 in
theorem ggX0_runFrom_X0_hopperBehind : GoodIn wsX0_runFrom wsX0_hopperBehind := goodIn_r _ [39, 24, 40, 41, 42, 43, 44, 45, 46, 47, 48] rfl (by decide +kernel)
set_option maxRecDepth 20000 in
theorem gX0_runFrom_X0_hopperBehind : GoodIn wsX0_runFrom (wsV RX0 89 RX0 yX0_hopperBehind wsX0_hopperBehind) := goodIn_app (goodIn_of _ (by decide +kernel)) ggX0_runFrom_X0_hopperBehind
theorem dX0_runFrom_0 : decode cX0_runFrom 0 = .ok (.iconst 0, 1) := by decide +kernel
theorem dX0_runFrom_1 : decode cX0_runFrom 1 = .ok (.istore_n 3, 1) := by decide +kernel
theorem dX0_runFrom_2 : decode cX0_runFrom 2 = .ok (.iload_n 1, 1) := by decide +kernel
theorem dX0_runFrom_3 : decode cX0_runFrom 3 = .ok (.istore 4, 2) := by decide +kernel
theorem dX0_runFrom_5 : decode cX0_runFrom 5 = .ok (.iload_n 3, 1) := by decide +kernel
theorem dX0_runFrom_6 : decode cX0_runFrom 6 = .ok (.iload_n 2, 1) := by decide +kernel
theorem dX0_runFrom_7 : decode cX0_runFrom 7 = .ok (.if_icmp .ge 66, 3) := by decide +kernel
theorem dX0_runFrom_10 : decode cX0_runFrom 10 = .ok (.iload 4, 2) := by decide +kernel
theorem dX0_runFrom_12 : decode cX0_runFrom 12 = .ok (.iconst (-1), 1) := by decide +kernel
theorem dX0_runFrom_13 : decode cX0_runFrom 13 = .ok (.if_icmp .eq 60, 3) := by decide +kernel
theorem dX0_runFrom_16 : decode cX0_runFrom 16 = .ok (.aload_n 0, 1) := by decide +kernel
theorem dX0_runFrom_17 : decode cX0_runFrom 17 = .ok (.getfield 27, 3) := by decide +kernel
theorem dX0_runFrom_20 : decode cX0_runFrom 20 = .ok (.iload 4, 2) := by decide +kernel
theorem dX0_runFrom_22 : decode cX0_runFrom 22 = .ok (.invokestatic 61, 3) := by decide +kernel
theorem dX0_runFrom_25 : decode cX0_runFrom 25 = .ok (.ifCond .le 48, 3) := by decide +kernel
theorem dX0_runFrom_28 : decode cX0_runFrom 28 = .ok (.iinc 3 1, 3) := by decide +kernel
theorem dX0_runFrom_31 : decode cX0_runFrom 31 = .ok (.aload_n 0, 1) := by decide +kernel
theorem dX0_runFrom_32 : decode cX0_runFrom 32 = .ok (.getfield 27, 3) := by decide +kernel
theorem dX0_runFrom_35 : decode cX0_runFrom 35 = .ok (.iload 4, 2) := by decide +kernel
theorem dX0_runFrom_37 : decode cX0_runFrom 37 = .ok (.aload_n 0, 1) := by decide +kernel
theorem dX0_runFrom_38 : decode cX0_runFrom 38 = .ok (.getfield 27, 3) := by decide +kernel
theorem dX0_runFrom_41 : decode cX0_runFrom 41 = .ok (.iload 4, 2) := by decide +kernel
theorem dX0_runFrom_43 : decode cX0_runFrom 43 = .ok (.invokestatic 61, 3) := by decide +kernel
theorem dX0_runFrom_46 : decode cX0_runFrom 46 = .ok (.iconst 1, 1) := by decide +kernel
theorem dX0_runFrom_47 : decode cX0_runFrom 47 = .ok (.isub, 1) := by decide +kernel
theorem dX0_runFrom_48 : decode cX0_runFrom 48 = .ok (.invokestatic 53, 3) := by decide +kernel
theorem dX0_runFrom_51 : decode cX0_runFrom 51 = .ok (.aload_n 0, 1) := by decide +kernel
theorem dX0_runFrom_52 : decode cX0_runFrom 52 = .ok (.aload_n 0, 1) := by decide +kernel
theorem dX0_runFrom_53 : decode cX0_runFrom 53 = .ok (.aload_n 0, 1) := by decide +kernel
theorem dX0_runFrom_54 : decode cX0_runFrom 54 = .ok (.getfield 24, 3) := by decide +kernel
theorem dX0_runFrom_57 : decode cX0_runFrom 57 = .ok (.iload 4, 2) := by decide +kernel
theorem dX0_runFrom_59 : decode cX0_runFrom 59 = .ok (.invokestatic 61, 3) := by decide +kernel
theorem dX0_runFrom_62 : decode cX0_runFrom 62 = .ok (.invokevirtual 86, 3) := by decide +kernel
theorem dX0_runFrom_65 : decode cX0_runFrom 65 = .ok (.invokevirtual 89, 3) := by decide +kernel
theorem dX0_runFrom_68 : decode cX0_runFrom 68 = .ok (.istore 4, 2) := by decide +kernel
theorem dX0_runFrom_70 : decode cX0_runFrom 70 = .ok (.goto (-65), 3) := by decide +kernel
theorem dX0_runFrom_73 : decode cX0_runFrom 73 = .ok (.iload_n 3, 1) := by decide +kernel
theorem dX0_runFrom_74 : decode cX0_runFrom 74 = .ok (.ireturn, 1) := by decide +kernel
theorem dX0_hopperBehind_0 : decode cX0_hopperBehind 0 = .ok (.aload_n 0, 1) := by decide +kernel
theorem dX0_hopperBehind_1 : decode cX0_hopperBehind 1 = .ok (.getfield 34, 3) := by decide +kernel
theorem dX0_hopperBehind_4 : decode cX0_hopperBehind 4 = .ok (.iconst 1, 1) := by decide +kernel
theorem dX0_hopperBehind_5 : decode cX0_hopperBehind 5 = .ok (.isub, 1) := by decide +kernel
theorem dX0_hopperBehind_6 : decode cX0_hopperBehind 6 = .ok (.istore_n 2, 1) := by decide +kernel
theorem dX0_hopperBehind_7 : decode cX0_hopperBehind 7 = .ok (.iload_n 1, 1) := by decide +kernel
theorem dX0_hopperBehind_8 : decode cX0_hopperBehind 8 = .ok (.iconst (-1), 1) := by decide +kernel
theorem dX0_hopperBehind_9 : decode cX0_hopperBehind 9 = .ok (.if_icmp .eq 10, 3) := by decide +kernel
theorem dX0_hopperBehind_12 : decode cX0_hopperBehind 12 = .ok (.iconst 2, 1) := by decide +kernel
theorem dX0_hopperBehind_13 : decode cX0_hopperBehind 13 = .ok (.iload_n 1, 1) := by decide +kernel
theorem dX0_hopperBehind_14 : decode cX0_hopperBehind 14 = .ok (.imul, 1) := by decide +kernel
theorem dX0_hopperBehind_15 : decode cX0_hopperBehind 15 = .ok (.iload_n 2, 1) := by decide +kernel
theorem dX0_hopperBehind_16 : decode cX0_hopperBehind 16 = .ok (.if_icmp .ne 5, 3) := by decide +kernel
theorem dX0_hopperBehind_19 : decode cX0_hopperBehind 19 = .ok (.iconst (-1), 1) := by decide +kernel
theorem dX0_hopperBehind_20 : decode cX0_hopperBehind 20 = .ok (.ireturn, 1) := by decide +kernel
theorem dX0_hopperBehind_21 : decode cX0_hopperBehind 21 = .ok (.iconst 2, 1) := by decide +kernel
theorem dX0_hopperBehind_22 : decode cX0_hopperBehind 22 = .ok (.iload_n 1, 1) := by decide +kernel
theorem dX0_hopperBehind_23 : decode cX0_hopperBehind 23 = .ok (.imul, 1) := by decide +kernel
theorem dX0_hopperBehind_24 : decode cX0_hopperBehind 24 = .ok (.iload_n 2, 1) := by decide +kernel
theorem dX0_hopperBehind_25 : decode cX0_hopperBehind 25 = .ok (.if_icmp .ge 7, 3) := by decide +kernel
theorem dX0_hopperBehind_28 : decode cX0_hopperBehind 28 = .ok (.iconst 0, 1) := by decide +kernel
theorem dX0_hopperBehind_29 : decode cX0_hopperBehind 29 = .ok (.goto 4, 3) := by decide +kernel
theorem dX0_hopperBehind_32 : decode cX0_hopperBehind 32 = .ok (.iconst 1, 1) := by decide +kernel
theorem dX0_hopperBehind_33 : decode cX0_hopperBehind 33 = .ok (.ireturn, 1) := by decide +kernel
set_option maxRecDepth 20000 in
theorem ggX1_init_X0_init : GoodIn wsX1_init wsX0_init := goodIn_r _ [11, 12, 2, 3, 13, 14, 15, 16, 17, 18, 19, 20, 21, 22, 6, 23, 24, 25, 26, 27, 28, 29, 30, 31, 32, 33, 34, 35, 36, 37, 38, 39, 40, 41, 42, 43, 44, 45, 46] rfl (by decide +kernel)
set_option maxRecDepth 20000 in
theorem gX1_init_X0_init : GoodIn wsX1_init (wsX0_init) := ggX1_init_X0_init
theorem dX1_init_0 : decode cX1_init 0 = .ok (.aload_n 0, 1) := by decide +kernel
theorem dX1_init_1 : decode cX1_init 1 = .ok (.invokespecial 1, 3) := by decide +kernel
theorem dX1_init_4 : decode cX1_init 4 = .ok (.aload_n 0, 1) := by decide +kernel
theorem dX1_init_5 : decode cX1_init 5 = .ok (.new 7, 3) := by decide +kernel
theorem dX1_init_8 : decode cX1_init 8 = .ok (.dup, 1) := by decide +kernel
theorem dX1_init_9 : decode cX1_init 9 = .ok (.invokespecial 9, 3) := by decide +kernel
theorem dX1_init_12 : decode cX1_init 12 = .ok (.putfield 10, 3) := by decide +kernel
theorem dX1_init_15 : decode cX1_init 15 = .ok (.aload_n 0, 1) := by decide +kernel
theorem dX1_init_16 : decode cX1_init 16 = .ok (.new 7, 3) := by decide +kernel
theorem dX1_init_19 : decode cX1_init 19 = .ok (.dup, 1) := by decide +kernel
theorem dX1_init_20 : decode cX1_init 20 = .ok (.invokespecial 9, 3) := by decide +kernel
theorem dX1_init_23 : decode cX1_init 23 = .ok (.putfield 16, 3) := by decide +kernel
theorem dX1_init_26 : decode cX1_init 26 = .ok (.return_, 1) := by decide +kernel
set_option maxRecDepth 20000 in
theorem ggX1_lay_X1_needWithin : GoodIn wsX1_lay wsX1_needWithin := goodIn_ca (goodIn_r _ [5, 6, 7] rfl (by decide +kernel)) (goodIn_sub (fun _ h => List.mem_cons_of_mem _ (List.mem_append_right _ h)) (by decide +kernel))
set_option maxRecDepth 20000 in
theorem gX1_lay_X1_needWithin : GoodIn wsX1_lay (va_wsS RX1 19 yX1_needWithin wsX1_needWithin) := goodIn_app (goodIn_of _ (by decide +kernel)) ggX1_lay_X1_needWithin
set_option maxRecDepth 20000 in
theorem ggX1_lay_X0_layBoard : GoodIn wsX1_lay wsX0_layBoard := goodIn_r _ [12, 13, 14, 15, 16, 17, 18, 19, 20, 21, 22, 23, 24, 25, 26, 11, 27, 28, 29, 4, 30, 33, 34, 35, 36, 37, 38, 39, 40, 41] rfl (by decide +kernel)
set_option maxRecDepth 20000 in
theorem gX1_lay_X0_layBoard : GoodIn wsX1_lay (wsV RX1 23 RX0 yX0_layBoard wsX0_layBoard) := goodIn_app (goodIn_of _ (by decide +kernel)) ggX1_lay_X0_layBoard
theorem dX1_lay_0 : decode cX1_lay 0 = .ok (.iload_n 1, 1) := by decide +kernel
theorem dX1_lay_1 : decode cX1_lay 1 = .ok (.iconst 2, 1) := by decide +kernel
theorem dX1_lay_2 : decode cX1_lay 2 = .ok (.bipush 9, 2) := by decide +kernel
theorem dX1_lay_4 : decode cX1_lay 4 = .ok (.invokestatic 19, 3) := by decide +kernel
theorem dX1_lay_7 : decode cX1_lay 7 = .ok (.iload_n 2, 1) := by decide +kernel
theorem dX1_lay_8 : decode cX1_lay 8 = .ok (.iconst 1, 1) := by decide +kernel
theorem dX1_lay_9 : decode cX1_lay 9 = .ok (.bipush 8, 2) := by decide +kernel
theorem dX1_lay_11 : decode cX1_lay 11 = .ok (.invokestatic 19, 3) := by decide +kernel
theorem dX1_lay_14 : decode cX1_lay 14 = .ok (.aload_n 0, 1) := by decide +kernel
theorem dX1_lay_15 : decode cX1_lay 15 = .ok (.getfield 10, 3) := by decide +kernel
theorem dX1_lay_18 : decode cX1_lay 18 = .ok (.iload_n 1, 1) := by decide +kernel
theorem dX1_lay_19 : decode cX1_lay 19 = .ok (.iload_n 2, 1) := by decide +kernel
theorem dX1_lay_20 : decode cX1_lay 20 = .ok (.invokevirtual 23, 3) := by decide +kernel
theorem dX1_lay_23 : decode cX1_lay 23 = .ok (.iload_n 1, 1) := by decide +kernel
theorem dX1_lay_24 : decode cX1_lay 24 = .ok (.iload_n 2, 1) := by decide +kernel
theorem dX1_lay_25 : decode cX1_lay 25 = .ok (.imul, 1) := by decide +kernel
theorem dX1_lay_26 : decode cX1_lay 26 = .ok (.ireturn, 1) := by decide +kernel
set_option maxRecDepth 20000 in
theorem ggX1_put_X1_needPlace : GoodIn wsX1_put wsX1_needPlace := goodIn_ca (goodIn_r _ [6, 7, 8, 9, 5, 10, 11, 12, 1, 13, 14, 15, 16, 17, 18, 19, 20, 21, 22, 23, 24, 25, 26, 27, 52, 53, 54, 55, 56, 57, 58, 59, 60, 61, 62] rfl (by decide +kernel)) (goodIn_sub (fun _ h => List.mem_cons_of_mem _ (List.mem_append_left _ (List.mem_append_right _ h))) (by decide +kernel))
set_option maxRecDepth 20000 in
theorem gX1_put_X1_needPlace : GoodIn wsX1_put (wsV RX1 27 RX1 yX1_needPlace wsX1_needPlace) := goodIn_app (goodIn_of _ (by decide +kernel)) ggX1_put_X1_needPlace
set_option maxRecDepth 20000 in
theorem ggX1_put_X1_needWithin : GoodIn wsX1_put wsX1_needWithin := goodIn_ca (goodIn_r _ [30, 31, 32] rfl (by decide +kernel)) (goodIn_sub (fun _ h => List.mem_cons_of_mem _ (List.mem_append_right _ h)) (by decide +kernel))
set_option maxRecDepth 20000 in
theorem gX1_put_X1_needWithin : GoodIn wsX1_put (va_wsS RX1 19 yX1_needWithin wsX1_needWithin) := goodIn_app (goodIn_of _ (by decide +kernel)) ggX1_put_X1_needWithin
set_option maxRecDepth 20000 in
theorem ggX1_put_X0_replacePart : GoodIn wsX1_put wsX0_replacePart := goodIn_r _ [36, 37, 38, 39, 40, 41, 42, 16, 43, 27, 44, 45, 46, 47, 48, 5, 49, 50, 51, 54, 55, 56, 57, 58, 59, 60, 61, 62] rfl (by decide +kernel)
set_option maxRecDepth 20000 in
theorem gX1_put_X0_replacePart : GoodIn wsX1_put (wsV RX1 30 RX0 yX0_replacePart wsX0_replacePart) := goodIn_app (goodIn_of _ (by decide +kernel)) ggX1_put_X0_replacePart
theorem dX1_put_0 : decode cX1_put 0 = .ok (.aload_n 0, 1) := by decide +kernel
theorem dX1_put_1 : decode cX1_put 1 = .ok (.iload_n 1, 1) := by decide +kernel
theorem dX1_put_2 : decode cX1_put 2 = .ok (.iload_n 2, 1) := by decide +kernel
theorem dX1_put_3 : decode cX1_put 3 = .ok (.invokevirtual 27, 3) := by decide +kernel
theorem dX1_put_6 : decode cX1_put 6 = .ok (.iload_n 3, 1) := by decide +kernel
theorem dX1_put_7 : decode cX1_put 7 = .ok (.iconst 0, 1) := by decide +kernel
theorem dX1_put_8 : decode cX1_put 8 = .ok (.iconst 4, 1) := by decide +kernel
theorem dX1_put_9 : decode cX1_put 9 = .ok (.invokestatic 19, 3) := by decide +kernel
theorem dX1_put_12 : decode cX1_put 12 = .ok (.aload_n 0, 1) := by decide +kernel
theorem dX1_put_13 : decode cX1_put 13 = .ok (.getfield 10, 3) := by decide +kernel
theorem dX1_put_16 : decode cX1_put 16 = .ok (.iload_n 1, 1) := by decide +kernel
theorem dX1_put_17 : decode cX1_put 17 = .ok (.iload_n 2, 1) := by decide +kernel
theorem dX1_put_18 : decode cX1_put 18 = .ok (.iload_n 3, 1) := by decide +kernel
theorem dX1_put_19 : decode cX1_put 19 = .ok (.iload_n 3, 1) := by decide +kernel
theorem dX1_put_20 : decode cX1_put 20 = .ok (.iconst 3, 1) := by decide +kernel
theorem dX1_put_21 : decode cX1_put 21 = .ok (.if_icmp .ne 7, 3) := by decide +kernel
theorem dX1_put_24 : decode cX1_put 24 = .ok (.iconst 2, 1) := by decide +kernel
theorem dX1_put_25 : decode cX1_put 25 = .ok (.goto 4, 3) := by decide +kernel
theorem dX1_put_28 : decode cX1_put 28 = .ok (.iconst 0, 1) := by decide +kernel
theorem dX1_put_29 : decode cX1_put 29 = .ok (.invokevirtual 30, 3) := by decide +kernel
theorem dX1_put_32 : decode cX1_put 32 = .ok (.ireturn, 1) := by decide +kernel
set_option maxRecDepth 20000 in
theorem ggX1_putCounter_X1_needPlace : GoodIn wsX1_putCounter wsX1_needPlace := goodIn_ca (goodIn_r _ [6, 7, 8, 9, 5, 10, 11, 12, 1, 13, 14, 15, 16, 17, 18, 19, 20, 21, 22, 23, 24, 25, 26, 27, 52, 53, 54, 55, 56, 57, 58, 59, 60, 61, 62] rfl (by decide +kernel)) (goodIn_sub (fun _ h => List.mem_cons_of_mem _ (List.mem_append_left _ (List.mem_append_right _ h))) (by decide +kernel))
set_option maxRecDepth 20000 in
theorem gX1_putCounter_X1_needPlace : GoodIn wsX1_putCounter (wsV RX1 27 RX1 yX1_needPlace wsX1_needPlace) := goodIn_app (goodIn_of _ (by decide +kernel)) ggX1_putCounter_X1_needPlace
set_option maxRecDepth 20000 in
theorem ggX1_putCounter_X1_needWithin : GoodIn wsX1_putCounter wsX1_needWithin := goodIn_ca (goodIn_r _ [30, 31, 32] rfl (by decide +kernel)) (goodIn_sub (fun _ h => List.mem_cons_of_mem _ (List.mem_append_right _ h)) (by decide +kernel))
set_option maxRecDepth 20000 in
theorem gX1_putCounter_X1_needWithin : GoodIn wsX1_putCounter (va_wsS RX1 19 yX1_needWithin wsX1_needWithin) := goodIn_app (goodIn_of _ (by decide +kernel)) ggX1_putCounter_X1_needWithin
set_option maxRecDepth 20000 in
theorem ggX1_putCounter_X0_replacePart : GoodIn wsX1_putCounter wsX0_replacePart := goodIn_r _ [36, 37, 38, 39, 40, 41, 42, 16, 43, 27, 44, 45, 46, 47, 48, 5, 49, 50, 51, 54, 55, 56, 57, 58, 59, 60, 61, 62] rfl (by decide +kernel)
set_option maxRecDepth 20000 in
theorem gX1_putCounter_X0_replacePart : GoodIn wsX1_putCounter (wsV RX1 30 RX0 yX0_replacePart wsX0_replacePart) := goodIn_app (goodIn_of _ (by decide +kernel)) ggX1_putCounter_X0_replacePart
theorem dX1_putCounter_0 : decode cX1_putCounter 0 = .ok (.aload_n 0, 1) := by decide +kernel
theorem dX1_putCounter_1 : decode cX1_putCounter 1 = .ok (.iload_n 1, 1) := by decide +kernel
theorem dX1_putCounter_2 : decode cX1_putCounter 2 = .ok (.iload_n 2, 1) := by decide +kernel
theorem dX1_putCounter_3 : decode cX1_putCounter 3 = .ok (.invokevirtual 27, 3) := by decide +kernel
theorem dX1_putCounter_6 : decode cX1_putCounter 6 = .ok (.iload_n 3, 1) := by decide +kernel
theorem dX1_putCounter_7 : decode cX1_putCounter 7 = .ok (.iconst 2, 1) := by decide +kernel
theorem dX1_putCounter_8 : decode cX1_putCounter 8 = .ok (.bipush 9, 2) := by decide +kernel
theorem dX1_putCounter_10 : decode cX1_putCounter 10 = .ok (.invokestatic 19, 3) := by decide +kernel
theorem dX1_putCounter_13 : decode cX1_putCounter 13 = .ok (.aload_n 0, 1) := by decide +kernel
theorem dX1_putCounter_14 : decode cX1_putCounter 14 = .ok (.getfield 10, 3) := by decide +kernel
theorem dX1_putCounter_17 : decode cX1_putCounter 17 = .ok (.iload_n 1, 1) := by decide +kernel
theorem dX1_putCounter_18 : decode cX1_putCounter 18 = .ok (.iload_n 2, 1) := by decide +kernel
theorem dX1_putCounter_19 : decode cX1_putCounter 19 = .ok (.iconst 5, 1) := by decide +kernel
theorem dX1_putCounter_20 : decode cX1_putCounter 20 = .ok (.iload_n 3, 1) := by decide +kernel
theorem dX1_putCounter_21 : decode cX1_putCounter 21 = .ok (.invokevirtual 30, 3) := by decide +kernel
theorem dX1_putCounter_24 : decode cX1_putCounter 24 = .ok (.ireturn, 1) := by decide +kernel
set_option maxRecDepth 20000 in
theorem ggX1_turn_X1_needPlace : GoodIn wsX1_turn wsX1_needPlace := goodIn_ca (goodIn_r _ [8, 9, 10, 11, 7, 12, 13, 14, 3, 15, 16, 17, 18, 19, 20, 21, 22, 23, 24, 25, 26, 27, 28, 29, 54, 55, 56, 57, 58, 59, 60, 61, 62, 63, 64] rfl (by decide +kernel)) (goodIn_sub (fun _ h => List.mem_cons_of_mem _ (List.mem_append_right _ h)) (by decide +kernel))
set_option maxRecDepth 20000 in
theorem gX1_turn_X1_needPlace : GoodIn wsX1_turn (wsV RX1 27 RX1 yX1_needPlace wsX1_needPlace) := goodIn_app (goodIn_of _ (by decide +kernel)) ggX1_turn_X1_needPlace
set_option maxRecDepth 20000 in
theorem ggX1_turn_X0_placeOf : GoodIn wsX1_turn wsX0_placeOf := goodIn_r _ [33, 29, 56, 57, 58, 59, 60, 61, 62, 63, 64] rfl (by decide +kernel)
set_option maxRecDepth 20000 in
theorem gX1_turn_X0_placeOf : GoodIn wsX1_turn (wsV RX1 34 RX0 yX0_placeOf wsX0_placeOf) := goodIn_app (goodIn_of _ (by decide +kernel)) ggX1_turn_X0_placeOf
set_option maxRecDepth 20000 in
theorem ggX1_turn_X0_partIn : GoodIn wsX1_turn wsX0_partIn := goodIn_r _ [37, 38, 39, 7, 40, 56, 57, 58, 59, 60, 61, 62, 63, 64] rfl (by decide +kernel)
set_option maxRecDepth 20000 in
theorem gX1_turn_X0_partIn : GoodIn wsX1_turn (wsV RX1 38 RX0 yX0_partIn wsX0_partIn) := goodIn_app (goodIn_of _ (by decide +kernel)) ggX1_turn_X0_partIn
set_option maxRecDepth 20000 in
theorem ggX1_turn_X0_turnOver : GoodIn wsX1_turn wsX0_turnOver := goodIn_r _ [44, 45, 46, 47, 48, 18, 49, 50, 35, 36, 37, 38, 39, 7, 40, 51, 52, 56, 57, 58, 59, 60, 61, 62, 63, 64] rfl (by decide +kernel)
set_option maxRecDepth 20000 in
theorem gX1_turn_X0_turnOver : GoodIn wsX1_turn (wsV RX1 49 RX0 yX0_turnOver wsX0_turnOver) := goodIn_app (goodIn_of _ (by decide +kernel)) ggX1_turn_X0_turnOver
set_option maxRecDepth 20000 in
theorem ggX1_turn_X0_isRightToggle : GoodIn wsX1_turn wsX0_isRightToggle := goodIn_r _ [49, 45, 50, 35, 36, 18, 37, 38, 39, 7, 40, 56, 57, 58, 59, 60, 61, 62, 63, 64] rfl (by decide +kernel)
set_option maxRecDepth 20000 in
theorem gX1_turn_X0_isRightToggle : GoodIn wsX1_turn (wsV RX1 53 RX0 yX0_isRightToggle wsX0_isRightToggle) := goodIn_app (goodIn_of _ (by decide +kernel)) ggX1_turn_X0_isRightToggle
theorem dX1_turn_0 : decode cX1_turn 0 = .ok (.aload_n 0, 1) := by decide +kernel
theorem dX1_turn_1 : decode cX1_turn 1 = .ok (.iload_n 1, 1) := by decide +kernel
theorem dX1_turn_2 : decode cX1_turn 2 = .ok (.iload_n 2, 1) := by decide +kernel
theorem dX1_turn_3 : decode cX1_turn 3 = .ok (.invokevirtual 27, 3) := by decide +kernel
theorem dX1_turn_6 : decode cX1_turn 6 = .ok (.aload_n 0, 1) := by decide +kernel
theorem dX1_turn_7 : decode cX1_turn 7 = .ok (.getfield 10, 3) := by decide +kernel
theorem dX1_turn_10 : decode cX1_turn 10 = .ok (.iload_n 1, 1) := by decide +kernel
theorem dX1_turn_11 : decode cX1_turn 11 = .ok (.iload_n 2, 1) := by decide +kernel
theorem dX1_turn_12 : decode cX1_turn 12 = .ok (.invokevirtual 34, 3) := by decide +kernel
theorem dX1_turn_15 : decode cX1_turn 15 = .ok (.istore_n 3, 1) := by decide +kernel
theorem dX1_turn_16 : decode cX1_turn 16 = .ok (.aload_n 0, 1) := by decide +kernel
theorem dX1_turn_17 : decode cX1_turn 17 = .ok (.getfield 10, 3) := by decide +kernel
theorem dX1_turn_20 : decode cX1_turn 20 = .ok (.iload_n 3, 1) := by decide +kernel
theorem dX1_turn_21 : decode cX1_turn 21 = .ok (.invokevirtual 38, 3) := by decide +kernel
theorem dX1_turn_24 : decode cX1_turn 24 = .ok (.iconst 3, 1) := by decide +kernel
theorem dX1_turn_25 : decode cX1_turn 25 = .ok (.if_icmp .eq 13, 3) := by decide +kernel
theorem dX1_turn_28 : decode cX1_turn 28 = .ok (.new 42, 3) := by decide +kernel
theorem dX1_turn_31 : decode cX1_turn 31 = .ok (.dup, 1) := by decide +kernel
theorem dX1_turn_32 : decode cX1_turn 32 = .ok (.ldc 44, 2) := by decide +kernel
theorem dX1_turn_34 : decode cX1_turn 34 = .ok (.invokespecial 46, 3) := by decide +kernel
theorem dX1_turn_37 : decode cX1_turn 37 = .ok (.athrow, 1) := by decide +kernel
theorem dX1_turn_38 : decode cX1_turn 38 = .ok (.aload_n 0, 1) := by decide +kernel
theorem dX1_turn_39 : decode cX1_turn 39 = .ok (.getfield 10, 3) := by decide +kernel
theorem dX1_turn_42 : decode cX1_turn 42 = .ok (.iload_n 3, 1) := by decide +kernel
theorem dX1_turn_43 : decode cX1_turn 43 = .ok (.invokevirtual 49, 3) := by decide +kernel
theorem dX1_turn_46 : decode cX1_turn 46 = .ok (.aload_n 0, 1) := by decide +kernel
theorem dX1_turn_47 : decode cX1_turn 47 = .ok (.getfield 10, 3) := by decide +kernel
theorem dX1_turn_50 : decode cX1_turn 50 = .ok (.iload_n 3, 1) := by decide +kernel
theorem dX1_turn_51 : decode cX1_turn 51 = .ok (.invokevirtual 53, 3) := by decide +kernel
theorem dX1_turn_54 : decode cX1_turn 54 = .ok (.ireturn, 1) := by decide +kernel
set_option maxRecDepth 20000 in
theorem ggX1_setHopper_X1_needHopper : GoodIn wsX1_setHopper wsX1_needHopper := goodIn_ca (goodIn_r _ [5, 6, 7] rfl (by decide +kernel)) (goodIn_sub (fun _ h => List.mem_cons_of_mem _ (List.mem_append_left _ (List.mem_append_right _ h))) (by decide +kernel))
set_option maxRecDepth 20000 in
theorem gX1_setHopper_X1_needHopper : GoodIn wsX1_setHopper (va_wsS RX1 57 yX1_needHopper wsX1_needHopper) := goodIn_app (goodIn_of _ (by decide +kernel)) ggX1_setHopper_X1_needHopper
set_option maxRecDepth 20000 in
theorem ggX1_setHopper_X1_needColumn : GoodIn wsX1_setHopper wsX1_needColumn := goodIn_ca (goodIn_r _ [11, 6, 7, 1, 12, 13, 14, 15, 16, 17, 33, 34, 35, 36, 37, 38, 39, 40, 41, 42, 43] rfl (by decide +kernel)) (goodIn_sub (fun _ h => List.mem_cons_of_mem _ (List.mem_append_left _ (List.mem_append_right _ h))) (by decide +kernel))
set_option maxRecDepth 20000 in
theorem gX1_setHopper_X1_needColumn : GoodIn wsX1_setHopper (wsV RX1 60 RX1 yX1_needColumn wsX1_needColumn) := goodIn_app (goodIn_of _ (by decide +kernel)) ggX1_setHopper_X1_needColumn
set_option maxRecDepth 20000 in
theorem ggX1_setHopper_X1_needWithin : GoodIn wsX1_setHopper wsX1_needWithin := goodIn_ca (goodIn_r _ [20, 21, 22] rfl (by decide +kernel)) (goodIn_sub (fun _ h => List.mem_cons_of_mem _ (List.mem_append_right _ h)) (by decide +kernel))
set_option maxRecDepth 20000 in
theorem gX1_setHopper_X1_needWithin : GoodIn wsX1_setHopper (va_wsS RX1 19 yX1_needWithin wsX1_needWithin) := goodIn_app (goodIn_of _ (by decide +kernel)) ggX1_setHopper_X1_needWithin
set_option maxRecDepth 20000 in
theorem ggX1_setHopper_X0_fillHopper : GoodIn wsX1_setHopper wsX0_fillHopper := goodIn_r _ [26, 27, 28, 29, 4, 30, 31, 32, 35, 36, 37, 38, 39, 40, 41, 42, 43] rfl (by decide +kernel)
set_option maxRecDepth 20000 in
theorem gX1_setHopper_X0_fillHopper : GoodIn wsX1_setHopper (wsV RX1 63 RX0 yX0_fillHopper wsX0_fillHopper) := goodIn_app (goodIn_of _ (by decide +kernel)) ggX1_setHopper_X0_fillHopper
theorem dX1_setHopper_0 : decode cX1_setHopper 0 = .ok (.iload_n 1, 1) := by decide +kernel
theorem dX1_setHopper_1 : decode cX1_setHopper 1 = .ok (.invokestatic 57, 3) := by decide +kernel
theorem dX1_setHopper_4 : decode cX1_setHopper 4 = .ok (.aload_n 0, 1) := by decide +kernel
theorem dX1_setHopper_5 : decode cX1_setHopper 5 = .ok (.iload_n 2, 1) := by decide +kernel
theorem dX1_setHopper_6 : decode cX1_setHopper 6 = .ok (.invokevirtual 60, 3) := by decide +kernel
theorem dX1_setHopper_9 : decode cX1_setHopper 9 = .ok (.iload_n 3, 1) := by decide +kernel
theorem dX1_setHopper_10 : decode cX1_setHopper 10 = .ok (.iconst 0, 1) := by decide +kernel
theorem dX1_setHopper_11 : decode cX1_setHopper 11 = .ok (.bipush 99, 2) := by decide +kernel
theorem dX1_setHopper_13 : decode cX1_setHopper 13 = .ok (.invokestatic 19, 3) := by decide +kernel
theorem dX1_setHopper_16 : decode cX1_setHopper 16 = .ok (.aload_n 0, 1) := by decide +kernel
theorem dX1_setHopper_17 : decode cX1_setHopper 17 = .ok (.getfield 10, 3) := by decide +kernel
theorem dX1_setHopper_20 : decode cX1_setHopper 20 = .ok (.iload_n 1, 1) := by decide +kernel
theorem dX1_setHopper_21 : decode cX1_setHopper 21 = .ok (.iload_n 2, 1) := by decide +kernel
theorem dX1_setHopper_22 : decode cX1_setHopper 22 = .ok (.iload_n 3, 1) := by decide +kernel
theorem dX1_setHopper_23 : decode cX1_setHopper 23 = .ok (.invokevirtual 63, 3) := by decide +kernel
theorem dX1_setHopper_26 : decode cX1_setHopper 26 = .ok (.ireturn, 1) := by decide +kernel
set_option maxRecDepth 20000 in
theorem ggX1_drop_X1_needColumn : GoodIn wsX1_drop wsX1_needColumn := goodIn_ca (goodIn_r _ [6, 7, 8, 1, 9, 10, 11, 12, 13, 14, 42, 43, 44, 45, 46, 47, 48, 49, 50, 51, 52] rfl (by decide +kernel)) (goodIn_sub (fun _ h => List.mem_cons_of_mem _ (List.mem_append_right _ h)) (by decide +kernel))
set_option maxRecDepth 20000 in
theorem gX1_drop_X1_needColumn : GoodIn wsX1_drop (wsV RX1 60 RX1 yX1_needColumn wsX1_needColumn) := goodIn_app (goodIn_of _ (by decide +kernel)) ggX1_drop_X1_needColumn
set_option maxRecDepth 20000 in
theorem ggX1_drop_X0_letFall : GoodIn wsX1_drop wsX0_letFall := goodIn_r _ [18, 19, 20, 21, 22, 23, 24, 12, 25, 26, 27, 28, 29, 14, 30, 31, 32, 33, 34, 35, 36, 37, 5, 38, 39, 40, 41, 10, 11, 13, 44, 45, 46, 47, 48, 49, 50, 51, 52] rfl (by decide +kernel)
set_option maxRecDepth 20000 in
theorem gX1_drop_X0_letFall : GoodIn wsX1_drop (wsV RX1 67 RX0 yX0_letFall wsX0_letFall) := goodIn_app (goodIn_of _ (by decide +kernel)) ggX1_drop_X0_letFall
theorem dX1_drop_0 : decode cX1_drop 0 = .ok (.aload_n 0, 1) := by decide +kernel
theorem dX1_drop_1 : decode cX1_drop 1 = .ok (.iload_n 1, 1) := by decide +kernel
theorem dX1_drop_2 : decode cX1_drop 2 = .ok (.invokevirtual 60, 3) := by decide +kernel
theorem dX1_drop_5 : decode cX1_drop 5 = .ok (.aload_n 0, 1) := by decide +kernel
theorem dX1_drop_6 : decode cX1_drop 6 = .ok (.getfield 10, 3) := by decide +kernel
theorem dX1_drop_9 : decode cX1_drop 9 = .ok (.iload_n 1, 1) := by decide +kernel
theorem dX1_drop_10 : decode cX1_drop 10 = .ok (.invokevirtual 67, 3) := by decide +kernel
theorem dX1_drop_13 : decode cX1_drop 13 = .ok (.ireturn, 1) := by decide +kernel
set_option maxRecDepth 20000 in
theorem ggX1_run_X1_needHopper : GoodIn wsX1_run wsX1_needHopper := goodIn_ca (goodIn_r _ [5, 6, 7] rfl (by decide +kernel)) (goodIn_sub (fun _ h => List.mem_cons_of_mem _ (List.mem_append_left _ (List.mem_append_right _ h))) (by decide +kernel))
set_option maxRecDepth 20000 in
theorem gX1_run_X1_needHopper : GoodIn wsX1_run (va_wsS RX1 57 yX1_needHopper wsX1_needHopper) := goodIn_app (goodIn_of _ (by decide +kernel)) ggX1_run_X1_needHopper
set_option maxRecDepth 20000 in
theorem ggX1_run_X1_needWithin : GoodIn wsX1_run wsX1_needWithin := goodIn_ca (goodIn_r _ [10, 11, 12] rfl (by decide +kernel)) (goodIn_sub (fun _ h => List.mem_cons_of_mem _ (List.mem_append_right _ h)) (by decide +kernel))
set_option maxRecDepth 20000 in
theorem gX1_run_X1_needWithin : GoodIn wsX1_run (va_wsS RX1 19 yX1_needWithin wsX1_needWithin) := goodIn_app (goodIn_of _ (by decide +kernel)) ggX1_run_X1_needWithin
set_option maxRecDepth 20000 in
theorem ggX1_run_X0_runFrom : GoodIn wsX1_run wsX0_runFrom := goodIn_r _ [17, 18, 19, 20, 4, 21, 22, 23, 24, 25, 26, 16, 27, 28, 29, 30, 31, 32, 33, 34, 35, 36, 37, 38, 39, 40, 41, 42, 43, 44, 45, 46, 47, 48, 49, 50, 51, 52, 53, 54, 57, 58, 59, 60, 61, 62, 63, 64, 65] rfl (by decide +kernel)
set_option maxRecDepth 20000 in
theorem gX1_run_X0_runFrom : GoodIn wsX1_run (wsV RX1 70 RX0 yX0_runFrom wsX0_runFrom) := goodIn_app (goodIn_of _ (by decide +kernel)) ggX1_run_X0_runFrom
theorem dX1_run_0 : decode cX1_run 0 = .ok (.iload_n 1, 1) := by decide +kernel
theorem dX1_run_1 : decode cX1_run 1 = .ok (.invokestatic 57, 3) := by decide +kernel
theorem dX1_run_4 : decode cX1_run 4 = .ok (.iload_n 2, 1) := by decide +kernel
theorem dX1_run_5 : decode cX1_run 5 = .ok (.iconst 1, 1) := by decide +kernel
theorem dX1_run_6 : decode cX1_run 6 = .ok (.bipush 99, 2) := by decide +kernel
theorem dX1_run_8 : decode cX1_run 8 = .ok (.invokestatic 19, 3) := by decide +kernel
theorem dX1_run_11 : decode cX1_run 11 = .ok (.aload_n 0, 1) := by decide +kernel
theorem dX1_run_12 : decode cX1_run 12 = .ok (.getfield 10, 3) := by decide +kernel
theorem dX1_run_15 : decode cX1_run 15 = .ok (.iload_n 1, 1) := by decide +kernel
theorem dX1_run_16 : decode cX1_run 16 = .ok (.iload_n 2, 1) := by decide +kernel
theorem dX1_run_17 : decode cX1_run 17 = .ok (.invokevirtual 70, 3) := by decide +kernel
theorem dX1_run_20 : decode cX1_run 20 = .ok (.ireturn, 1) := by decide +kernel
set_option maxRecDepth 20000 in
theorem ggX1_emptyBins_X0_marblesInBins : GoodIn wsX1_emptyBins wsX0_marblesInBins := goodIn_r _ [6, 7, 18, 19, 20, 21, 22, 23, 24, 25, 26] rfl (by decide +kernel)
set_option maxRecDepth 20000 in
theorem gX1_emptyBins_X0_marblesInBins : GoodIn wsX1_emptyBins (wsV RX1 73 RX0 yX0_marblesInBins wsX0_marblesInBins) := goodIn_app (goodIn_of _ (by decide +kernel)) ggX1_emptyBins_X0_marblesInBins
set_option maxRecDepth 20000 in
theorem ggX1_emptyBins_X0_clearBins : GoodIn wsX1_emptyBins wsX0_clearBins := goodIn_r _ [11, 7, 12, 13, 14, 15, 18, 19, 20, 21, 22, 23, 24, 25, 26] rfl (by decide +kernel)
set_option maxRecDepth 20000 in
theorem gX1_emptyBins_X0_clearBins : GoodIn wsX1_emptyBins (wsV RX1 77 RX0 yX0_clearBins wsX0_clearBins) := goodIn_app (goodIn_of _ (by decide +kernel)) ggX1_emptyBins_X0_clearBins
theorem dX1_emptyBins_0 : decode cX1_emptyBins 0 = .ok (.aload_n 0, 1) := by decide +kernel
theorem dX1_emptyBins_1 : decode cX1_emptyBins 1 = .ok (.getfield 10, 3) := by decide +kernel
theorem dX1_emptyBins_4 : decode cX1_emptyBins 4 = .ok (.invokevirtual 73, 3) := by decide +kernel
theorem dX1_emptyBins_7 : decode cX1_emptyBins 7 = .ok (.istore_n 1, 1) := by decide +kernel
theorem dX1_emptyBins_8 : decode cX1_emptyBins 8 = .ok (.aload_n 0, 1) := by decide +kernel
theorem dX1_emptyBins_9 : decode cX1_emptyBins 9 = .ok (.getfield 10, 3) := by decide +kernel
theorem dX1_emptyBins_12 : decode cX1_emptyBins 12 = .ok (.invokevirtual 77, 3) := by decide +kernel
theorem dX1_emptyBins_15 : decode cX1_emptyBins 15 = .ok (.iload_n 1, 1) := by decide +kernel
theorem dX1_emptyBins_16 : decode cX1_emptyBins 16 = .ok (.ireturn, 1) := by decide +kernel
theorem dX1_columns_0 : decode cX1_columns 0 = .ok (.aload_n 0, 1) := by decide +kernel
theorem dX1_columns_1 : decode cX1_columns 1 = .ok (.getfield 10, 3) := by decide +kernel
theorem dX1_columns_4 : decode cX1_columns 4 = .ok (.getfield 80, 3) := by decide +kernel
theorem dX1_columns_7 : decode cX1_columns 7 = .ok (.ireturn, 1) := by decide +kernel
theorem dX1_rows_0 : decode cX1_rows 0 = .ok (.aload_n 0, 1) := by decide +kernel
theorem dX1_rows_1 : decode cX1_rows 1 = .ok (.getfield 10, 3) := by decide +kernel
theorem dX1_rows_4 : decode cX1_rows 4 = .ok (.getfield 84, 3) := by decide +kernel
theorem dX1_rows_7 : decode cX1_rows 7 = .ok (.ireturn, 1) := by decide +kernel
set_option maxRecDepth 20000 in
theorem ggX1_partAt_X1_needPlace : GoodIn wsX1_partAt wsX1_needPlace := goodIn_ca (goodIn_r _ [6, 7, 8, 9, 5, 10, 11, 12, 1, 13, 14, 15, 16, 17, 18, 19, 20, 21, 22, 23, 24, 25, 26, 27, 39, 40, 41, 42, 43, 44, 45, 46, 47, 48, 49] rfl (by decide +kernel)) (goodIn_sub (fun _ h => List.mem_cons_of_mem _ (List.mem_append_right _ h)) (by decide +kernel))
set_option maxRecDepth 20000 in
theorem gX1_partAt_X1_needPlace : GoodIn wsX1_partAt (wsV RX1 27 RX1 yX1_needPlace wsX1_needPlace) := goodIn_app (goodIn_of _ (by decide +kernel)) ggX1_partAt_X1_needPlace
set_option maxRecDepth 20000 in
theorem ggX1_partAt_X0_placeOf : GoodIn wsX1_partAt wsX0_placeOf := goodIn_r _ [31, 27, 41, 42, 43, 44, 45, 46, 47, 48, 49] rfl (by decide +kernel)
set_option maxRecDepth 20000 in
theorem gX1_partAt_X0_placeOf : GoodIn wsX1_partAt (wsV RX1 34 RX0 yX0_placeOf wsX0_placeOf) := goodIn_app (goodIn_of _ (by decide +kernel)) ggX1_partAt_X0_placeOf
set_option maxRecDepth 20000 in
theorem ggX1_partAt_X0_partIn : GoodIn wsX1_partAt wsX0_partIn := goodIn_r _ [35, 36, 37, 5, 38, 41, 42, 43, 44, 45, 46, 47, 48, 49] rfl (by decide +kernel)
set_option maxRecDepth 20000 in
theorem gX1_partAt_X0_partIn : GoodIn wsX1_partAt (wsV RX1 38 RX0 yX0_partIn wsX0_partIn) := goodIn_app (goodIn_of _ (by decide +kernel)) ggX1_partAt_X0_partIn
theorem dX1_partAt_0 : decode cX1_partAt 0 = .ok (.aload_n 0, 1) := by decide +kernel
theorem dX1_partAt_1 : decode cX1_partAt 1 = .ok (.iload_n 1, 1) := by decide +kernel
theorem dX1_partAt_2 : decode cX1_partAt 2 = .ok (.iload_n 2, 1) := by decide +kernel
theorem dX1_partAt_3 : decode cX1_partAt 3 = .ok (.invokevirtual 27, 3) := by decide +kernel
theorem dX1_partAt_6 : decode cX1_partAt 6 = .ok (.aload_n 0, 1) := by decide +kernel
theorem dX1_partAt_7 : decode cX1_partAt 7 = .ok (.getfield 10, 3) := by decide +kernel
theorem dX1_partAt_10 : decode cX1_partAt 10 = .ok (.aload_n 0, 1) := by decide +kernel
theorem dX1_partAt_11 : decode cX1_partAt 11 = .ok (.getfield 10, 3) := by decide +kernel
theorem dX1_partAt_14 : decode cX1_partAt 14 = .ok (.iload_n 1, 1) := by decide +kernel
theorem dX1_partAt_15 : decode cX1_partAt 15 = .ok (.iload_n 2, 1) := by decide +kernel
theorem dX1_partAt_16 : decode cX1_partAt 16 = .ok (.invokevirtual 34, 3) := by decide +kernel
theorem dX1_partAt_19 : decode cX1_partAt 19 = .ok (.invokevirtual 38, 3) := by decide +kernel
theorem dX1_partAt_22 : decode cX1_partAt 22 = .ok (.ireturn, 1) := by decide +kernel
set_option maxRecDepth 20000 in
theorem ggX1_leadsRight_X1_needPlace : GoodIn wsX1_leadsRight wsX1_needPlace := goodIn_ca (goodIn_r _ [6, 7, 8, 9, 5, 10, 11, 12, 1, 13, 14, 15, 16, 17, 18, 19, 20, 21, 22, 23, 24, 25, 26, 27, 44, 45, 46, 47, 48, 49, 50, 51, 52, 53, 54] rfl (by decide +kernel)) (goodIn_sub (fun _ h => List.mem_cons_of_mem _ (List.mem_append_right _ h)) (by decide +kernel))
set_option maxRecDepth 20000 in
theorem gX1_leadsRight_X1_needPlace : GoodIn wsX1_leadsRight (wsV RX1 27 RX1 yX1_needPlace wsX1_needPlace) := goodIn_app (goodIn_of _ (by decide +kernel)) ggX1_leadsRight_X1_needPlace
set_option maxRecDepth 20000 in
theorem ggX1_leadsRight_X0_placeOf : GoodIn wsX1_leadsRight wsX0_placeOf := goodIn_r _ [31, 27, 46, 47, 48, 49, 50, 51, 52, 53, 54] rfl (by decide +kernel)
set_option maxRecDepth 20000 in
theorem gX1_leadsRight_X0_placeOf : GoodIn wsX1_leadsRight (wsV RX1 34 RX0 yX0_placeOf wsX0_placeOf) := goodIn_app (goodIn_of _ (by decide +kernel)) ggX1_leadsRight_X0_placeOf
set_option maxRecDepth 20000 in
theorem ggX1_leadsRight_X0_isRightToggle : GoodIn wsX1_leadsRight wsX0_isRightToggle := goodIn_r _ [35, 36, 37, 38, 39, 16, 40, 41, 42, 5, 43, 46, 47, 48, 49, 50, 51, 52, 53, 54] rfl (by decide +kernel)
set_option maxRecDepth 20000 in
theorem gX1_leadsRight_X0_isRightToggle : GoodIn wsX1_leadsRight (wsV RX1 53 RX0 yX0_isRightToggle wsX0_isRightToggle) := goodIn_app (goodIn_of _ (by decide +kernel)) ggX1_leadsRight_X0_isRightToggle
theorem dX1_leadsRight_0 : decode cX1_leadsRight 0 = .ok (.aload_n 0, 1) := by decide +kernel
theorem dX1_leadsRight_1 : decode cX1_leadsRight 1 = .ok (.iload_n 1, 1) := by decide +kernel
theorem dX1_leadsRight_2 : decode cX1_leadsRight 2 = .ok (.iload_n 2, 1) := by decide +kernel
theorem dX1_leadsRight_3 : decode cX1_leadsRight 3 = .ok (.invokevirtual 27, 3) := by decide +kernel
theorem dX1_leadsRight_6 : decode cX1_leadsRight 6 = .ok (.aload_n 0, 1) := by decide +kernel
theorem dX1_leadsRight_7 : decode cX1_leadsRight 7 = .ok (.getfield 10, 3) := by decide +kernel
theorem dX1_leadsRight_10 : decode cX1_leadsRight 10 = .ok (.aload_n 0, 1) := by decide +kernel
theorem dX1_leadsRight_11 : decode cX1_leadsRight 11 = .ok (.getfield 10, 3) := by decide +kernel
theorem dX1_leadsRight_14 : decode cX1_leadsRight 14 = .ok (.iload_n 1, 1) := by decide +kernel
theorem dX1_leadsRight_15 : decode cX1_leadsRight 15 = .ok (.iload_n 2, 1) := by decide +kernel
theorem dX1_leadsRight_16 : decode cX1_leadsRight 16 = .ok (.invokevirtual 34, 3) := by decide +kernel
theorem dX1_leadsRight_19 : decode cX1_leadsRight 19 = .ok (.invokevirtual 53, 3) := by decide +kernel
theorem dX1_leadsRight_22 : decode cX1_leadsRight 22 = .ok (.ireturn, 1) := by decide +kernel
set_option maxRecDepth 20000 in
theorem ggX1_countAt_X1_needPlace : GoodIn wsX1_countAt wsX1_needPlace := goodIn_ca (goodIn_r _ [6, 7, 8, 9, 5, 10, 11, 12, 1, 13, 14, 15, 16, 17, 18, 19, 20, 21, 22, 23, 24, 25, 26, 27, 44, 45, 46, 47, 48, 49, 50, 51, 52, 53, 54] rfl (by decide +kernel)) (goodIn_sub (fun _ h => List.mem_cons_of_mem _ (List.mem_append_right _ h)) (by decide +kernel))
set_option maxRecDepth 20000 in
theorem gX1_countAt_X1_needPlace : GoodIn wsX1_countAt (wsV RX1 27 RX1 yX1_needPlace wsX1_needPlace) := goodIn_app (goodIn_of _ (by decide +kernel)) ggX1_countAt_X1_needPlace
set_option maxRecDepth 20000 in
theorem ggX1_countAt_X0_placeOf : GoodIn wsX1_countAt wsX0_placeOf := goodIn_r _ [31, 27, 46, 47, 48, 49, 50, 51, 52, 53, 54] rfl (by decide +kernel)
set_option maxRecDepth 20000 in
theorem gX1_countAt_X0_placeOf : GoodIn wsX1_countAt (wsV RX1 34 RX0 yX0_placeOf wsX0_placeOf) := goodIn_app (goodIn_of _ (by decide +kernel)) ggX1_countAt_X0_placeOf
set_option maxRecDepth 20000 in
theorem ggX1_countAt_X0_countedIn : GoodIn wsX1_countAt wsX0_countedIn := goodIn_r _ [35, 36, 37, 38, 39, 16, 40, 41, 42, 5, 43, 46, 47, 48, 49, 50, 51, 52, 53, 54] rfl (by decide +kernel)
set_option maxRecDepth 20000 in
theorem gX1_countAt_X0_countedIn : GoodIn wsX1_countAt (wsV RX1 87 RX0 yX0_countedIn wsX0_countedIn) := goodIn_app (goodIn_of _ (by decide +kernel)) ggX1_countAt_X0_countedIn
theorem dX1_countAt_0 : decode cX1_countAt 0 = .ok (.aload_n 0, 1) := by decide +kernel
theorem dX1_countAt_1 : decode cX1_countAt 1 = .ok (.iload_n 1, 1) := by decide +kernel
theorem dX1_countAt_2 : decode cX1_countAt 2 = .ok (.iload_n 2, 1) := by decide +kernel
theorem dX1_countAt_3 : decode cX1_countAt 3 = .ok (.invokevirtual 27, 3) := by decide +kernel
theorem dX1_countAt_6 : decode cX1_countAt 6 = .ok (.aload_n 0, 1) := by decide +kernel
theorem dX1_countAt_7 : decode cX1_countAt 7 = .ok (.getfield 10, 3) := by decide +kernel
theorem dX1_countAt_10 : decode cX1_countAt 10 = .ok (.aload_n 0, 1) := by decide +kernel
theorem dX1_countAt_11 : decode cX1_countAt 11 = .ok (.getfield 10, 3) := by decide +kernel
theorem dX1_countAt_14 : decode cX1_countAt 14 = .ok (.iload_n 1, 1) := by decide +kernel
theorem dX1_countAt_15 : decode cX1_countAt 15 = .ok (.iload_n 2, 1) := by decide +kernel
theorem dX1_countAt_16 : decode cX1_countAt 16 = .ok (.invokevirtual 34, 3) := by decide +kernel
theorem dX1_countAt_19 : decode cX1_countAt 19 = .ok (.invokevirtual 87, 3) := by decide +kernel
theorem dX1_countAt_22 : decode cX1_countAt 22 = .ok (.ireturn, 1) := by decide +kernel
set_option maxRecDepth 20000 in
theorem ggX1_binOf_X1_needColumn : GoodIn wsX1_binOf wsX1_needColumn := goodIn_ca (goodIn_r _ [7, 8, 9, 1, 10, 11, 12, 13, 14, 15, 19, 20, 21, 22, 23, 24, 25, 26, 27, 28, 29] rfl (by decide +kernel)) (goodIn_sub (fun _ h => List.mem_cons_of_mem _ (List.mem_append_right _ h)) (by decide +kernel))
set_option maxRecDepth 20000 in
theorem gX1_binOf_X1_needColumn : GoodIn wsX1_binOf (wsV RX1 60 RX1 yX1_needColumn wsX1_needColumn) := goodIn_app (goodIn_of _ (by decide +kernel)) ggX1_binOf_X1_needColumn
set_option maxRecDepth 20000 in
theorem ggX1_binOf_X1_cell : GoodIn wsX1_binOf wsX1_cell := goodIn_r _ [18] rfl (by decide +kernel)
set_option maxRecDepth 20000 in
theorem gX1_binOf_X1_cell : GoodIn wsX1_binOf (va_wsS RX1 94 yX1_cell wsX1_cell) := goodIn_app (goodIn_of _ (by decide +kernel)) ggX1_binOf_X1_cell
theorem dX1_binOf_0 : decode cX1_binOf 0 = .ok (.aload_n 0, 1) := by decide +kernel
theorem dX1_binOf_1 : decode cX1_binOf 1 = .ok (.iload_n 1, 1) := by decide +kernel
theorem dX1_binOf_2 : decode cX1_binOf 2 = .ok (.invokevirtual 60, 3) := by decide +kernel
theorem dX1_binOf_5 : decode cX1_binOf 5 = .ok (.aload_n 0, 1) := by decide +kernel
theorem dX1_binOf_6 : decode cX1_binOf 6 = .ok (.getfield 10, 3) := by decide +kernel
theorem dX1_binOf_9 : decode cX1_binOf 9 = .ok (.getfield 90, 3) := by decide +kernel
theorem dX1_binOf_12 : decode cX1_binOf 12 = .ok (.iload_n 1, 1) := by decide +kernel
theorem dX1_binOf_13 : decode cX1_binOf 13 = .ok (.invokestatic 94, 3) := by decide +kernel
theorem dX1_binOf_16 : decode cX1_binOf 16 = .ok (.ireturn, 1) := by decide +kernel
theorem dX1_lost_0 : decode cX1_lost 0 = .ok (.aload_n 0, 1) := by decide +kernel
theorem dX1_lost_1 : decode cX1_lost 1 = .ok (.getfield 10, 3) := by decide +kernel
theorem dX1_lost_4 : decode cX1_lost 4 = .ok (.getfield 98, 3) := by decide +kernel
theorem dX1_lost_7 : decode cX1_lost 7 = .ok (.ireturn, 1) := by decide +kernel
set_option maxRecDepth 20000 in
theorem ggX1_marblesIn_X1_needHopper : GoodIn wsX1_marblesIn wsX1_needHopper := goodIn_ca (goodIn_r _ [6, 7, 8] rfl (by decide +kernel)) (goodIn_sub (fun _ h => List.mem_cons_of_mem _ (List.mem_append_right _ h)) (by decide +kernel))
set_option maxRecDepth 20000 in
theorem gX1_marblesIn_X1_needHopper : GoodIn wsX1_marblesIn (va_wsS RX1 57 yX1_needHopper wsX1_needHopper) := goodIn_app (goodIn_of _ (by decide +kernel)) ggX1_marblesIn_X1_needHopper
set_option maxRecDepth 20000 in
theorem ggX1_marblesIn_X1_cell : GoodIn wsX1_marblesIn wsX1_cell := goodIn_r _ [11] rfl (by decide +kernel)
set_option maxRecDepth 20000 in
theorem gX1_marblesIn_X1_cell : GoodIn wsX1_marblesIn (va_wsS RX1 94 yX1_cell wsX1_cell) := goodIn_app (goodIn_of _ (by decide +kernel)) ggX1_marblesIn_X1_cell
theorem dX1_marblesIn_0 : decode cX1_marblesIn 0 = .ok (.iload_n 1, 1) := by decide +kernel
theorem dX1_marblesIn_1 : decode cX1_marblesIn 1 = .ok (.invokestatic 57, 3) := by decide +kernel
theorem dX1_marblesIn_4 : decode cX1_marblesIn 4 = .ok (.aload_n 0, 1) := by decide +kernel
theorem dX1_marblesIn_5 : decode cX1_marblesIn 5 = .ok (.getfield 10, 3) := by decide +kernel
theorem dX1_marblesIn_8 : decode cX1_marblesIn 8 = .ok (.getfield 101, 3) := by decide +kernel
theorem dX1_marblesIn_11 : decode cX1_marblesIn 11 = .ok (.iload_n 1, 1) := by decide +kernel
theorem dX1_marblesIn_12 : decode cX1_marblesIn 12 = .ok (.invokestatic 94, 3) := by decide +kernel
theorem dX1_marblesIn_15 : decode cX1_marblesIn 15 = .ok (.ireturn, 1) := by decide +kernel
set_option maxRecDepth 20000 in
theorem ggX1_columnOf_X1_needHopper : GoodIn wsX1_columnOf wsX1_needHopper := goodIn_ca (goodIn_r _ [6, 7, 8] rfl (by decide +kernel)) (goodIn_sub (fun _ h => List.mem_cons_of_mem _ (List.mem_append_right _ h)) (by decide +kernel))
set_option maxRecDepth 20000 in
theorem gX1_columnOf_X1_needHopper : GoodIn wsX1_columnOf (va_wsS RX1 57 yX1_needHopper wsX1_needHopper) := goodIn_app (goodIn_of _ (by decide +kernel)) ggX1_columnOf_X1_needHopper
set_option maxRecDepth 20000 in
theorem ggX1_columnOf_X1_cell : GoodIn wsX1_columnOf wsX1_cell := goodIn_r _ [11] rfl (by decide +kernel)
set_option maxRecDepth 20000 in
theorem gX1_columnOf_X1_cell : GoodIn wsX1_columnOf (va_wsS RX1 94 yX1_cell wsX1_cell) := goodIn_app (goodIn_of _ (by decide +kernel)) ggX1_columnOf_X1_cell
theorem dX1_columnOf_0 : decode cX1_columnOf 0 = .ok (.iload_n 1, 1) := by decide +kernel
theorem dX1_columnOf_1 : decode cX1_columnOf 1 = .ok (.invokestatic 57, 3) := by decide +kernel
theorem dX1_columnOf_4 : decode cX1_columnOf 4 = .ok (.aload_n 0, 1) := by decide +kernel
theorem dX1_columnOf_5 : decode cX1_columnOf 5 = .ok (.getfield 10, 3) := by decide +kernel
theorem dX1_columnOf_8 : decode cX1_columnOf 8 = .ok (.getfield 104, 3) := by decide +kernel
theorem dX1_columnOf_11 : decode cX1_columnOf 11 = .ok (.iload_n 1, 1) := by decide +kernel
theorem dX1_columnOf_12 : decode cX1_columnOf 12 = .ok (.invokestatic 94, 3) := by decide +kernel
theorem dX1_columnOf_15 : decode cX1_columnOf 15 = .ok (.ireturn, 1) := by decide +kernel
set_option maxRecDepth 20000 in
theorem ggX1_toggles_X0_countToggles : GoodIn wsX1_toggles wsX0_countToggles := goodIn_r _ [6, 7, 10, 11, 12, 13, 14, 15, 16, 17, 18] rfl (by decide +kernel)
set_option maxRecDepth 20000 in
theorem gX1_toggles_X0_countToggles : GoodIn wsX1_toggles (wsV RX1 107 RX0 yX0_countToggles wsX0_countToggles) := goodIn_app (goodIn_of _ (by decide +kernel)) ggX1_toggles_X0_countToggles
theorem dX1_toggles_0 : decode cX1_toggles 0 = .ok (.aload_n 0, 1) := by decide +kernel
theorem dX1_toggles_1 : decode cX1_toggles 1 = .ok (.getfield 10, 3) := by decide +kernel
theorem dX1_toggles_4 : decode cX1_toggles 4 = .ok (.invokevirtual 107, 3) := by decide +kernel
theorem dX1_toggles_7 : decode cX1_toggles 7 = .ok (.ireturn, 1) := by decide +kernel
set_option maxRecDepth 20000 in
theorem ggX1_numberIn_X1_needRow : GoodIn wsX1_numberIn wsX1_needRow := goodIn_ca (goodIn_r _ [6, 7, 8, 1, 9, 10, 11, 12, 13, 14, 36, 37, 38, 39, 40, 41, 42, 43, 44, 45, 46] rfl (by decide +kernel)) (goodIn_sub (fun _ h => List.mem_cons_of_mem _ (List.mem_append_right _ h)) (by decide +kernel))
set_option maxRecDepth 20000 in
theorem gX1_numberIn_X1_needRow : GoodIn wsX1_numberIn (wsV RX1 110 RX1 yX1_needRow wsX1_needRow) := goodIn_app (goodIn_of _ (by decide +kernel)) ggX1_numberIn_X1_needRow
set_option maxRecDepth 20000 in
theorem ggX1_numberIn_X0_numberToldBy : GoodIn wsX1_numberIn wsX0_numberToldBy := goodIn_r _ [18, 19, 20, 21, 22, 12, 23, 24, 25, 26, 27, 28, 29, 5, 30, 31, 32, 33, 34, 35, 38, 39, 40, 41, 42, 43, 44, 45, 46] rfl (by decide +kernel)
set_option maxRecDepth 20000 in
theorem gX1_numberIn_X0_numberToldBy : GoodIn wsX1_numberIn (wsV RX1 113 RX0 yX0_numberToldBy wsX0_numberToldBy) := goodIn_app (goodIn_of _ (by decide +kernel)) ggX1_numberIn_X0_numberToldBy
theorem dX1_numberIn_0 : decode cX1_numberIn 0 = .ok (.aload_n 0, 1) := by decide +kernel
theorem dX1_numberIn_1 : decode cX1_numberIn 1 = .ok (.iload_n 1, 1) := by decide +kernel
theorem dX1_numberIn_2 : decode cX1_numberIn 2 = .ok (.invokevirtual 110, 3) := by decide +kernel
theorem dX1_numberIn_5 : decode cX1_numberIn 5 = .ok (.aload_n 0, 1) := by decide +kernel
theorem dX1_numberIn_6 : decode cX1_numberIn 6 = .ok (.getfield 10, 3) := by decide +kernel
theorem dX1_numberIn_9 : decode cX1_numberIn 9 = .ok (.iload_n 1, 1) := by decide +kernel
theorem dX1_numberIn_10 : decode cX1_numberIn 10 = .ok (.invokevirtual 113, 3) := by decide +kernel
theorem dX1_numberIn_13 : decode cX1_numberIn 13 = .ok (.ireturn, 1) := by decide +kernel
set_option maxRecDepth 20000 in
theorem ggX1_wouldLand_X1_needColumn : GoodIn wsX1_wouldLand wsX1_needColumn := goodIn_ca (goodIn_r _ [7, 8, 9, 2, 10, 11, 12, 13, 14, 15, 52, 53, 54, 55, 56, 57, 58, 59, 60, 61, 62] rfl (by decide +kernel)) (goodIn_sub (fun _ h => List.mem_cons_of_mem _ (List.mem_append_right _ h)) (by decide +kernel))
set_option maxRecDepth 20000 in
theorem gX1_wouldLand_X1_needColumn : GoodIn wsX1_wouldLand (wsV RX1 60 RX1 yX1_needColumn wsX1_needColumn) := goodIn_app (goodIn_of _ (by decide +kernel)) ggX1_wouldLand_X1_needColumn
set_option maxRecDepth 20000 in
theorem ggX1_wouldLand_X0_becomeLike : GoodIn wsX1_wouldLand wsX0_becomeLike := goodIn_r _ [19, 15, 20, 21, 22, 23, 24, 25, 26, 27, 28, 6, 29, 30, 31, 32, 54, 55, 56, 57, 58, 59, 60, 61, 62] rfl (by decide +kernel)
set_option maxRecDepth 20000 in
theorem gX1_wouldLand_X0_becomeLike : GoodIn wsX1_wouldLand (wsV RX1 116 RX0 yX0_becomeLike wsX0_becomeLike) := goodIn_app (goodIn_of _ (by decide +kernel)) ggX1_wouldLand_X0_becomeLike
set_option maxRecDepth 20000 in
theorem ggX1_wouldLand_X0_letFall : GoodIn wsX1_wouldLand wsX0_letFall := goodIn_r _ [36, 20, 21, 25, 37, 38, 39, 13, 40, 41, 42, 43, 44, 15, 45, 46, 47, 48, 22, 24, 23, 49, 6, 50, 31, 32, 51, 11, 12, 14, 54, 55, 56, 57, 58, 59, 60, 61, 62] rfl (by decide +kernel)
set_option maxRecDepth 20000 in
theorem gX1_wouldLand_X0_letFall : GoodIn wsX1_wouldLand (wsV RX1 67 RX0 yX0_letFall wsX0_letFall) := goodIn_app (goodIn_of _ (by decide +kernel)) ggX1_wouldLand_X0_letFall
theorem dX1_wouldLand_0 : decode cX1_wouldLand 0 = .ok (.aload_n 0, 1) := by decide +kernel
theorem dX1_wouldLand_1 : decode cX1_wouldLand 1 = .ok (.iload_n 1, 1) := by decide +kernel
theorem dX1_wouldLand_2 : decode cX1_wouldLand 2 = .ok (.invokevirtual 60, 3) := by decide +kernel
theorem dX1_wouldLand_5 : decode cX1_wouldLand 5 = .ok (.aload_n 0, 1) := by decide +kernel
theorem dX1_wouldLand_6 : decode cX1_wouldLand 6 = .ok (.getfield 16, 3) := by decide +kernel
theorem dX1_wouldLand_9 : decode cX1_wouldLand 9 = .ok (.aload_n 0, 1) := by decide +kernel
theorem dX1_wouldLand_10 : decode cX1_wouldLand 10 = .ok (.getfield 10, 3) := by decide +kernel
theorem dX1_wouldLand_13 : decode cX1_wouldLand 13 = .ok (.invokevirtual 116, 3) := by decide +kernel
theorem dX1_wouldLand_16 : decode cX1_wouldLand 16 = .ok (.aload_n 0, 1) := by decide +kernel
theorem dX1_wouldLand_17 : decode cX1_wouldLand 17 = .ok (.getfield 16, 3) := by decide +kernel
theorem dX1_wouldLand_20 : decode cX1_wouldLand 20 = .ok (.iload_n 1, 1) := by decide +kernel
theorem dX1_wouldLand_21 : decode cX1_wouldLand 21 = .ok (.invokevirtual 67, 3) := by decide +kernel
theorem dX1_wouldLand_24 : decode cX1_wouldLand 24 = .ok (.ireturn, 1) := by decide +kernel
set_option maxRecDepth 20000 in
theorem ggX1_wouldBeIn_X1_needColumn : GoodIn wsX1_wouldBeIn wsX1_needColumn := goodIn_ca (goodIn_r _ [7, 8, 9, 2, 10, 11, 12, 13, 14, 15, 56, 57, 58, 59, 60, 61, 62, 63, 64, 65, 66] rfl (by decide +kernel)) (goodIn_sub (fun _ h => List.mem_cons_of_mem _ (List.mem_append_right _ h)) (by decide +kernel))
set_option maxRecDepth 20000 in
theorem gX1_wouldBeIn_X1_needColumn : GoodIn wsX1_wouldBeIn (wsV RX1 60 RX1 yX1_needColumn wsX1_needColumn) := goodIn_app (goodIn_of _ (by decide +kernel)) ggX1_wouldBeIn_X1_needColumn
set_option maxRecDepth 20000 in
theorem ggX1_wouldBeIn_X1_needRow : GoodIn wsX1_wouldBeIn wsX1_needRow := goodIn_ca (goodIn_r _ [19, 8, 9, 2, 20, 21, 22, 13, 23, 24, 56, 57, 58, 59, 60, 61, 62, 63, 64, 65, 66] rfl (by decide +kernel)) (goodIn_sub (fun _ h => List.mem_cons_of_mem _ (List.mem_append_right _ h)) (by decide +kernel))
set_option maxRecDepth 20000 in
theorem gX1_wouldBeIn_X1_needRow : GoodIn wsX1_wouldBeIn (wsV RX1 110 RX1 yX1_needRow wsX1_needRow) := goodIn_app (goodIn_of _ (by decide +kernel)) ggX1_wouldBeIn_X1_needRow
set_option maxRecDepth 20000 in
theorem ggX1_wouldBeIn_X0_becomeLike : GoodIn wsX1_wouldBeIn wsX0_becomeLike := goodIn_r _ [28, 15, 24, 29, 30, 31, 32, 33, 34, 35, 36, 6, 37, 38, 39, 40, 58, 59, 60, 61, 62, 63, 64, 65, 66] rfl (by decide +kernel)
set_option maxRecDepth 20000 in
theorem gX1_wouldBeIn_X0_becomeLike : GoodIn wsX1_wouldBeIn (wsV RX1 116 RX0 yX0_becomeLike wsX0_becomeLike) := goodIn_app (goodIn_of _ (by decide +kernel)) ggX1_wouldBeIn_X0_becomeLike
set_option maxRecDepth 20000 in
theorem ggX1_wouldBeIn_X0_fallTo : GoodIn wsX1_wouldBeIn wsX0_fallTo := goodIn_r _ [44, 45, 46, 47, 13, 48, 15, 49, 50, 51, 52, 30, 32, 31, 53, 6, 54, 39, 40, 55, 11, 12, 14, 58, 59, 60, 61, 62, 63, 64, 65, 66] rfl (by decide +kernel)
set_option maxRecDepth 20000 in
theorem gX1_wouldBeIn_X0_fallTo : GoodIn wsX1_wouldBeIn (wsV RX1 120 RX0 yX0_fallTo wsX0_fallTo) := goodIn_app (goodIn_of _ (by decide +kernel)) ggX1_wouldBeIn_X0_fallTo
theorem dX1_wouldBeIn_0 : decode cX1_wouldBeIn 0 = .ok (.aload_n 0, 1) := by decide +kernel
theorem dX1_wouldBeIn_1 : decode cX1_wouldBeIn 1 = .ok (.iload_n 1, 1) := by decide +kernel
theorem dX1_wouldBeIn_2 : decode cX1_wouldBeIn 2 = .ok (.invokevirtual 60, 3) := by decide +kernel
theorem dX1_wouldBeIn_5 : decode cX1_wouldBeIn 5 = .ok (.aload_n 0, 1) := by decide +kernel
theorem dX1_wouldBeIn_6 : decode cX1_wouldBeIn 6 = .ok (.iload_n 2, 1) := by decide +kernel
theorem dX1_wouldBeIn_7 : decode cX1_wouldBeIn 7 = .ok (.invokevirtual 110, 3) := by decide +kernel
theorem dX1_wouldBeIn_10 : decode cX1_wouldBeIn 10 = .ok (.aload_n 0, 1) := by decide +kernel
theorem dX1_wouldBeIn_11 : decode cX1_wouldBeIn 11 = .ok (.getfield 16, 3) := by decide +kernel
theorem dX1_wouldBeIn_14 : decode cX1_wouldBeIn 14 = .ok (.aload_n 0, 1) := by decide +kernel
theorem dX1_wouldBeIn_15 : decode cX1_wouldBeIn 15 = .ok (.getfield 10, 3) := by decide +kernel
theorem dX1_wouldBeIn_18 : decode cX1_wouldBeIn 18 = .ok (.invokevirtual 116, 3) := by decide +kernel
theorem dX1_wouldBeIn_21 : decode cX1_wouldBeIn 21 = .ok (.aload_n 0, 1) := by decide +kernel
theorem dX1_wouldBeIn_22 : decode cX1_wouldBeIn 22 = .ok (.getfield 16, 3) := by decide +kernel
theorem dX1_wouldBeIn_25 : decode cX1_wouldBeIn 25 = .ok (.iload_n 1, 1) := by decide +kernel
theorem dX1_wouldBeIn_26 : decode cX1_wouldBeIn 26 = .ok (.iload_n 2, 1) := by decide +kernel
theorem dX1_wouldBeIn_27 : decode cX1_wouldBeIn 27 = .ok (.invokevirtual 120, 3) := by decide +kernel
theorem dX1_wouldBeIn_30 : decode cX1_wouldBeIn 30 = .ok (.ireturn, 1) := by decide +kernel
set_option maxRecDepth 20000 in
theorem ggX1_wouldTurn_X1_needColumn : GoodIn wsX1_wouldTurn wsX1_needColumn := goodIn_ca (goodIn_r _ [7, 8, 9, 2, 10, 11, 12, 13, 14, 15, 64, 65, 66, 67, 68, 69, 70, 71, 72, 73, 74] rfl (by decide +kernel)) (goodIn_sub (fun _ h => List.mem_cons_of_mem _ (List.mem_append_right _ h)) (by decide +kernel))
set_option maxRecDepth 20000 in
theorem gX1_wouldTurn_X1_needColumn : GoodIn wsX1_wouldTurn (wsV RX1 60 RX1 yX1_needColumn wsX1_needColumn) := goodIn_app (goodIn_of _ (by decide +kernel)) ggX1_wouldTurn_X1_needColumn
set_option maxRecDepth 20000 in
theorem ggX1_wouldTurn_X0_becomeLike : GoodIn wsX1_wouldTurn wsX0_becomeLike := goodIn_r _ [19, 15, 20, 21, 22, 23, 24, 25, 26, 27, 28, 6, 29, 30, 31, 32, 66, 67, 68, 69, 70, 71, 72, 73, 74] rfl (by decide +kernel)
set_option maxRecDepth 20000 in
theorem gX1_wouldTurn_X0_becomeLike : GoodIn wsX1_wouldTurn (wsV RX1 116 RX0 yX0_becomeLike wsX0_becomeLike) := goodIn_app (goodIn_of _ (by decide +kernel)) ggX1_wouldTurn_X0_becomeLike
set_option maxRecDepth 20000 in
theorem ggX1_wouldTurn_X0_letFall : GoodIn wsX1_wouldTurn wsX0_letFall := goodIn_r _ [36, 20, 21, 25, 37, 38, 39, 13, 40, 41, 42, 43, 44, 15, 45, 46, 47, 48, 22, 24, 23, 49, 6, 50, 31, 32, 51, 11, 12, 14, 66, 67, 68, 69, 70, 71, 72, 73, 74] rfl (by decide +kernel)
set_option maxRecDepth 20000 in
theorem gX1_wouldTurn_X0_letFall : GoodIn wsX1_wouldTurn (wsV RX1 67 RX0 yX0_letFall wsX0_letFall) := goodIn_app (goodIn_of _ (by decide +kernel)) ggX1_wouldTurn_X0_letFall
set_option maxRecDepth 20000 in
theorem ggX1_wouldTurn_X0_togglesUnlike : GoodIn wsX1_wouldTurn wsX0_togglesUnlike := goodIn_r _ [55, 22, 56, 57, 58, 13, 59, 24, 60, 61, 62, 63, 49, 6, 50, 66, 67, 68, 69, 70, 71, 72, 73, 74] rfl (by decide +kernel)
set_option maxRecDepth 20000 in
theorem gX1_wouldTurn_X0_togglesUnlike : GoodIn wsX1_wouldTurn (wsV RX1 123 RX0 yX0_togglesUnlike wsX0_togglesUnlike) := goodIn_app (goodIn_of _ (by decide +kernel)) ggX1_wouldTurn_X0_togglesUnlike
theorem dX1_wouldTurn_0 : decode cX1_wouldTurn 0 = .ok (.aload_n 0, 1) := by decide +kernel
theorem dX1_wouldTurn_1 : decode cX1_wouldTurn 1 = .ok (.iload_n 1, 1) := by decide +kernel
theorem dX1_wouldTurn_2 : decode cX1_wouldTurn 2 = .ok (.invokevirtual 60, 3) := by decide +kernel
theorem dX1_wouldTurn_5 : decode cX1_wouldTurn 5 = .ok (.aload_n 0, 1) := by decide +kernel
theorem dX1_wouldTurn_6 : decode cX1_wouldTurn 6 = .ok (.getfield 16, 3) := by decide +kernel
theorem dX1_wouldTurn_9 : decode cX1_wouldTurn 9 = .ok (.aload_n 0, 1) := by decide +kernel
theorem dX1_wouldTurn_10 : decode cX1_wouldTurn 10 = .ok (.getfield 10, 3) := by decide +kernel
theorem dX1_wouldTurn_13 : decode cX1_wouldTurn 13 = .ok (.invokevirtual 116, 3) := by decide +kernel
theorem dX1_wouldTurn_16 : decode cX1_wouldTurn 16 = .ok (.aload_n 0, 1) := by decide +kernel
theorem dX1_wouldTurn_17 : decode cX1_wouldTurn 17 = .ok (.getfield 16, 3) := by decide +kernel
theorem dX1_wouldTurn_20 : decode cX1_wouldTurn 20 = .ok (.iload_n 1, 1) := by decide +kernel
theorem dX1_wouldTurn_21 : decode cX1_wouldTurn 21 = .ok (.invokevirtual 67, 3) := by decide +kernel
theorem dX1_wouldTurn_24 : decode cX1_wouldTurn 24 = .ok (.pop, 1) := by decide +kernel
theorem dX1_wouldTurn_25 : decode cX1_wouldTurn 25 = .ok (.aload_n 0, 1) := by decide +kernel
theorem dX1_wouldTurn_26 : decode cX1_wouldTurn 26 = .ok (.getfield 16, 3) := by decide +kernel
theorem dX1_wouldTurn_29 : decode cX1_wouldTurn 29 = .ok (.aload_n 0, 1) := by decide +kernel
theorem dX1_wouldTurn_30 : decode cX1_wouldTurn 30 = .ok (.getfield 10, 3) := by decide +kernel
theorem dX1_wouldTurn_33 : decode cX1_wouldTurn 33 = .ok (.invokevirtual 123, 3) := by decide +kernel
theorem dX1_wouldTurn_36 : decode cX1_wouldTurn 36 = .ok (.ireturn, 1) := by decide +kernel
set_option maxRecDepth 20000 in
theorem ggX1_lastLands_X1_needColumn : GoodIn wsX1_lastLands wsX1_needColumn := goodIn_ca (goodIn_r _ [7, 8, 9, 2, 10, 11, 12, 13, 14, 15, 57, 58, 59, 60, 61, 62, 63, 64, 65, 66, 67] rfl (by decide +kernel)) (goodIn_sub (fun _ h => List.mem_cons_of_mem _ (List.mem_append_left _ (List.mem_append_right _ h))) (by decide +kernel))
set_option maxRecDepth 20000 in
theorem gX1_lastLands_X1_needColumn : GoodIn wsX1_lastLands (wsV RX1 60 RX1 yX1_needColumn wsX1_needColumn) := goodIn_app (goodIn_of _ (by decide +kernel)) ggX1_lastLands_X1_needColumn
set_option maxRecDepth 20000 in
theorem ggX1_lastLands_X1_needWithin : GoodIn wsX1_lastLands wsX1_needWithin := goodIn_ca (goodIn_r _ [18, 19, 20] rfl (by decide +kernel)) (goodIn_sub (fun _ h => List.mem_cons_of_mem _ (List.mem_append_right _ h)) (by decide +kernel))
set_option maxRecDepth 20000 in
theorem gX1_lastLands_X1_needWithin : GoodIn wsX1_lastLands (va_wsS RX1 19 yX1_needWithin wsX1_needWithin) := goodIn_app (goodIn_of _ (by decide +kernel)) ggX1_lastLands_X1_needWithin
set_option maxRecDepth 20000 in
theorem ggX1_lastLands_X0_becomeLike : GoodIn wsX1_lastLands wsX0_becomeLike := goodIn_r _ [24, 15, 25, 26, 27, 28, 29, 30, 31, 32, 33, 6, 34, 35, 36, 37, 59, 60, 61, 62, 63, 64, 65, 66, 67] rfl (by decide +kernel)
set_option maxRecDepth 20000 in
theorem gX1_lastLands_X0_becomeLike : GoodIn wsX1_lastLands (wsV RX1 116 RX0 yX0_becomeLike wsX0_becomeLike) := goodIn_app (goodIn_of _ (by decide +kernel)) ggX1_lastLands_X0_becomeLike
set_option maxRecDepth 20000 in
theorem ggX1_lastLands_X0_letFall : GoodIn wsX1_lastLands wsX0_letFall := goodIn_r _ [41, 25, 26, 30, 42, 43, 44, 13, 45, 46, 47, 48, 49, 15, 50, 51, 52, 53, 27, 29, 28, 54, 6, 55, 36, 37, 56, 11, 12, 14, 59, 60, 61, 62, 63, 64, 65, 66, 67] rfl (by decide +kernel)
set_option maxRecDepth 20000 in
theorem gX1_lastLands_X0_letFall : GoodIn wsX1_lastLands (wsV RX1 67 RX0 yX0_letFall wsX0_letFall) := goodIn_app (goodIn_of _ (by decide +kernel)) ggX1_lastLands_X0_letFall
theorem dX1_lastLands_0 : decode cX1_lastLands 0 = .ok (.aload_n 0, 1) := by decide +kernel
theorem dX1_lastLands_1 : decode cX1_lastLands 1 = .ok (.iload_n 1, 1) := by decide +kernel
theorem dX1_lastLands_2 : decode cX1_lastLands 2 = .ok (.invokevirtual 60, 3) := by decide +kernel
theorem dX1_lastLands_5 : decode cX1_lastLands 5 = .ok (.iload_n 2, 1) := by decide +kernel
theorem dX1_lastLands_6 : decode cX1_lastLands 6 = .ok (.iconst 1, 1) := by decide +kernel
theorem dX1_lastLands_7 : decode cX1_lastLands 7 = .ok (.bipush 60, 2) := by decide +kernel
theorem dX1_lastLands_9 : decode cX1_lastLands 9 = .ok (.invokestatic 19, 3) := by decide +kernel
theorem dX1_lastLands_12 : decode cX1_lastLands 12 = .ok (.aload_n 0, 1) := by decide +kernel
theorem dX1_lastLands_13 : decode cX1_lastLands 13 = .ok (.getfield 16, 3) := by decide +kernel
theorem dX1_lastLands_16 : decode cX1_lastLands 16 = .ok (.aload_n 0, 1) := by decide +kernel
theorem dX1_lastLands_17 : decode cX1_lastLands 17 = .ok (.getfield 10, 3) := by decide +kernel
theorem dX1_lastLands_20 : decode cX1_lastLands 20 = .ok (.invokevirtual 116, 3) := by decide +kernel
theorem dX1_lastLands_23 : decode cX1_lastLands 23 = .ok (.iconst (-1), 1) := by decide +kernel
theorem dX1_lastLands_24 : decode cX1_lastLands 24 = .ok (.istore_n 3, 1) := by decide +kernel
theorem dX1_lastLands_25 : decode cX1_lastLands 25 = .ok (.iconst 0, 1) := by decide +kernel
theorem dX1_lastLands_26 : decode cX1_lastLands 26 = .ok (.istore 4, 2) := by decide +kernel
theorem dX1_lastLands_28 : decode cX1_lastLands 28 = .ok (.iload 4, 2) := by decide +kernel
theorem dX1_lastLands_30 : decode cX1_lastLands 30 = .ok (.iload_n 2, 1) := by decide +kernel
theorem dX1_lastLands_31 : decode cX1_lastLands 31 = .ok (.if_icmp .ge 18, 3) := by decide +kernel
theorem dX1_lastLands_34 : decode cX1_lastLands 34 = .ok (.aload_n 0, 1) := by decide +kernel
theorem dX1_lastLands_35 : decode cX1_lastLands 35 = .ok (.getfield 16, 3) := by decide +kernel
theorem dX1_lastLands_38 : decode cX1_lastLands 38 = .ok (.iload_n 1, 1) := by decide +kernel
theorem dX1_lastLands_39 : decode cX1_lastLands 39 = .ok (.invokevirtual 67, 3) := by decide +kernel
theorem dX1_lastLands_42 : decode cX1_lastLands 42 = .ok (.istore_n 3, 1) := by decide +kernel
theorem dX1_lastLands_43 : decode cX1_lastLands 43 = .ok (.iinc 4 1, 3) := by decide +kernel
theorem dX1_lastLands_46 : decode cX1_lastLands 46 = .ok (.goto (-18), 3) := by decide +kernel
theorem dX1_lastLands_49 : decode cX1_lastLands 49 = .ok (.iload_n 3, 1) := by decide +kernel
theorem dX1_lastLands_50 : decode cX1_lastLands 50 = .ok (.ireturn, 1) := by decide +kernel
set_option maxRecDepth 20000 in
theorem ggX1_asBeforeIn_X1_needColumn : GoodIn wsX1_asBeforeIn wsX1_needColumn := goodIn_ca (goodIn_r _ [7, 8, 9, 2, 10, 11, 12, 13, 14, 15, 56, 57, 58, 59, 60, 61, 62, 63, 64, 65, 66] rfl (by decide +kernel)) (goodIn_sub (fun _ h => List.mem_cons_of_mem _ (List.mem_append_right _ h)) (by decide +kernel))
set_option maxRecDepth 20000 in
theorem gX1_asBeforeIn_X1_needColumn : GoodIn wsX1_asBeforeIn (wsV RX1 60 RX1 yX1_needColumn wsX1_needColumn) := goodIn_app (goodIn_of _ (by decide +kernel)) ggX1_asBeforeIn_X1_needColumn
set_option maxRecDepth 20000 in
theorem ggX1_asBeforeIn_X0_becomeLike : GoodIn wsX1_asBeforeIn wsX0_becomeLike := goodIn_r _ [19, 15, 20, 21, 22, 23, 24, 25, 26, 27, 28, 6, 29, 30, 31, 32, 58, 59, 60, 61, 62, 63, 64, 65, 66] rfl (by decide +kernel)
set_option maxRecDepth 20000 in
theorem gX1_asBeforeIn_X0_becomeLike : GoodIn wsX1_asBeforeIn (wsV RX1 116 RX0 yX0_becomeLike wsX0_becomeLike) := goodIn_app (goodIn_of _ (by decide +kernel)) ggX1_asBeforeIn_X0_becomeLike
set_option maxRecDepth 20000 in
theorem ggX1_asBeforeIn_X0_letFall : GoodIn wsX1_asBeforeIn wsX0_letFall := goodIn_r _ [36, 20, 21, 25, 37, 38, 39, 13, 40, 41, 42, 43, 44, 15, 45, 46, 47, 48, 22, 24, 23, 49, 6, 50, 31, 32, 51, 11, 12, 14, 58, 59, 60, 61, 62, 63, 64, 65, 66] rfl (by decide +kernel)
set_option maxRecDepth 20000 in
theorem gX1_asBeforeIn_X0_letFall : GoodIn wsX1_asBeforeIn (wsV RX1 67 RX0 yX0_letFall wsX0_letFall) := goodIn_app (goodIn_of _ (by decide +kernel)) ggX1_asBeforeIn_X0_letFall
set_option maxRecDepth 20000 in
theorem ggX1_asBeforeIn_X0_hasStatesOf : GoodIn wsX1_asBeforeIn wsX0_hasStatesOf := goodIn_r _ [55, 24, 49, 6, 50, 58, 59, 60, 61, 62, 63, 64, 65, 66] rfl (by decide +kernel)
set_option maxRecDepth 20000 in
theorem gX1_asBeforeIn_X0_hasStatesOf : GoodIn wsX1_asBeforeIn (wsV RX1 127 RX0 yX0_hasStatesOf wsX0_hasStatesOf) := goodIn_app (goodIn_of _ (by decide +kernel)) ggX1_asBeforeIn_X0_hasStatesOf
theorem dX1_asBeforeIn_0 : decode cX1_asBeforeIn 0 = .ok (.aload_n 0, 1) := by decide +kernel
theorem dX1_asBeforeIn_1 : decode cX1_asBeforeIn 1 = .ok (.iload_n 1, 1) := by decide +kernel
theorem dX1_asBeforeIn_2 : decode cX1_asBeforeIn 2 = .ok (.invokevirtual 60, 3) := by decide +kernel
theorem dX1_asBeforeIn_5 : decode cX1_asBeforeIn 5 = .ok (.aload_n 0, 1) := by decide +kernel
theorem dX1_asBeforeIn_6 : decode cX1_asBeforeIn 6 = .ok (.getfield 16, 3) := by decide +kernel
theorem dX1_asBeforeIn_9 : decode cX1_asBeforeIn 9 = .ok (.aload_n 0, 1) := by decide +kernel
theorem dX1_asBeforeIn_10 : decode cX1_asBeforeIn 10 = .ok (.getfield 10, 3) := by decide +kernel
theorem dX1_asBeforeIn_13 : decode cX1_asBeforeIn 13 = .ok (.invokevirtual 116, 3) := by decide +kernel
theorem dX1_asBeforeIn_16 : decode cX1_asBeforeIn 16 = .ok (.iconst 1, 1) := by decide +kernel
theorem dX1_asBeforeIn_17 : decode cX1_asBeforeIn 17 = .ok (.istore_n 2, 1) := by decide +kernel
theorem dX1_asBeforeIn_18 : decode cX1_asBeforeIn 18 = .ok (.iload_n 2, 1) := by decide +kernel
theorem dX1_asBeforeIn_19 : decode cX1_asBeforeIn 19 = .ok (.bipush 60, 2) := by decide +kernel
theorem dX1_asBeforeIn_21 : decode cX1_asBeforeIn 21 = .ok (.if_icmp .gt 34, 3) := by decide +kernel
theorem dX1_asBeforeIn_24 : decode cX1_asBeforeIn 24 = .ok (.aload_n 0, 1) := by decide +kernel
theorem dX1_asBeforeIn_25 : decode cX1_asBeforeIn 25 = .ok (.getfield 16, 3) := by decide +kernel
theorem dX1_asBeforeIn_28 : decode cX1_asBeforeIn 28 = .ok (.iload_n 1, 1) := by decide +kernel
theorem dX1_asBeforeIn_29 : decode cX1_asBeforeIn 29 = .ok (.invokevirtual 67, 3) := by decide +kernel
theorem dX1_asBeforeIn_32 : decode cX1_asBeforeIn 32 = .ok (.pop, 1) := by decide +kernel
theorem dX1_asBeforeIn_33 : decode cX1_asBeforeIn 33 = .ok (.aload_n 0, 1) := by decide +kernel
theorem dX1_asBeforeIn_34 : decode cX1_asBeforeIn 34 = .ok (.getfield 16, 3) := by decide +kernel
theorem dX1_asBeforeIn_37 : decode cX1_asBeforeIn 37 = .ok (.aload_n 0, 1) := by decide +kernel
theorem dX1_asBeforeIn_38 : decode cX1_asBeforeIn 38 = .ok (.getfield 10, 3) := by decide +kernel
theorem dX1_asBeforeIn_41 : decode cX1_asBeforeIn 41 = .ok (.invokevirtual 127, 3) := by decide +kernel
theorem dX1_asBeforeIn_44 : decode cX1_asBeforeIn 44 = .ok (.ifCond .eq 5, 3) := by decide +kernel
theorem dX1_asBeforeIn_47 : decode cX1_asBeforeIn 47 = .ok (.iload_n 2, 1) := by decide +kernel
theorem dX1_asBeforeIn_48 : decode cX1_asBeforeIn 48 = .ok (.ireturn, 1) := by decide +kernel
theorem dX1_asBeforeIn_49 : decode cX1_asBeforeIn 49 = .ok (.iinc 2 1, 3) := by decide +kernel
theorem dX1_asBeforeIn_52 : decode cX1_asBeforeIn 52 = .ok (.goto (-34), 3) := by decide +kernel
theorem dX1_asBeforeIn_55 : decode cX1_asBeforeIn 55 = .ok (.iconst (-1), 1) := by decide +kernel
theorem dX1_asBeforeIn_56 : decode cX1_asBeforeIn 56 = .ok (.ireturn, 1) := by decide +kernel
set_option maxRecDepth 20000 in
theorem ggX1_wouldRun_X1_needHopper : GoodIn wsX1_wouldRun wsX1_needHopper := goodIn_ca (goodIn_r _ [6, 7, 8] rfl (by decide +kernel)) (goodIn_sub (fun _ h => List.mem_cons_of_mem _ (List.mem_append_right _ h)) (by decide +kernel))
set_option maxRecDepth 20000 in
theorem gX1_wouldRun_X1_needHopper : GoodIn wsX1_wouldRun (va_wsS RX1 57 yX1_needHopper wsX1_needHopper) := goodIn_app (goodIn_of _ (by decide +kernel)) ggX1_wouldRun_X1_needHopper
set_option maxRecDepth 20000 in
theorem ggX1_wouldRun_X0_becomeLike : GoodIn wsX1_wouldRun wsX0_becomeLike := goodIn_r _ [13, 14, 15, 16, 17, 18, 19, 20, 21, 22, 23, 5, 24, 25, 26, 27, 60, 61, 62, 63, 64, 65, 66, 67, 68] rfl (by decide +kernel)
set_option maxRecDepth 20000 in
theorem gX1_wouldRun_X0_becomeLike : GoodIn wsX1_wouldRun (wsV RX1 116 RX0 yX0_becomeLike wsX0_becomeLike) := goodIn_app (goodIn_of _ (by decide +kernel)) ggX1_wouldRun_X0_becomeLike
set_option maxRecDepth 20000 in
theorem ggX1_wouldRun_X0_runFrom : GoodIn wsX1_wouldRun wsX0_runFrom := goodIn_r _ [31, 22, 21, 32, 5, 33, 26, 27, 34, 35, 36, 12, 37, 15, 16, 20, 38, 39, 40, 41, 42, 43, 44, 45, 14, 46, 47, 48, 49, 17, 19, 18, 50, 51, 52, 53, 54, 55, 56, 57, 60, 61, 62, 63, 64, 65, 66, 67, 68] rfl (by decide +kernel)
set_option maxRecDepth 20000 in
theorem gX1_wouldRun_X0_runFrom : GoodIn wsX1_wouldRun (wsV RX1 70 RX0 yX0_runFrom wsX0_runFrom) := goodIn_app (goodIn_of _ (by decide +kernel)) ggX1_wouldRun_X0_runFrom
theorem dX1_wouldRun_0 : decode cX1_wouldRun 0 = .ok (.iload_n 1, 1) := by decide +kernel
theorem dX1_wouldRun_1 : decode cX1_wouldRun 1 = .ok (.invokestatic 57, 3) := by decide +kernel
theorem dX1_wouldRun_4 : decode cX1_wouldRun 4 = .ok (.aload_n 0, 1) := by decide +kernel
theorem dX1_wouldRun_5 : decode cX1_wouldRun 5 = .ok (.getfield 16, 3) := by decide +kernel
theorem dX1_wouldRun_8 : decode cX1_wouldRun 8 = .ok (.aload_n 0, 1) := by decide +kernel
theorem dX1_wouldRun_9 : decode cX1_wouldRun 9 = .ok (.getfield 10, 3) := by decide +kernel
theorem dX1_wouldRun_12 : decode cX1_wouldRun 12 = .ok (.invokevirtual 116, 3) := by decide +kernel
theorem dX1_wouldRun_15 : decode cX1_wouldRun 15 = .ok (.aload_n 0, 1) := by decide +kernel
theorem dX1_wouldRun_16 : decode cX1_wouldRun 16 = .ok (.getfield 16, 3) := by decide +kernel
theorem dX1_wouldRun_19 : decode cX1_wouldRun 19 = .ok (.iload_n 1, 1) := by decide +kernel
theorem dX1_wouldRun_20 : decode cX1_wouldRun 20 = .ok (.bipush 99, 2) := by decide +kernel
theorem dX1_wouldRun_22 : decode cX1_wouldRun 22 = .ok (.invokevirtual 70, 3) := by decide +kernel
theorem dX1_wouldRun_25 : decode cX1_wouldRun 25 = .ok (.ireturn, 1) := by decide +kernel
set_option maxRecDepth 20000 in
theorem ggX1_bestColumn_X1_columns : GoodIn wsX1_bestColumn wsX1_columns := goodIn_r _ [5, 6, 7, 73, 74, 75, 76, 77, 78, 79, 80, 81, 82, 83] rfl (by decide +kernel)
set_option maxRecDepth 20000 in
theorem gX1_bestColumn_X1_columns : GoodIn wsX1_bestColumn (wsV RX1 131 RX1 yX1_columns wsX1_columns) := goodIn_app (goodIn_of _ (by decide +kernel)) ggX1_bestColumn_X1_columns
set_option maxRecDepth 20000 in
theorem ggX1_bestColumn_X1_wouldTurn : GoodIn wsX1_bestColumn wsX1_wouldTurn := goodIn_ca (goodIn_r _ [11, 12, 6, 13, 14, 15, 4, 16, 17, 18, 19, 20, 21, 22, 23, 24, 25, 26, 27, 28, 29, 30, 31, 32, 33, 34, 35, 36, 37, 38, 39, 40, 41, 42, 43, 44, 45, 46, 47, 48, 49, 50, 51, 52, 53, 54, 55, 56, 57, 58, 59, 60, 61, 62, 63, 64, 65, 66, 67, 68, 69, 70, 71, 72, 73, 74, 75, 76, 77, 78, 79, 80, 81, 82, 83] rfl (by decide +kernel)) (goodIn_sub (fun _ h => List.mem_cons_of_mem _ (List.mem_append_right _ h)) (by decide +kernel))
set_option maxRecDepth 20000 in
theorem gX1_bestColumn_X1_wouldTurn : GoodIn wsX1_bestColumn (wsV RX1 134 RX1 yX1_wouldTurn wsX1_wouldTurn) := goodIn_app (goodIn_of _ (by decide +kernel)) ggX1_bestColumn_X1_wouldTurn
theorem dX1_bestColumn_0 : decode cX1_bestColumn 0 = .ok (.iconst 0, 1) := by decide +kernel
theorem dX1_bestColumn_1 : decode cX1_bestColumn 1 = .ok (.istore_n 1, 1) := by decide +kernel
theorem dX1_bestColumn_2 : decode cX1_bestColumn 2 = .ok (.iconst 0, 1) := by decide +kernel
theorem dX1_bestColumn_3 : decode cX1_bestColumn 3 = .ok (.istore_n 2, 1) := by decide +kernel
theorem dX1_bestColumn_4 : decode cX1_bestColumn 4 = .ok (.iconst 0, 1) := by decide +kernel
theorem dX1_bestColumn_5 : decode cX1_bestColumn 5 = .ok (.istore_n 3, 1) := by decide +kernel
theorem dX1_bestColumn_6 : decode cX1_bestColumn 6 = .ok (.iload_n 3, 1) := by decide +kernel
theorem dX1_bestColumn_7 : decode cX1_bestColumn 7 = .ok (.aload_n 0, 1) := by decide +kernel
theorem dX1_bestColumn_8 : decode cX1_bestColumn 8 = .ok (.invokevirtual 131, 3) := by decide +kernel
theorem dX1_bestColumn_11 : decode cX1_bestColumn 11 = .ok (.if_icmp .ge 27, 3) := by decide +kernel
theorem dX1_bestColumn_14 : decode cX1_bestColumn 14 = .ok (.aload_n 0, 1) := by decide +kernel
theorem dX1_bestColumn_15 : decode cX1_bestColumn 15 = .ok (.iload_n 3, 1) := by decide +kernel
theorem dX1_bestColumn_16 : decode cX1_bestColumn 16 = .ok (.invokevirtual 134, 3) := by decide +kernel
theorem dX1_bestColumn_19 : decode cX1_bestColumn 19 = .ok (.istore 4, 2) := by decide +kernel
theorem dX1_bestColumn_21 : decode cX1_bestColumn 21 = .ok (.iload 4, 2) := by decide +kernel
theorem dX1_bestColumn_23 : decode cX1_bestColumn 23 = .ok (.iload_n 2, 1) := by decide +kernel
theorem dX1_bestColumn_24 : decode cX1_bestColumn 24 = .ok (.if_icmp .le 8, 3) := by decide +kernel
theorem dX1_bestColumn_27 : decode cX1_bestColumn 27 = .ok (.iload_n 3, 1) := by decide +kernel
theorem dX1_bestColumn_28 : decode cX1_bestColumn 28 = .ok (.istore_n 1, 1) := by decide +kernel
theorem dX1_bestColumn_29 : decode cX1_bestColumn 29 = .ok (.iload 4, 2) := by decide +kernel
theorem dX1_bestColumn_31 : decode cX1_bestColumn 31 = .ok (.istore_n 2, 1) := by decide +kernel
theorem dX1_bestColumn_32 : decode cX1_bestColumn 32 = .ok (.iinc 3 1, 3) := by decide +kernel
theorem dX1_bestColumn_35 : decode cX1_bestColumn 35 = .ok (.goto (-29), 3) := by decide +kernel
theorem dX1_bestColumn_38 : decode cX1_bestColumn 38 = .ok (.iload_n 1, 1) := by decide +kernel
theorem dX1_bestColumn_39 : decode cX1_bestColumn 39 = .ok (.ireturn, 1) := by decide +kernel
set_option maxRecDepth 20000 in
theorem ggX1_meanInBins_X1_columns : GoodIn wsX1_meanInBins wsX1_columns := goodIn_r _ [6, 1, 7, 14, 15, 16, 17, 18, 19, 20, 21, 22, 23, 24] rfl (by decide +kernel)
set_option maxRecDepth 20000 in
theorem gX1_meanInBins_X1_columns : GoodIn wsX1_meanInBins (wsV RX1 131 RX1 yX1_columns wsX1_columns) := goodIn_app (goodIn_of _ (by decide +kernel)) ggX1_meanInBins_X1_columns
set_option maxRecDepth 20000 in
theorem ggX1_meanInBins_X0_marblesInBins : GoodIn wsX1_meanInBins wsX0_marblesInBins := goodIn_r _ [12, 13, 16, 17, 18, 19, 20, 21, 22, 23, 24] rfl (by decide +kernel)
set_option maxRecDepth 20000 in
theorem gX1_meanInBins_X0_marblesInBins : GoodIn wsX1_meanInBins (wsV RX1 73 RX0 yX0_marblesInBins wsX0_marblesInBins) := goodIn_app (goodIn_of _ (by decide +kernel)) ggX1_meanInBins_X0_marblesInBins
theorem dX1_meanInBins_0 : decode cX1_meanInBins 0 = .ok (.aload_n 0, 1) := by decide +kernel
theorem dX1_meanInBins_1 : decode cX1_meanInBins 1 = .ok (.invokevirtual 131, 3) := by decide +kernel
theorem dX1_meanInBins_4 : decode cX1_meanInBins 4 = .ok (.istore_n 1, 1) := by decide +kernel
theorem dX1_meanInBins_5 : decode cX1_meanInBins 5 = .ok (.iload_n 1, 1) := by decide +kernel
theorem dX1_meanInBins_6 : decode cX1_meanInBins 6 = .ok (.ifCond .ne 7, 3) := by decide +kernel
theorem dX1_meanInBins_9 : decode cX1_meanInBins 9 = .ok (.dconst 0, 1) := by decide +kernel
theorem dX1_meanInBins_10 : decode cX1_meanInBins 10 = .ok (.goto 14, 3) := by decide +kernel
theorem dX1_meanInBins_13 : decode cX1_meanInBins 13 = .ok (.aload_n 0, 1) := by decide +kernel
theorem dX1_meanInBins_14 : decode cX1_meanInBins 14 = .ok (.getfield 10, 3) := by decide +kernel
theorem dX1_meanInBins_17 : decode cX1_meanInBins 17 = .ok (.invokevirtual 73, 3) := by decide +kernel
theorem dX1_meanInBins_20 : decode cX1_meanInBins 20 = .ok (.i2d, 1) := by decide +kernel
theorem dX1_meanInBins_21 : decode cX1_meanInBins 21 = .ok (.iload_n 1, 1) := by decide +kernel
theorem dX1_meanInBins_22 : decode cX1_meanInBins 22 = .ok (.i2d, 1) := by decide +kernel
theorem dX1_meanInBins_23 : decode cX1_meanInBins 23 = .ok (.ddiv, 1) := by decide +kernel
theorem dX1_meanInBins_24 : decode cX1_meanInBins 24 = .ok (.dreturn, 1) := by decide +kernel
set_option maxRecDepth 20000 in
theorem ggX1_digest_X1_columns : GoodIn wsX1_digest wsX1_columns := goodIn_r _ [7, 8, 9, 180, 181, 182, 183, 184, 185, 186, 187, 188, 189, 190] rfl (by decide +kernel)
set_option maxRecDepth 20000 in
theorem gX1_digest_X1_columns : GoodIn wsX1_digest (wsV RX1 131 RX1 yX1_columns wsX1_columns) := goodIn_app (goodIn_of _ (by decide +kernel)) ggX1_digest_X1_columns
set_option maxRecDepth 20000 in
theorem ggX1_digest_X1_rows : GoodIn wsX1_digest wsX1_rows := goodIn_r _ [13, 8, 14, 180, 181, 182, 183, 184, 185, 186, 187, 188, 189, 190] rfl (by decide +kernel)
set_option maxRecDepth 20000 in
theorem gX1_digest_X1_rows : GoodIn wsX1_digest (wsV RX1 141 RX1 yX1_rows wsX1_rows) := goodIn_app (goodIn_of _ (by decide +kernel)) ggX1_digest_X1_rows
set_option maxRecDepth 20000 in
theorem ggX1_digest_X1_lost : GoodIn wsX1_digest wsX1_lost := goodIn_r _ [18, 8, 19, 180, 181, 182, 183, 184, 185, 186, 187, 188, 189, 190] rfl (by decide +kernel)
set_option maxRecDepth 20000 in
theorem gX1_digest_X1_lost : GoodIn wsX1_digest (wsV RX1 144 RX1 yX1_lost wsX1_lost) := goodIn_app (goodIn_of _ (by decide +kernel)) ggX1_digest_X1_lost
set_option maxRecDepth 20000 in
theorem ggX1_digest_X1_toggles : GoodIn wsX1_digest wsX1_toggles := goodIn_r _ [23, 8, 24, 25, 26, 27, 28, 29, 180, 181, 182, 183, 184, 185, 186, 187, 188, 189, 190] rfl (by decide +kernel)
set_option maxRecDepth 20000 in
theorem gX1_digest_X1_toggles : GoodIn wsX1_digest (wsV RX1 147 RX1 yX1_toggles wsX1_toggles) := goodIn_app (goodIn_of _ (by decide +kernel)) ggX1_digest_X1_toggles
set_option maxRecDepth 20000 in
theorem ggX1_digest_X1_bestColumn : GoodIn wsX1_digest wsX1_bestColumn := goodIn_ca (goodIn_r _ [33, 3, 4, 5, 6, 7, 8, 9, 34, 35, 36, 37, 38, 39, 40, 41, 42, 43, 44, 45, 46, 47, 27, 48, 49, 50, 51, 52, 53, 54, 55, 29, 56, 57, 58, 59, 60, 61, 62, 63, 64, 65, 66, 67, 68, 69, 70, 71, 72, 73, 74, 75, 76, 77, 78, 79, 80, 81, 82, 83, 84, 85, 86, 87, 88, 89, 90, 91, 92, 93, 94, 95, 96, 180, 181, 182, 183, 184, 185, 186, 187, 188, 189, 190] rfl (by decide +kernel)) (goodIn_sub (fun _ h => List.mem_cons_of_mem _ (List.mem_append_right _ h)) (by decide +kernel))
set_option maxRecDepth 20000 in
theorem gX1_digest_X1_bestColumn : GoodIn wsX1_digest (wsV RX1 150 RX1 yX1_bestColumn wsX1_bestColumn) := goodIn_app (goodIn_of _ (by decide +kernel)) ggX1_digest_X1_bestColumn
set_option maxRecDepth 20000 in
theorem ggX1_digest_X1_marblesIn : GoodIn wsX1_digest wsX1_marblesIn := goodIn_ca (goodIn_r _ [100, 8, 101, 102, 103, 6, 104, 43, 44, 105, 82, 83, 180, 181, 182, 183, 184, 185, 186, 187, 188, 189, 190] rfl (by decide +kernel)) (goodIn_sub (fun _ h => List.mem_cons_of_mem _ (List.mem_append_right _ h)) (by decide +kernel))
set_option maxRecDepth 20000 in
theorem gX1_digest_X1_marblesIn : GoodIn wsX1_digest (wsV RX1 153 RX1 yX1_marblesIn wsX1_marblesIn) := goodIn_app (goodIn_of _ (by decide +kernel)) ggX1_digest_X1_marblesIn
set_option maxRecDepth 20000 in
theorem ggX1_digest_X1_columnOf : GoodIn wsX1_digest wsX1_columnOf := goodIn_ca (goodIn_r _ [109, 8, 110, 102, 103, 6, 104, 43, 44, 105, 82, 83, 180, 181, 182, 183, 184, 185, 186, 187, 188, 189, 190] rfl (by decide +kernel)) (goodIn_sub (fun _ h => List.mem_cons_of_mem _ (List.mem_append_right _ h)) (by decide +kernel))
set_option maxRecDepth 20000 in
theorem gX1_digest_X1_columnOf : GoodIn wsX1_digest (wsV RX1 156 RX1 yX1_columnOf wsX1_columnOf) := goodIn_app (goodIn_of _ (by decide +kernel)) ggX1_digest_X1_columnOf
set_option maxRecDepth 20000 in
theorem ggX1_digest_X1_wouldRun : GoodIn wsX1_digest wsX1_wouldRun := goodIn_ca (goodIn_r _ [114, 38, 8, 102, 103, 6, 104, 43, 44, 50, 51, 52, 27, 53, 49, 54, 55, 29, 56, 57, 58, 59, 60, 61, 62, 63, 64, 65, 115, 116, 117, 118, 82, 83, 119, 67, 68, 69, 70, 71, 72, 73, 74, 75, 76, 77, 78, 79, 80, 81, 84, 46, 47, 48, 120, 121, 122, 123, 180, 181, 182, 183, 184, 185, 186, 187, 188, 189, 190] rfl (by decide +kernel)) (goodIn_sub (fun _ h => List.mem_cons_of_mem _ (List.mem_append_right _ h)) (by decide +kernel))
set_option maxRecDepth 20000 in
theorem gX1_digest_X1_wouldRun : GoodIn wsX1_digest (wsV RX1 159 RX1 yX1_wouldRun wsX1_wouldRun) := goodIn_app (goodIn_of _ (by decide +kernel)) ggX1_digest_X1_wouldRun
set_option maxRecDepth 20000 in
theorem ggX1_digest_X1_numberIn : GoodIn wsX1_digest wsX1_numberIn := goodIn_ca (goodIn_r _ [127, 8, 128, 129, 130, 6, 131, 43, 44, 132, 133, 134, 27, 135, 54, 136, 137, 138, 139, 49, 74, 75, 76, 77, 93, 94, 95, 96, 29, 82, 83, 89, 90, 91, 92, 57, 180, 181, 182, 183, 184, 185, 186, 187, 188, 189, 190] rfl (by decide +kernel)) (goodIn_sub (fun _ h => List.mem_cons_of_mem _ (List.mem_append_right _ h)) (by decide +kernel))
set_option maxRecDepth 20000 in
theorem gX1_digest_X1_numberIn : GoodIn wsX1_digest (wsV RX1 162 RX1 yX1_numberIn wsX1_numberIn) := goodIn_app (goodIn_of _ (by decide +kernel)) ggX1_digest_X1_numberIn
set_option maxRecDepth 20000 in
theorem ggX1_digest_X1_partAt : GoodIn wsX1_digest wsX1_partAt := goodIn_ca (goodIn_r _ [143, 8, 144, 145, 146, 6, 147, 128, 129, 130, 131, 43, 44, 132, 133, 134, 27, 135, 54, 39, 40, 41, 42, 45, 46, 47, 48, 49, 148, 75, 76, 77, 149, 94, 95, 96, 29, 82, 83, 180, 181, 182, 183, 184, 185, 186, 187, 188, 189, 190] rfl (by decide +kernel)) (goodIn_sub (fun _ h => List.mem_cons_of_mem _ (List.mem_append_right _ h)) (by decide +kernel))
set_option maxRecDepth 20000 in
theorem gX1_digest_X1_partAt : GoodIn wsX1_digest (wsV RX1 165 RX1 yX1_partAt wsX1_partAt) := goodIn_app (goodIn_of _ (by decide +kernel)) ggX1_digest_X1_partAt
set_option maxRecDepth 20000 in
theorem ggX1_digest_X1_leadsRight : GoodIn wsX1_digest wsX1_leadsRight := goodIn_ca (goodIn_r _ [153, 8, 144, 145, 146, 6, 147, 128, 129, 130, 131, 43, 44, 132, 133, 134, 27, 135, 54, 39, 40, 41, 42, 45, 46, 47, 48, 49, 148, 75, 76, 77, 154, 90, 91, 92, 57, 93, 94, 95, 96, 29, 82, 83, 180, 181, 182, 183, 184, 185, 186, 187, 188, 189, 190] rfl (by decide +kernel)) (goodIn_sub (fun _ h => List.mem_cons_of_mem _ (List.mem_append_right _ h)) (by decide +kernel))
set_option maxRecDepth 20000 in
theorem gX1_digest_X1_leadsRight : GoodIn wsX1_digest (wsV RX1 168 RX1 yX1_leadsRight wsX1_leadsRight) := goodIn_app (goodIn_of _ (by decide +kernel)) ggX1_digest_X1_leadsRight
set_option maxRecDepth 20000 in
theorem ggX1_digest_X1_countAt : GoodIn wsX1_digest wsX1_countAt := goodIn_ca (goodIn_r _ [158, 8, 144, 145, 146, 6, 147, 128, 129, 130, 131, 43, 44, 132, 133, 134, 27, 135, 54, 39, 40, 41, 42, 45, 46, 47, 48, 49, 148, 75, 76, 77, 159, 160, 161, 162, 57, 93, 94, 95, 96, 29, 82, 83, 180, 181, 182, 183, 184, 185, 186, 187, 188, 189, 190] rfl (by decide +kernel)) (goodIn_sub (fun _ h => List.mem_cons_of_mem _ (List.mem_append_right _ h)) (by decide +kernel))
set_option maxRecDepth 20000 in
theorem gX1_digest_X1_countAt : GoodIn wsX1_digest (wsV RX1 172 RX1 yX1_countAt wsX1_countAt) := goodIn_app (goodIn_of _ (by decide +kernel)) ggX1_digest_X1_countAt
set_option maxRecDepth 20000 in
theorem ggX1_digest_X1_binOf : GoodIn wsX1_digest wsX1_binOf := goodIn_ca (goodIn_r _ [166, 8, 167, 39, 40, 41, 6, 42, 43, 44, 45, 46, 47, 27, 48, 49, 105, 82, 83, 180, 181, 182, 183, 184, 185, 186, 187, 188, 189, 190] rfl (by decide +kernel)) (goodIn_sub (fun _ h => List.mem_cons_of_mem _ (List.mem_append_right _ h)) (by decide +kernel))
set_option maxRecDepth 20000 in
theorem gX1_digest_X1_binOf : GoodIn wsX1_digest (wsV RX1 175 RX1 yX1_binOf wsX1_binOf) := goodIn_app (goodIn_of _ (by decide +kernel)) ggX1_digest_X1_binOf
set_option maxRecDepth 20000 in
theorem ggX1_digest_X1_wouldLand : GoodIn wsX1_digest wsX1_wouldLand := goodIn_ca (goodIn_r _ [171, 38, 8, 39, 40, 41, 6, 42, 43, 44, 45, 46, 47, 27, 48, 49, 50, 51, 52, 53, 54, 55, 29, 56, 57, 58, 59, 60, 61, 62, 63, 64, 65, 66, 67, 68, 69, 70, 71, 72, 73, 74, 75, 76, 77, 78, 79, 80, 81, 82, 83, 84, 180, 181, 182, 183, 184, 185, 186, 187, 188, 189, 190] rfl (by decide +kernel)) (goodIn_sub (fun _ h => List.mem_cons_of_mem _ (List.mem_append_right _ h)) (by decide +kernel))
set_option maxRecDepth 20000 in
theorem gX1_digest_X1_wouldLand : GoodIn wsX1_digest (wsV RX1 178 RX1 yX1_wouldLand wsX1_wouldLand) := goodIn_app (goodIn_of _ (by decide +kernel)) ggX1_digest_X1_wouldLand
set_option maxRecDepth 20000 in
theorem ggX1_digest_X1_wouldTurn : GoodIn wsX1_digest wsX1_wouldTurn := goodIn_ca (goodIn_r _ [37, 38, 8, 39, 40, 41, 6, 42, 43, 44, 45, 46, 47, 27, 48, 49, 50, 51, 52, 53, 54, 55, 29, 56, 57, 58, 59, 60, 61, 62, 63, 64, 65, 66, 67, 68, 69, 70, 71, 72, 73, 74, 75, 76, 77, 78, 79, 80, 81, 82, 83, 84, 85, 86, 87, 88, 89, 90, 91, 92, 93, 94, 95, 96, 180, 181, 182, 183, 184, 185, 186, 187, 188, 189, 190] rfl (by decide +kernel)) (goodIn_sub (fun _ h => List.mem_cons_of_mem _ (List.mem_append_right _ h)) (by decide +kernel))
set_option maxRecDepth 20000 in
theorem gX1_digest_X1_wouldTurn : GoodIn wsX1_digest (wsV RX1 134 RX1 yX1_wouldTurn wsX1_wouldTurn) := goodIn_app (goodIn_of _ (by decide +kernel)) ggX1_digest_X1_wouldTurn
set_option maxRecDepth 20000 in
theorem ggX1_digest_X1_asBeforeIn : GoodIn wsX1_digest wsX1_asBeforeIn := goodIn_ca (goodIn_r _ [175, 38, 8, 39, 40, 41, 6, 42, 43, 44, 45, 46, 47, 27, 48, 49, 50, 51, 52, 53, 54, 55, 29, 56, 57, 58, 59, 60, 61, 62, 63, 64, 65, 66, 67, 68, 69, 70, 71, 72, 73, 74, 75, 76, 77, 78, 79, 80, 81, 82, 83, 84, 176, 177, 178, 179, 180, 181, 182, 183, 184, 185, 186, 187, 188, 189, 190] rfl (by decide +kernel)) (goodIn_sub (fun _ h => List.mem_cons_of_mem _ (List.mem_append_right _ h)) (by decide +kernel))
set_option maxRecDepth 20000 in
theorem gX1_digest_X1_asBeforeIn : GoodIn wsX1_digest (wsV RX1 181 RX1 yX1_asBeforeIn wsX1_asBeforeIn) := goodIn_app (goodIn_of _ (by decide +kernel)) ggX1_digest_X1_asBeforeIn
theorem dX1_digest_0 : decode cX1_digest 0 = .ok (.ldc2_w 137, 3) := by decide +kernel
theorem dX1_digest_3 : decode cX1_digest 3 = .ok (.lstore_n 1, 1) := by decide +kernel
theorem dX1_digest_4 : decode cX1_digest 4 = .ok (.lload_n 1, 1) := by decide +kernel
theorem dX1_digest_5 : decode cX1_digest 5 = .ok (.ldc2_w 139, 3) := by decide +kernel
theorem dX1_digest_8 : decode cX1_digest 8 = .ok (.lmul, 1) := by decide +kernel
theorem dX1_digest_9 : decode cX1_digest 9 = .ok (.aload_n 0, 1) := by decide +kernel
theorem dX1_digest_10 : decode cX1_digest 10 = .ok (.invokevirtual 131, 3) := by decide +kernel
theorem dX1_digest_13 : decode cX1_digest 13 = .ok (.i2l, 1) := by decide +kernel
theorem dX1_digest_14 : decode cX1_digest 14 = .ok (.ladd, 1) := by decide +kernel
theorem dX1_digest_15 : decode cX1_digest 15 = .ok (.lstore_n 1, 1) := by decide +kernel
theorem dX1_digest_16 : decode cX1_digest 16 = .ok (.lload_n 1, 1) := by decide +kernel
theorem dX1_digest_17 : decode cX1_digest 17 = .ok (.ldc2_w 139, 3) := by decide +kernel
theorem dX1_digest_20 : decode cX1_digest 20 = .ok (.lmul, 1) := by decide +kernel
theorem dX1_digest_21 : decode cX1_digest 21 = .ok (.aload_n 0, 1) := by decide +kernel
theorem dX1_digest_22 : decode cX1_digest 22 = .ok (.invokevirtual 141, 3) := by decide +kernel
theorem dX1_digest_25 : decode cX1_digest 25 = .ok (.i2l, 1) := by decide +kernel
theorem dX1_digest_26 : decode cX1_digest 26 = .ok (.ladd, 1) := by decide +kernel
theorem dX1_digest_27 : decode cX1_digest 27 = .ok (.lstore_n 1, 1) := by decide +kernel
theorem dX1_digest_28 : decode cX1_digest 28 = .ok (.lload_n 1, 1) := by decide +kernel
theorem dX1_digest_29 : decode cX1_digest 29 = .ok (.ldc2_w 139, 3) := by decide +kernel
theorem dX1_digest_32 : decode cX1_digest 32 = .ok (.lmul, 1) := by decide +kernel
theorem dX1_digest_33 : decode cX1_digest 33 = .ok (.aload_n 0, 1) := by decide +kernel
theorem dX1_digest_34 : decode cX1_digest 34 = .ok (.invokevirtual 144, 3) := by decide +kernel
theorem dX1_digest_37 : decode cX1_digest 37 = .ok (.i2l, 1) := by decide +kernel
theorem dX1_digest_38 : decode cX1_digest 38 = .ok (.ladd, 1) := by decide +kernel
theorem dX1_digest_39 : decode cX1_digest 39 = .ok (.lstore_n 1, 1) := by decide +kernel
theorem dX1_digest_40 : decode cX1_digest 40 = .ok (.lload_n 1, 1) := by decide +kernel
theorem dX1_digest_41 : decode cX1_digest 41 = .ok (.ldc2_w 139, 3) := by decide +kernel
theorem dX1_digest_44 : decode cX1_digest 44 = .ok (.lmul, 1) := by decide +kernel
theorem dX1_digest_45 : decode cX1_digest 45 = .ok (.aload_n 0, 1) := by decide +kernel
theorem dX1_digest_46 : decode cX1_digest 46 = .ok (.invokevirtual 147, 3) := by decide +kernel
theorem dX1_digest_49 : decode cX1_digest 49 = .ok (.i2l, 1) := by decide +kernel
theorem dX1_digest_50 : decode cX1_digest 50 = .ok (.ladd, 1) := by decide +kernel
theorem dX1_digest_51 : decode cX1_digest 51 = .ok (.lstore_n 1, 1) := by decide +kernel
theorem dX1_digest_52 : decode cX1_digest 52 = .ok (.lload_n 1, 1) := by decide +kernel
theorem dX1_digest_53 : decode cX1_digest 53 = .ok (.ldc2_w 139, 3) := by decide +kernel
theorem dX1_digest_56 : decode cX1_digest 56 = .ok (.lmul, 1) := by decide +kernel
theorem dX1_digest_57 : decode cX1_digest 57 = .ok (.aload_n 0, 1) := by decide +kernel
theorem dX1_digest_58 : decode cX1_digest 58 = .ok (.invokevirtual 150, 3) := by decide +kernel
theorem dX1_digest_61 : decode cX1_digest 61 = .ok (.i2l, 1) := by decide +kernel
theorem dX1_digest_62 : decode cX1_digest 62 = .ok (.ladd, 1) := by decide +kernel
theorem dX1_digest_63 : decode cX1_digest 63 = .ok (.lstore_n 1, 1) := by decide +kernel
theorem dX1_digest_64 : decode cX1_digest 64 = .ok (.iconst 0, 1) := by decide +kernel
theorem dX1_digest_65 : decode cX1_digest 65 = .ok (.istore_n 3, 1) := by decide +kernel
theorem dX1_digest_66 : decode cX1_digest 66 = .ok (.iload_n 3, 1) := by decide +kernel
theorem dX1_digest_67 : decode cX1_digest 67 = .ok (.iconst 2, 1) := by decide +kernel
theorem dX1_digest_68 : decode cX1_digest 68 = .ok (.if_icmp .ge 48, 3) := by decide +kernel
theorem dX1_digest_71 : decode cX1_digest 71 = .ok (.lload_n 1, 1) := by decide +kernel
theorem dX1_digest_72 : decode cX1_digest 72 = .ok (.ldc2_w 139, 3) := by decide +kernel
theorem dX1_digest_75 : decode cX1_digest 75 = .ok (.lmul, 1) := by decide +kernel
theorem dX1_digest_76 : decode cX1_digest 76 = .ok (.aload_n 0, 1) := by decide +kernel
theorem dX1_digest_77 : decode cX1_digest 77 = .ok (.iload_n 3, 1) := by decide +kernel
theorem dX1_digest_78 : decode cX1_digest 78 = .ok (.invokevirtual 153, 3) := by decide +kernel
theorem dX1_digest_81 : decode cX1_digest 81 = .ok (.i2l, 1) := by decide +kernel
theorem dX1_digest_82 : decode cX1_digest 82 = .ok (.ladd, 1) := by decide +kernel
theorem dX1_digest_83 : decode cX1_digest 83 = .ok (.lstore_n 1, 1) := by decide +kernel
theorem dX1_digest_84 : decode cX1_digest 84 = .ok (.lload_n 1, 1) := by decide +kernel
theorem dX1_digest_85 : decode cX1_digest 85 = .ok (.ldc2_w 139, 3) := by decide +kernel
theorem dX1_digest_88 : decode cX1_digest 88 = .ok (.lmul, 1) := by decide +kernel
theorem dX1_digest_89 : decode cX1_digest 89 = .ok (.aload_n 0, 1) := by decide +kernel
theorem dX1_digest_90 : decode cX1_digest 90 = .ok (.iload_n 3, 1) := by decide +kernel
theorem dX1_digest_91 : decode cX1_digest 91 = .ok (.invokevirtual 156, 3) := by decide +kernel
theorem dX1_digest_94 : decode cX1_digest 94 = .ok (.i2l, 1) := by decide +kernel
theorem dX1_digest_95 : decode cX1_digest 95 = .ok (.ladd, 1) := by decide +kernel
theorem dX1_digest_96 : decode cX1_digest 96 = .ok (.lstore_n 1, 1) := by decide +kernel
theorem dX1_digest_97 : decode cX1_digest 97 = .ok (.lload_n 1, 1) := by decide +kernel
theorem dX1_digest_98 : decode cX1_digest 98 = .ok (.ldc2_w 139, 3) := by decide +kernel
theorem dX1_digest_101 : decode cX1_digest 101 = .ok (.lmul, 1) := by decide +kernel
theorem dX1_digest_102 : decode cX1_digest 102 = .ok (.aload_n 0, 1) := by decide +kernel
theorem dX1_digest_103 : decode cX1_digest 103 = .ok (.iload_n 3, 1) := by decide +kernel
theorem dX1_digest_104 : decode cX1_digest 104 = .ok (.invokevirtual 159, 3) := by decide +kernel
theorem dX1_digest_107 : decode cX1_digest 107 = .ok (.i2l, 1) := by decide +kernel
theorem dX1_digest_108 : decode cX1_digest 108 = .ok (.ladd, 1) := by decide +kernel
theorem dX1_digest_109 : decode cX1_digest 109 = .ok (.lstore_n 1, 1) := by decide +kernel
theorem dX1_digest_110 : decode cX1_digest 110 = .ok (.iinc 3 1, 3) := by decide +kernel
theorem dX1_digest_113 : decode cX1_digest 113 = .ok (.goto (-47), 3) := by decide +kernel
theorem dX1_digest_116 : decode cX1_digest 116 = .ok (.iconst 0, 1) := by decide +kernel
theorem dX1_digest_117 : decode cX1_digest 117 = .ok (.istore_n 3, 1) := by decide +kernel
theorem dX1_digest_118 : decode cX1_digest 118 = .ok (.iload_n 3, 1) := by decide +kernel
theorem dX1_digest_119 : decode cX1_digest 119 = .ok (.aload_n 0, 1) := by decide +kernel
theorem dX1_digest_120 : decode cX1_digest 120 = .ok (.invokevirtual 141, 3) := by decide +kernel
theorem dX1_digest_123 : decode cX1_digest 123 = .ok (.if_icmp .ge 93, 3) := by decide +kernel
theorem dX1_digest_126 : decode cX1_digest 126 = .ok (.lload_n 1, 1) := by decide +kernel
theorem dX1_digest_127 : decode cX1_digest 127 = .ok (.ldc2_w 139, 3) := by decide +kernel
theorem dX1_digest_130 : decode cX1_digest 130 = .ok (.lmul, 1) := by decide +kernel
theorem dX1_digest_131 : decode cX1_digest 131 = .ok (.aload_n 0, 1) := by decide +kernel
theorem dX1_digest_132 : decode cX1_digest 132 = .ok (.iload_n 3, 1) := by decide +kernel
theorem dX1_digest_133 : decode cX1_digest 133 = .ok (.invokevirtual 162, 3) := by decide +kernel
theorem dX1_digest_136 : decode cX1_digest 136 = .ok (.i2l, 1) := by decide +kernel
theorem dX1_digest_137 : decode cX1_digest 137 = .ok (.ladd, 1) := by decide +kernel
theorem dX1_digest_138 : decode cX1_digest 138 = .ok (.lstore_n 1, 1) := by decide +kernel
theorem dX1_digest_139 : decode cX1_digest 139 = .ok (.iconst 0, 1) := by decide +kernel
theorem dX1_digest_140 : decode cX1_digest 140 = .ok (.istore 4, 2) := by decide +kernel
theorem dX1_digest_142 : decode cX1_digest 142 = .ok (.iload 4, 2) := by decide +kernel
theorem dX1_digest_144 : decode cX1_digest 144 = .ok (.aload_n 0, 1) := by decide +kernel
theorem dX1_digest_145 : decode cX1_digest 145 = .ok (.invokevirtual 131, 3) := by decide +kernel
theorem dX1_digest_148 : decode cX1_digest 148 = .ok (.if_icmp .ge 62, 3) := by decide +kernel
theorem dX1_digest_151 : decode cX1_digest 151 = .ok (.lload_n 1, 1) := by decide +kernel
theorem dX1_digest_152 : decode cX1_digest 152 = .ok (.ldc2_w 139, 3) := by decide +kernel
theorem dX1_digest_155 : decode cX1_digest 155 = .ok (.lmul, 1) := by decide +kernel
theorem dX1_digest_156 : decode cX1_digest 156 = .ok (.aload_n 0, 1) := by decide +kernel
theorem dX1_digest_157 : decode cX1_digest 157 = .ok (.iload_n 3, 1) := by decide +kernel
theorem dX1_digest_158 : decode cX1_digest 158 = .ok (.iload 4, 2) := by decide +kernel
theorem dX1_digest_160 : decode cX1_digest 160 = .ok (.invokevirtual 165, 3) := by decide +kernel
theorem dX1_digest_163 : decode cX1_digest 163 = .ok (.i2l, 1) := by decide +kernel
theorem dX1_digest_164 : decode cX1_digest 164 = .ok (.ladd, 1) := by decide +kernel
theorem dX1_digest_165 : decode cX1_digest 165 = .ok (.lstore_n 1, 1) := by decide +kernel
theorem dX1_digest_166 : decode cX1_digest 166 = .ok (.lload_n 1, 1) := by decide +kernel
theorem dX1_digest_167 : decode cX1_digest 167 = .ok (.ldc2_w 139, 3) := by decide +kernel
theorem dX1_digest_170 : decode cX1_digest 170 = .ok (.lmul, 1) := by decide +kernel
theorem dX1_digest_171 : decode cX1_digest 171 = .ok (.aload_n 0, 1) := by decide +kernel
theorem dX1_digest_172 : decode cX1_digest 172 = .ok (.iload_n 3, 1) := by decide +kernel
theorem dX1_digest_173 : decode cX1_digest 173 = .ok (.iload 4, 2) := by decide +kernel
theorem dX1_digest_175 : decode cX1_digest 175 = .ok (.invokevirtual 168, 3) := by decide +kernel
theorem dX1_digest_178 : decode cX1_digest 178 = .ok (.ifCond .eq 7, 3) := by decide +kernel
theorem dX1_digest_181 : decode cX1_digest 181 = .ok (.iconst 1, 1) := by decide +kernel
theorem dX1_digest_182 : decode cX1_digest 182 = .ok (.goto 4, 3) := by decide +kernel
theorem dX1_digest_185 : decode cX1_digest 185 = .ok (.iconst 0, 1) := by decide +kernel
theorem dX1_digest_186 : decode cX1_digest 186 = .ok (.i2l, 1) := by decide +kernel
theorem dX1_digest_187 : decode cX1_digest 187 = .ok (.ladd, 1) := by decide +kernel
theorem dX1_digest_188 : decode cX1_digest 188 = .ok (.lstore_n 1, 1) := by decide +kernel
theorem dX1_digest_189 : decode cX1_digest 189 = .ok (.lload_n 1, 1) := by decide +kernel
theorem dX1_digest_190 : decode cX1_digest 190 = .ok (.ldc2_w 139, 3) := by decide +kernel
theorem dX1_digest_193 : decode cX1_digest 193 = .ok (.lmul, 1) := by decide +kernel
theorem dX1_digest_194 : decode cX1_digest 194 = .ok (.aload_n 0, 1) := by decide +kernel
theorem dX1_digest_195 : decode cX1_digest 195 = .ok (.iload_n 3, 1) := by decide +kernel
theorem dX1_digest_196 : decode cX1_digest 196 = .ok (.iload 4, 2) := by decide +kernel
theorem dX1_digest_198 : decode cX1_digest 198 = .ok (.invokevirtual 172, 3) := by decide +kernel
theorem dX1_digest_201 : decode cX1_digest 201 = .ok (.i2l, 1) := by decide +kernel
theorem dX1_digest_202 : decode cX1_digest 202 = .ok (.ladd, 1) := by decide +kernel
theorem dX1_digest_203 : decode cX1_digest 203 = .ok (.lstore_n 1, 1) := by decide +kernel
theorem dX1_digest_204 : decode cX1_digest 204 = .ok (.iinc 4 1, 3) := by decide +kernel
theorem dX1_digest_207 : decode cX1_digest 207 = .ok (.goto (-65), 3) := by decide +kernel
theorem dX1_digest_210 : decode cX1_digest 210 = .ok (.iinc 3 1, 3) := by decide +kernel
theorem dX1_digest_213 : decode cX1_digest 213 = .ok (.goto (-95), 3) := by decide +kernel
theorem dX1_digest_216 : decode cX1_digest 216 = .ok (.iconst 0, 1) := by decide +kernel
theorem dX1_digest_217 : decode cX1_digest 217 = .ok (.istore_n 3, 1) := by decide +kernel
theorem dX1_digest_218 : decode cX1_digest 218 = .ok (.iload_n 3, 1) := by decide +kernel
theorem dX1_digest_219 : decode cX1_digest 219 = .ok (.aload_n 0, 1) := by decide +kernel
theorem dX1_digest_220 : decode cX1_digest 220 = .ok (.invokevirtual 131, 3) := by decide +kernel
theorem dX1_digest_223 : decode cX1_digest 223 = .ok (.if_icmp .ge 61, 3) := by decide +kernel
theorem dX1_digest_226 : decode cX1_digest 226 = .ok (.lload_n 1, 1) := by decide +kernel
theorem dX1_digest_227 : decode cX1_digest 227 = .ok (.ldc2_w 139, 3) := by decide +kernel
theorem dX1_digest_230 : decode cX1_digest 230 = .ok (.lmul, 1) := by decide +kernel
theorem dX1_digest_231 : decode cX1_digest 231 = .ok (.aload_n 0, 1) := by decide +kernel
theorem dX1_digest_232 : decode cX1_digest 232 = .ok (.iload_n 3, 1) := by decide +kernel
theorem dX1_digest_233 : decode cX1_digest 233 = .ok (.invokevirtual 175, 3) := by decide +kernel
theorem dX1_digest_236 : decode cX1_digest 236 = .ok (.i2l, 1) := by decide +kernel
theorem dX1_digest_237 : decode cX1_digest 237 = .ok (.ladd, 1) := by decide +kernel
theorem dX1_digest_238 : decode cX1_digest 238 = .ok (.lstore_n 1, 1) := by decide +kernel
theorem dX1_digest_239 : decode cX1_digest 239 = .ok (.lload_n 1, 1) := by decide +kernel
theorem dX1_digest_240 : decode cX1_digest 240 = .ok (.ldc2_w 139, 3) := by decide +kernel
theorem dX1_digest_243 : decode cX1_digest 243 = .ok (.lmul, 1) := by decide +kernel
theorem dX1_digest_244 : decode cX1_digest 244 = .ok (.aload_n 0, 1) := by decide +kernel
theorem dX1_digest_245 : decode cX1_digest 245 = .ok (.iload_n 3, 1) := by decide +kernel
theorem dX1_digest_246 : decode cX1_digest 246 = .ok (.invokevirtual 178, 3) := by decide +kernel
theorem dX1_digest_249 : decode cX1_digest 249 = .ok (.i2l, 1) := by decide +kernel
theorem dX1_digest_250 : decode cX1_digest 250 = .ok (.ladd, 1) := by decide +kernel
theorem dX1_digest_251 : decode cX1_digest 251 = .ok (.lstore_n 1, 1) := by decide +kernel
theorem dX1_digest_252 : decode cX1_digest 252 = .ok (.lload_n 1, 1) := by decide +kernel
theorem dX1_digest_253 : decode cX1_digest 253 = .ok (.ldc2_w 139, 3) := by decide +kernel
theorem dX1_digest_256 : decode cX1_digest 256 = .ok (.lmul, 1) := by decide +kernel
theorem dX1_digest_257 : decode cX1_digest 257 = .ok (.aload_n 0, 1) := by decide +kernel
theorem dX1_digest_258 : decode cX1_digest 258 = .ok (.iload_n 3, 1) := by decide +kernel
theorem dX1_digest_259 : decode cX1_digest 259 = .ok (.invokevirtual 134, 3) := by decide +kernel
theorem dX1_digest_262 : decode cX1_digest 262 = .ok (.i2l, 1) := by decide +kernel
theorem dX1_digest_263 : decode cX1_digest 263 = .ok (.ladd, 1) := by decide +kernel
theorem dX1_digest_264 : decode cX1_digest 264 = .ok (.lstore_n 1, 1) := by decide +kernel
theorem dX1_digest_265 : decode cX1_digest 265 = .ok (.lload_n 1, 1) := by decide +kernel
theorem dX1_digest_266 : decode cX1_digest 266 = .ok (.ldc2_w 139, 3) := by decide +kernel
theorem dX1_digest_269 : decode cX1_digest 269 = .ok (.lmul, 1) := by decide +kernel
theorem dX1_digest_270 : decode cX1_digest 270 = .ok (.aload_n 0, 1) := by decide +kernel
theorem dX1_digest_271 : decode cX1_digest 271 = .ok (.iload_n 3, 1) := by decide +kernel
theorem dX1_digest_272 : decode cX1_digest 272 = .ok (.invokevirtual 181, 3) := by decide +kernel
theorem dX1_digest_275 : decode cX1_digest 275 = .ok (.i2l, 1) := by decide +kernel
theorem dX1_digest_276 : decode cX1_digest 276 = .ok (.ladd, 1) := by decide +kernel
theorem dX1_digest_277 : decode cX1_digest 277 = .ok (.lstore_n 1, 1) := by decide +kernel
theorem dX1_digest_278 : decode cX1_digest 278 = .ok (.iinc 3 1, 3) := by decide +kernel
theorem dX1_digest_281 : decode cX1_digest 281 = .ok (.goto (-63), 3) := by decide +kernel
theorem dX1_digest_284 : decode cX1_digest 284 = .ok (.lload_n 1, 1) := by decide +kernel
theorem dX1_digest_285 : decode cX1_digest 285 = .ok (.lreturn, 1) := by decide +kernel
set_option maxRecDepth 20000 in
theorem ggX1_needPlace_X1_needRow : GoodIn wsX1_needPlace wsX1_needRow := goodIn_ca (goodIn_r _ [5, 6, 7, 8, 9, 10, 11, 12, 13, 14, 24, 25, 26, 27, 28, 29, 30, 31, 32, 33, 34] rfl (by decide +kernel)) (goodIn_sub (fun _ h => List.mem_cons_of_mem _ (List.mem_append_right _ h)) (by decide +kernel))
set_option maxRecDepth 20000 in
theorem gX1_needPlace_X1_needRow : GoodIn wsX1_needPlace (wsV RX1 110 RX1 yX1_needRow wsX1_needRow) := goodIn_app (goodIn_of _ (by decide +kernel)) ggX1_needPlace_X1_needRow
set_option maxRecDepth 20000 in
theorem ggX1_needPlace_X1_needColumn : GoodIn wsX1_needPlace wsX1_needColumn := goodIn_ca (goodIn_r _ [18, 6, 7, 8, 19, 20, 21, 12, 22, 23, 24, 25, 26, 27, 28, 29, 30, 31, 32, 33, 34] rfl (by decide +kernel)) (goodIn_sub (fun _ h => List.mem_cons_of_mem _ (List.mem_append_right _ h)) (by decide +kernel))
set_option maxRecDepth 20000 in
theorem gX1_needPlace_X1_needColumn : GoodIn wsX1_needPlace (wsV RX1 60 RX1 yX1_needColumn wsX1_needColumn) := goodIn_app (goodIn_of _ (by decide +kernel)) ggX1_needPlace_X1_needColumn
theorem dX1_needPlace_0 : decode cX1_needPlace 0 = .ok (.aload_n 0, 1) := by decide +kernel
theorem dX1_needPlace_1 : decode cX1_needPlace 1 = .ok (.iload_n 1, 1) := by decide +kernel
theorem dX1_needPlace_2 : decode cX1_needPlace 2 = .ok (.invokevirtual 110, 3) := by decide +kernel
theorem dX1_needPlace_5 : decode cX1_needPlace 5 = .ok (.aload_n 0, 1) := by decide +kernel
theorem dX1_needPlace_6 : decode cX1_needPlace 6 = .ok (.iload_n 2, 1) := by decide +kernel
theorem dX1_needPlace_7 : decode cX1_needPlace 7 = .ok (.invokevirtual 60, 3) := by decide +kernel
theorem dX1_needPlace_10 : decode cX1_needPlace 10 = .ok (.return_, 1) := by decide +kernel
set_option maxRecDepth 20000 in
theorem ggX1_needRow_X0_hasRow : GoodIn wsX1_needRow wsX0_hasRow := goodIn_r _ [8, 9, 12, 13, 14, 15, 16, 17, 18, 19, 20] rfl (by decide +kernel)
set_option maxRecDepth 20000 in
theorem gX1_needRow_X0_hasRow : GoodIn wsX1_needRow (wsV RX1 184 RX0 yX0_hasRow wsX0_hasRow) := goodIn_app (goodIn_of _ (by decide +kernel)) ggX1_needRow_X0_hasRow
theorem dX1_needRow_0 : decode cX1_needRow 0 = .ok (.aload_n 0, 1) := by decide +kernel
theorem dX1_needRow_1 : decode cX1_needRow 1 = .ok (.getfield 10, 3) := by decide +kernel
theorem dX1_needRow_4 : decode cX1_needRow 4 = .ok (.iload_n 1, 1) := by decide +kernel
theorem dX1_needRow_5 : decode cX1_needRow 5 = .ok (.invokevirtual 184, 3) := by decide +kernel
theorem dX1_needRow_8 : decode cX1_needRow 8 = .ok (.ifCond .ne 13, 3) := by decide +kernel
theorem dX1_needRow_11 : decode cX1_needRow 11 = .ok (.new 187, 3) := by decide +kernel
theorem dX1_needRow_14 : decode cX1_needRow 14 = .ok (.dup, 1) := by decide +kernel
theorem dX1_needRow_15 : decode cX1_needRow 15 = .ok (.ldc 189, 2) := by decide +kernel
theorem dX1_needRow_17 : decode cX1_needRow 17 = .ok (.invokespecial 191, 3) := by decide +kernel
theorem dX1_needRow_20 : decode cX1_needRow 20 = .ok (.athrow, 1) := by decide +kernel
theorem dX1_needRow_21 : decode cX1_needRow 21 = .ok (.return_, 1) := by decide +kernel
set_option maxRecDepth 20000 in
theorem ggX1_needColumn_X0_hasColumn : GoodIn wsX1_needColumn wsX0_hasColumn := goodIn_r _ [8, 9, 12, 13, 14, 15, 16, 17, 18, 19, 20] rfl (by decide +kernel)
set_option maxRecDepth 20000 in
theorem gX1_needColumn_X0_hasColumn : GoodIn wsX1_needColumn (wsV RX1 192 RX0 yX0_hasColumn wsX0_hasColumn) := goodIn_app (goodIn_of _ (by decide +kernel)) ggX1_needColumn_X0_hasColumn
theorem dX1_needColumn_0 : decode cX1_needColumn 0 = .ok (.aload_n 0, 1) := by decide +kernel
theorem dX1_needColumn_1 : decode cX1_needColumn 1 = .ok (.getfield 10, 3) := by decide +kernel
theorem dX1_needColumn_4 : decode cX1_needColumn 4 = .ok (.iload_n 1, 1) := by decide +kernel
theorem dX1_needColumn_5 : decode cX1_needColumn 5 = .ok (.invokevirtual 192, 3) := by decide +kernel
theorem dX1_needColumn_8 : decode cX1_needColumn 8 = .ok (.ifCond .ne 13, 3) := by decide +kernel
theorem dX1_needColumn_11 : decode cX1_needColumn 11 = .ok (.new 187, 3) := by decide +kernel
theorem dX1_needColumn_14 : decode cX1_needColumn 14 = .ok (.dup, 1) := by decide +kernel
theorem dX1_needColumn_15 : decode cX1_needColumn 15 = .ok (.ldc 195, 2) := by decide +kernel
theorem dX1_needColumn_17 : decode cX1_needColumn 17 = .ok (.invokespecial 191, 3) := by decide +kernel
theorem dX1_needColumn_20 : decode cX1_needColumn 20 = .ok (.athrow, 1) := by decide +kernel
theorem dX1_needColumn_21 : decode cX1_needColumn 21 = .ok (.return_, 1) := by decide +kernel
theorem dX1_needHopper_0 : decode cX1_needHopper 0 = .ok (.iload_n 0, 1) := by decide +kernel
theorem dX1_needHopper_1 : decode cX1_needHopper 1 = .ok (.ifCond .lt 8, 3) := by decide +kernel
theorem dX1_needHopper_4 : decode cX1_needHopper 4 = .ok (.iload_n 0, 1) := by decide +kernel
theorem dX1_needHopper_5 : decode cX1_needHopper 5 = .ok (.iconst 2, 1) := by decide +kernel
theorem dX1_needHopper_6 : decode cX1_needHopper 6 = .ok (.if_icmp .lt 13, 3) := by decide +kernel
theorem dX1_needHopper_9 : decode cX1_needHopper 9 = .ok (.new 187, 3) := by decide +kernel
theorem dX1_needHopper_12 : decode cX1_needHopper 12 = .ok (.dup, 1) := by decide +kernel
theorem dX1_needHopper_13 : decode cX1_needHopper 13 = .ok (.ldc 197, 2) := by decide +kernel
theorem dX1_needHopper_15 : decode cX1_needHopper 15 = .ok (.invokespecial 191, 3) := by decide +kernel
theorem dX1_needHopper_18 : decode cX1_needHopper 18 = .ok (.athrow, 1) := by decide +kernel
theorem dX1_needHopper_19 : decode cX1_needHopper 19 = .ok (.return_, 1) := by decide +kernel
theorem dX1_needWithin_0 : decode cX1_needWithin 0 = .ok (.iload_n 0, 1) := by decide +kernel
theorem dX1_needWithin_1 : decode cX1_needWithin 1 = .ok (.iload_n 1, 1) := by decide +kernel
theorem dX1_needWithin_2 : decode cX1_needWithin 2 = .ok (.if_icmp .lt 8, 3) := by decide +kernel
theorem dX1_needWithin_5 : decode cX1_needWithin 5 = .ok (.iload_n 0, 1) := by decide +kernel
theorem dX1_needWithin_6 : decode cX1_needWithin 6 = .ok (.iload_n 2, 1) := by decide +kernel
theorem dX1_needWithin_7 : decode cX1_needWithin 7 = .ok (.if_icmp .le 13, 3) := by decide +kernel
theorem dX1_needWithin_10 : decode cX1_needWithin 10 = .ok (.new 199, 3) := by decide +kernel
theorem dX1_needWithin_13 : decode cX1_needWithin 13 = .ok (.dup, 1) := by decide +kernel
theorem dX1_needWithin_14 : decode cX1_needWithin 14 = .ok (.ldc 201, 2) := by decide +kernel
theorem dX1_needWithin_16 : decode cX1_needWithin 16 = .ok (.invokespecial 203, 3) := by decide +kernel
theorem dX1_needWithin_19 : decode cX1_needWithin 19 = .ok (.athrow, 1) := by decide +kernel
theorem dX1_needWithin_20 : decode cX1_needWithin 20 = .ok (.return_, 1) := by decide +kernel
theorem dX1_cell_0 : decode cX1_cell 0 = .ok (.iload_n 1, 1) := by decide +kernel
theorem dX1_cell_1 : decode cX1_cell 1 = .ok (.ifCond .lt 15, 3) := by decide +kernel
theorem dX1_cell_4 : decode cX1_cell 4 = .ok (.iload_n 1, 1) := by decide +kernel
theorem dX1_cell_5 : decode cX1_cell 5 = .ok (.aload_n 0, 1) := by decide +kernel
theorem dX1_cell_6 : decode cX1_cell 6 = .ok (.arraylength, 1) := by decide +kernel
theorem dX1_cell_7 : decode cX1_cell 7 = .ok (.if_icmp .ge 9, 3) := by decide +kernel
theorem dX1_cell_10 : decode cX1_cell 10 = .ok (.aload_n 0, 1) := by decide +kernel
theorem dX1_cell_11 : decode cX1_cell 11 = .ok (.iload_n 1, 1) := by decide +kernel
theorem dX1_cell_12 : decode cX1_cell 12 = .ok (.iaload, 1) := by decide +kernel
theorem dX1_cell_13 : decode cX1_cell 13 = .ok (.goto 4, 3) := by decide +kernel
theorem dX1_cell_16 : decode cX1_cell 16 = .ok (.iconst 0, 1) := by decide +kernel
theorem dX1_cell_17 : decode cX1_cell 17 = .ok (.ireturn, 1) := by decide +kernel
theorem dX1_setCell_0 : decode cX1_setCell 0 = .ok (.iload_n 1, 1) := by decide +kernel
theorem dX1_setCell_1 : decode cX1_setCell 1 = .ok (.ifCond .lt 13, 3) := by decide +kernel
theorem dX1_setCell_4 : decode cX1_setCell 4 = .ok (.iload_n 1, 1) := by decide +kernel
theorem dX1_setCell_5 : decode cX1_setCell 5 = .ok (.aload_n 0, 1) := by decide +kernel
theorem dX1_setCell_6 : decode cX1_setCell 6 = .ok (.arraylength, 1) := by decide +kernel
theorem dX1_setCell_7 : decode cX1_setCell 7 = .ok (.if_icmp .ge 7, 3) := by decide +kernel
theorem dX1_setCell_10 : decode cX1_setCell 10 = .ok (.aload_n 0, 1) := by decide +kernel
theorem dX1_setCell_11 : decode cX1_setCell 11 = .ok (.iload_n 1, 1) := by decide +kernel
theorem dX1_setCell_12 : decode cX1_setCell 12 = .ok (.iload_n 2, 1) := by decide +kernel
theorem dX1_setCell_13 : decode cX1_setCell 13 = .ok (.iastore, 1) := by decide +kernel
theorem dX1_setCell_14 : decode cX1_setCell 14 = .ok (.return_, 1) := by decide +kernel
set_option maxRecDepth 20000 in
theorem ggX1_copyCells_X1_setCell : GoodIn wsX1_copyCells wsX1_setCell := goodIn_r _ [4] rfl (by decide +kernel)
set_option maxRecDepth 20000 in
theorem gX1_copyCells_X1_setCell : GoodIn wsX1_copyCells (va_wsS RX1 204 yX1_setCell wsX1_setCell) := goodIn_app (goodIn_of _ (by decide +kernel)) ggX1_copyCells_X1_setCell
theorem dX1_copyCells_0 : decode cX1_copyCells 0 = .ok (.iconst 0, 1) := by decide +kernel
theorem dX1_copyCells_1 : decode cX1_copyCells 1 = .ok (.istore_n 2, 1) := by decide +kernel
theorem dX1_copyCells_2 : decode cX1_copyCells 2 = .ok (.iload_n 2, 1) := by decide +kernel
theorem dX1_copyCells_3 : decode cX1_copyCells 3 = .ok (.aload_n 0, 1) := by decide +kernel
theorem dX1_copyCells_4 : decode cX1_copyCells 4 = .ok (.arraylength, 1) := by decide +kernel
theorem dX1_copyCells_5 : decode cX1_copyCells 5 = .ok (.if_icmp .ge 17, 3) := by decide +kernel
theorem dX1_copyCells_8 : decode cX1_copyCells 8 = .ok (.aload_n 1, 1) := by decide +kernel
theorem dX1_copyCells_9 : decode cX1_copyCells 9 = .ok (.iload_n 2, 1) := by decide +kernel
theorem dX1_copyCells_10 : decode cX1_copyCells 10 = .ok (.aload_n 0, 1) := by decide +kernel
theorem dX1_copyCells_11 : decode cX1_copyCells 11 = .ok (.iload_n 2, 1) := by decide +kernel
theorem dX1_copyCells_12 : decode cX1_copyCells 12 = .ok (.iaload, 1) := by decide +kernel
theorem dX1_copyCells_13 : decode cX1_copyCells 13 = .ok (.invokestatic 204, 3) := by decide +kernel
theorem dX1_copyCells_16 : decode cX1_copyCells 16 = .ok (.iinc 2 1, 3) := by decide +kernel
theorem dX1_copyCells_19 : decode cX1_copyCells 19 = .ok (.goto (-17), 3) := by decide +kernel
theorem dX1_copyCells_22 : decode cX1_copyCells 22 = .ok (.return_, 1) := by decide +kernel
abbrev vwCl : List vw_C := [(RX0, TX0, 9), (RX1, TX1, 2), (RX2, TX2, 6)]

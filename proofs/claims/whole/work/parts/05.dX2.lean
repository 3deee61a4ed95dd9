theorem dX2_init_0 : decode cX2_init 0 = .ok (.aload_n 0, 1) := by decide +kernel
theorem dX2_init_1 : decode cX2_init 1 = .ok (.invokespecial 3, 3) := by decide +kernel
theorem dX2_init_4 : decode cX2_init 4 = .ok (.aload_n 0, 1) := by decide +kernel
theorem dX2_init_5 : decode cX2_init 5 = .ok (.iconst 5, 1) := by decide +kernel
theorem dX2_init_6 : decode cX2_init 6 = .ok (.putfield 9, 3) := by decide +kernel
theorem dX2_init_9 : decode cX2_init 9 = .ok (.aload_n 0, 1) := by decide +kernel
theorem dX2_init_10 : decode cX2_init 10 = .ok (.iconst 4, 1) := by decide +kernel
theorem dX2_init_11 : decode cX2_init 11 = .ok (.putfield 13, 3) := by decide +kernel
theorem dX2_init_14 : decode cX2_init 14 = .ok (.aload_n 0, 1) := by decide +kernel
theorem dX2_init_15 : decode cX2_init 15 = .ok (.bipush 72, 2) := by decide +kernel
theorem dX2_init_17 : decode cX2_init 17 = .ok (.newarray .int, 2) := by decide +kernel
theorem dX2_init_19 : decode cX2_init 19 = .ok (.putfield 16, 3) := by decide +kernel
theorem dX2_init_22 : decode cX2_init 22 = .ok (.aload_n 0, 1) := by decide +kernel
theorem dX2_init_23 : decode cX2_init 23 = .ok (.bipush 72, 2) := by decide +kernel
theorem dX2_init_25 : decode cX2_init 25 = .ok (.newarray .int, 2) := by decide +kernel
theorem dX2_init_27 : decode cX2_init 27 = .ok (.putfield 20, 3) := by decide +kernel
theorem dX2_init_30 : decode cX2_init 30 = .ok (.aload_n 0, 1) := by decide +kernel
theorem dX2_init_31 : decode cX2_init 31 = .ok (.iconst 2, 1) := by decide +kernel
theorem dX2_init_32 : decode cX2_init 32 = .ok (.newarray .int, 2) := by decide +kernel
theorem dX2_init_34 : decode cX2_init 34 = .ok (.dup, 1) := by decide +kernel
theorem dX2_init_35 : decode cX2_init 35 = .ok (.iconst 0, 1) := by decide +kernel
theorem dX2_init_36 : decode cX2_init 36 = .ok (.iconst 0, 1) := by decide +kernel
theorem dX2_init_37 : decode cX2_init 37 = .ok (.iastore, 1) := by decide +kernel
theorem dX2_init_38 : decode cX2_init 38 = .ok (.dup, 1) := by decide +kernel
theorem dX2_init_39 : decode cX2_init 39 = .ok (.iconst 1, 1) := by decide +kernel
theorem dX2_init_40 : decode cX2_init 40 = .ok (.iconst 4, 1) := by decide +kernel
theorem dX2_init_41 : decode cX2_init 41 = .ok (.iastore, 1) := by decide +kernel
theorem dX2_init_42 : decode cX2_init 42 = .ok (.putfield 23, 3) := by decide +kernel
theorem dX2_init_45 : decode cX2_init 45 = .ok (.aload_n 0, 1) := by decide +kernel
theorem dX2_init_46 : decode cX2_init 46 = .ok (.bipush 84, 2) := by decide +kernel
theorem dX2_init_48 : decode cX2_init 48 = .ok (.newarray .int, 2) := by decide +kernel
theorem dX2_init_50 : decode cX2_init 50 = .ok (.putfield 26, 3) := by decide +kernel
theorem dX2_init_53 : decode cX2_init 53 = .ok (.aload_n 0, 1) := by decide +kernel
theorem dX2_init_54 : decode cX2_init 54 = .ok (.bipush 84, 2) := by decide +kernel
theorem dX2_init_56 : decode cX2_init 56 = .ok (.newarray .int, 2) := by decide +kernel
theorem dX2_init_58 : decode cX2_init 58 = .ok (.putfield 29, 3) := by decide +kernel
theorem dX2_init_61 : decode cX2_init 61 = .ok (.aload_n 0, 1) := by decide +kernel
theorem dX2_init_62 : decode cX2_init 62 = .ok (.bipush 8, 2) := by decide +kernel
theorem dX2_init_64 : decode cX2_init 64 = .ok (.newarray .int, 2) := by decide +kernel
theorem dX2_init_66 : decode cX2_init 66 = .ok (.putfield 32, 3) := by decide +kernel
theorem dX2_init_69 : decode cX2_init 69 = .ok (.return_, 1) := by decide +kernel
theorem dX2_thrown_0 : decode cX2_thrown 0 = .ok (.aload_n 0, 1) := by decide +kernel
theorem dX2_thrown_1 : decode cX2_thrown 1 = .ok (.getfield 35, 3) := by decide +kernel
theorem dX2_thrown_4 : decode cX2_thrown 4 = .ok (.ireturn, 1) := by decide +kernel
theorem dX2_no_0 : decode cX2_no 0 = .ok (.aload_n 0, 1) := by decide +kernel
theorem dX2_no_1 : decode cX2_no 1 = .ok (.iload_n 1, 1) := by decide +kernel
theorem dX2_no_2 : decode cX2_no 2 = .ok (.putfield 35, 3) := by decide +kernel
theorem dX2_no_5 : decode cX2_no 5 = .ok (.iconst 0, 1) := by decide +kernel
theorem dX2_no_6 : decode cX2_no 6 = .ok (.ireturn, 1) := by decide +kernel
theorem dX2_isNot_0 : decode cX2_isNot 0 = .ok (.aload_n 0, 1) := by decide +kernel
theorem dX2_isNot_1 : decode cX2_isNot 1 = .ok (.iload_n 1, 1) := by decide +kernel
theorem dX2_isNot_2 : decode cX2_isNot 2 = .ok (.putfield 35, 3) := by decide +kernel
theorem dX2_isNot_5 : decode cX2_isNot 5 = .ok (.iconst 0, 1) := by decide +kernel
theorem dX2_isNot_6 : decode cX2_isNot 6 = .ok (.ireturn, 1) := by decide +kernel
theorem dX2_ok_0 : decode cX2_ok 0 = .ok (.aload_n 0, 1) := by decide +kernel
theorem dX2_ok_1 : decode cX2_ok 1 = .ok (.iconst 0, 1) := by decide +kernel
theorem dX2_ok_2 : decode cX2_ok 2 = .ok (.putfield 35, 3) := by decide +kernel
theorem dX2_ok_5 : decode cX2_ok 5 = .ok (.iload_n 1, 1) := by decide +kernel
theorem dX2_ok_6 : decode cX2_ok 6 = .ok (.ireturn, 1) := by decide +kernel
theorem dX2_isFrom_0 : decode cX2_isFrom 0 = .ok (.iload_n 0, 1) := by decide +kernel
theorem dX2_isFrom_1 : decode cX2_isFrom 1 = .ok (.iload_n 1, 1) := by decide +kernel
theorem dX2_isFrom_2 : decode cX2_isFrom 2 = .ok (.if_icmp .lt 12, 3) := by decide +kernel
theorem dX2_isFrom_5 : decode cX2_isFrom 5 = .ok (.iload_n 0, 1) := by decide +kernel
theorem dX2_isFrom_6 : decode cX2_isFrom 6 = .ok (.iload_n 2, 1) := by decide +kernel
theorem dX2_isFrom_7 : decode cX2_isFrom 7 = .ok (.if_icmp .gt 7, 3) := by decide +kernel
theorem dX2_isFrom_10 : decode cX2_isFrom 10 = .ok (.iconst 1, 1) := by decide +kernel
theorem dX2_isFrom_11 : decode cX2_isFrom 11 = .ok (.goto 4, 3) := by decide +kernel
theorem dX2_isFrom_14 : decode cX2_isFrom 14 = .ok (.iconst 0, 1) := by decide +kernel
theorem dX2_isFrom_15 : decode cX2_isFrom 15 = .ok (.ireturn, 1) := by decide +kernel
set_option maxRecDepth 20000 in
theorem ggX2_isColumn_X2_isFrom : GoodIn wsX2_isColumn wsX2_isFrom := goodIn_r _ [5] (by decide +kernel) (by decide +kernel)
set_option maxRecDepth 20000 in
theorem gX2_isColumn_X2_isFrom : GoodIn wsX2_isColumn (va_wsS RX2 38 yX2_isFrom wsX2_isFrom) := goodIn_app (goodIn_of _ (by decide +kernel)) ggX2_isColumn_X2_isFrom
theorem dX2_isColumn_0 : decode cX2_isColumn 0 = .ok (.iload_n 1, 1) := by decide +kernel
theorem dX2_isColumn_1 : decode cX2_isColumn 1 = .ok (.iconst 0, 1) := by decide +kernel
theorem dX2_isColumn_2 : decode cX2_isColumn 2 = .ok (.aload_n 0, 1) := by decide +kernel
theorem dX2_isColumn_3 : decode cX2_isColumn 3 = .ok (.getfield 9, 3) := by decide +kernel
theorem dX2_isColumn_6 : decode cX2_isColumn 6 = .ok (.iconst 1, 1) := by decide +kernel
theorem dX2_isColumn_7 : decode cX2_isColumn 7 = .ok (.isub, 1) := by decide +kernel
theorem dX2_isColumn_8 : decode cX2_isColumn 8 = .ok (.invokestatic 38, 3) := by decide +kernel
theorem dX2_isColumn_11 : decode cX2_isColumn 11 = .ok (.ireturn, 1) := by decide +kernel
set_option maxRecDepth 20000 in
theorem ggX2_isRow_X2_isFrom : GoodIn wsX2_isRow wsX2_isFrom := goodIn_r _ [5] (by decide +kernel) (by decide +kernel)
set_option maxRecDepth 20000 in
theorem gX2_isRow_X2_isFrom : GoodIn wsX2_isRow (va_wsS RX2 38 yX2_isFrom wsX2_isFrom) := goodIn_app (goodIn_of _ (by decide +kernel)) ggX2_isRow_X2_isFrom
theorem dX2_isRow_0 : decode cX2_isRow 0 = .ok (.iload_n 1, 1) := by decide +kernel
theorem dX2_isRow_1 : decode cX2_isRow 1 = .ok (.iconst 0, 1) := by decide +kernel
theorem dX2_isRow_2 : decode cX2_isRow 2 = .ok (.aload_n 0, 1) := by decide +kernel
theorem dX2_isRow_3 : decode cX2_isRow 3 = .ok (.getfield 13, 3) := by decide +kernel
theorem dX2_isRow_6 : decode cX2_isRow 6 = .ok (.iconst 1, 1) := by decide +kernel
theorem dX2_isRow_7 : decode cX2_isRow 7 = .ok (.isub, 1) := by decide +kernel
theorem dX2_isRow_8 : decode cX2_isRow 8 = .ok (.invokestatic 38, 3) := by decide +kernel
theorem dX2_isRow_11 : decode cX2_isRow 11 = .ok (.ireturn, 1) := by decide +kernel
set_option maxRecDepth 20000 in
theorem ggX2_isPlace_X2_isRow : GoodIn wsX2_isPlace wsX2_isRow := goodIn_r _ [5, 6, 7, 8, 4, 9, 15, 16, 17, 18, 19, 20, 21, 22, 23, 24] (by decide +kernel) (by decide +kernel)
set_option maxRecDepth 20000 in
theorem gX2_isPlace_X2_isRow : GoodIn wsX2_isPlace (wsV RX2 42 RX2 yX2_isRow wsX2_isRow) := goodIn_app (goodIn_of _ (by decide +kernel)) ggX2_isPlace_X2_isRow
set_option maxRecDepth 20000 in
theorem ggX2_isPlace_X2_isColumn : GoodIn wsX2_isPlace wsX2_isColumn := goodIn_r _ [13, 14, 7, 8, 4, 9, 15, 16, 17, 18, 19, 20, 21, 22, 23, 24] (by decide +kernel) (by decide +kernel)
set_option maxRecDepth 20000 in
theorem gX2_isPlace_X2_isColumn : GoodIn wsX2_isPlace (wsV RX2 46 RX2 yX2_isColumn wsX2_isColumn) := goodIn_app (goodIn_of _ (by decide +kernel)) ggX2_isPlace_X2_isColumn
theorem dX2_isPlace_0 : decode cX2_isPlace 0 = .ok (.aload_n 0, 1) := by decide +kernel
theorem dX2_isPlace_1 : decode cX2_isPlace 1 = .ok (.iload_n 1, 1) := by decide +kernel
theorem dX2_isPlace_2 : decode cX2_isPlace 2 = .ok (.invokevirtual 42, 3) := by decide +kernel
theorem dX2_isPlace_5 : decode cX2_isPlace 5 = .ok (.ifCond .eq 15, 3) := by decide +kernel
theorem dX2_isPlace_8 : decode cX2_isPlace 8 = .ok (.aload_n 0, 1) := by decide +kernel
theorem dX2_isPlace_9 : decode cX2_isPlace 9 = .ok (.iload_n 2, 1) := by decide +kernel
theorem dX2_isPlace_10 : decode cX2_isPlace 10 = .ok (.invokevirtual 46, 3) := by decide +kernel
theorem dX2_isPlace_13 : decode cX2_isPlace 13 = .ok (.ifCond .eq 7, 3) := by decide +kernel
theorem dX2_isPlace_16 : decode cX2_isPlace 16 = .ok (.iconst 1, 1) := by decide +kernel
theorem dX2_isPlace_17 : decode cX2_isPlace 17 = .ok (.goto 4, 3) := by decide +kernel
theorem dX2_isPlace_20 : decode cX2_isPlace 20 = .ok (.iconst 0, 1) := by decide +kernel
theorem dX2_isPlace_21 : decode cX2_isPlace 21 = .ok (.ireturn, 1) := by decide +kernel
theorem dX2_keep_0 : decode cX2_keep 0 = .ok (.aload_n 0, 1) := by decide +kernel
theorem dX2_keep_1 : decode cX2_keep 1 = .ok (.getfield 26, 3) := by decide +kernel
theorem dX2_keep_4 : decode cX2_keep 4 = .ok (.iconst 0, 1) := by decide +kernel
theorem dX2_keep_5 : decode cX2_keep 5 = .ok (.aload_n 0, 1) := by decide +kernel
theorem dX2_keep_6 : decode cX2_keep 6 = .ok (.getfield 29, 3) := by decide +kernel
theorem dX2_keep_9 : decode cX2_keep 9 = .ok (.iconst 0, 1) := by decide +kernel
theorem dX2_keep_10 : decode cX2_keep 10 = .ok (.bipush 84, 2) := by decide +kernel
theorem dX2_keep_12 : decode cX2_keep 12 = .ok (.invokestatic 49, 3) := by decide +kernel
theorem dX2_keep_15 : decode cX2_keep 15 = .ok (.return_, 1) := by decide +kernel
theorem dX2_bringBack_0 : decode cX2_bringBack 0 = .ok (.aload_n 0, 1) := by decide +kernel
theorem dX2_bringBack_1 : decode cX2_bringBack 1 = .ok (.getfield 29, 3) := by decide +kernel
theorem dX2_bringBack_4 : decode cX2_bringBack 4 = .ok (.iconst 0, 1) := by decide +kernel
theorem dX2_bringBack_5 : decode cX2_bringBack 5 = .ok (.aload_n 0, 1) := by decide +kernel
theorem dX2_bringBack_6 : decode cX2_bringBack 6 = .ok (.getfield 26, 3) := by decide +kernel
theorem dX2_bringBack_9 : decode cX2_bringBack 9 = .ok (.iconst 0, 1) := by decide +kernel
theorem dX2_bringBack_10 : decode cX2_bringBack 10 = .ok (.bipush 84, 2) := by decide +kernel
theorem dX2_bringBack_12 : decode cX2_bringBack 12 = .ok (.invokestatic 49, 3) := by decide +kernel
theorem dX2_bringBack_15 : decode cX2_bringBack 15 = .ok (.return_, 1) := by decide +kernel
theorem dX2_goes_0 : decode cX2_goes 0 = .ok (.aload_n 0, 1) := by decide +kernel
theorem dX2_goes_1 : decode cX2_goes 1 = .ok (.getfield 26, 3) := by decide +kernel
theorem dX2_goes_4 : decode cX2_goes 4 = .ok (.iload_n 1, 1) := by decide +kernel
theorem dX2_goes_5 : decode cX2_goes 5 = .ok (.iaload, 1) := by decide +kernel
theorem dX2_goes_6 : decode cX2_goes 6 = .ok (.istore_n 3, 1) := by decide +kernel
theorem dX2_goes_7 : decode cX2_goes 7 = .ok (.aload_n 0, 1) := by decide +kernel
theorem dX2_goes_8 : decode cX2_goes 8 = .ok (.getfield 16, 3) := by decide +kernel
theorem dX2_goes_11 : decode cX2_goes 11 = .ok (.iload_n 1, 1) := by decide +kernel
theorem dX2_goes_12 : decode cX2_goes 12 = .ok (.iaload, 1) := by decide +kernel
theorem dX2_goes_13 : decode cX2_goes 13 = .ok (.tableswitch 102 1 5 #[35, 37, 39, 69, 71], 35) := by decide +kernel
theorem dX2_goes_48 : decode cX2_goes 48 = .ok (.iconst (-1), 1) := by decide +kernel
theorem dX2_goes_49 : decode cX2_goes 49 = .ok (.ireturn, 1) := by decide +kernel
theorem dX2_goes_50 : decode cX2_goes 50 = .ok (.iconst 1, 1) := by decide +kernel
theorem dX2_goes_51 : decode cX2_goes 51 = .ok (.ireturn, 1) := by decide +kernel
theorem dX2_goes_52 : decode cX2_goes 52 = .ok (.aload_n 0, 1) := by decide +kernel
theorem dX2_goes_53 : decode cX2_goes 53 = .ok (.getfield 26, 3) := by decide +kernel
theorem dX2_goes_56 : decode cX2_goes 56 = .ok (.iload_n 1, 1) := by decide +kernel
theorem dX2_goes_57 : decode cX2_goes 57 = .ok (.iconst 1, 1) := by decide +kernel
theorem dX2_goes_58 : decode cX2_goes 58 = .ok (.iload_n 3, 1) := by decide +kernel
theorem dX2_goes_59 : decode cX2_goes 59 = .ok (.isub, 1) := by decide +kernel
theorem dX2_goes_60 : decode cX2_goes 60 = .ok (.iastore, 1) := by decide +kernel
theorem dX2_goes_61 : decode cX2_goes 61 = .ok (.aload_n 0, 1) := by decide +kernel
theorem dX2_goes_62 : decode cX2_goes 62 = .ok (.dup, 1) := by decide +kernel
theorem dX2_goes_63 : decode cX2_goes 63 = .ok (.getfield 55, 3) := by decide +kernel
theorem dX2_goes_66 : decode cX2_goes 66 = .ok (.iconst 1, 1) := by decide +kernel
theorem dX2_goes_67 : decode cX2_goes 67 = .ok (.iadd, 1) := by decide +kernel
theorem dX2_goes_68 : decode cX2_goes 68 = .ok (.putfield 55, 3) := by decide +kernel
theorem dX2_goes_71 : decode cX2_goes 71 = .ok (.iload_n 3, 1) := by decide +kernel
theorem dX2_goes_72 : decode cX2_goes 72 = .ok (.iconst 1, 1) := by decide +kernel
theorem dX2_goes_73 : decode cX2_goes 73 = .ok (.if_icmp .ne 7, 3) := by decide +kernel
theorem dX2_goes_76 : decode cX2_goes 76 = .ok (.iconst 1, 1) := by decide +kernel
theorem dX2_goes_77 : decode cX2_goes 77 = .ok (.goto 4, 3) := by decide +kernel
theorem dX2_goes_80 : decode cX2_goes 80 = .ok (.iconst (-1), 1) := by decide +kernel
theorem dX2_goes_81 : decode cX2_goes 81 = .ok (.ireturn, 1) := by decide +kernel
theorem dX2_goes_82 : decode cX2_goes 82 = .ok (.iload_n 2, 1) := by decide +kernel
theorem dX2_goes_83 : decode cX2_goes 83 = .ok (.ireturn, 1) := by decide +kernel
theorem dX2_goes_84 : decode cX2_goes 84 = .ok (.aload_n 0, 1) := by decide +kernel
theorem dX2_goes_85 : decode cX2_goes 85 = .ok (.getfield 26, 3) := by decide +kernel
theorem dX2_goes_88 : decode cX2_goes 88 = .ok (.iload_n 1, 1) := by decide +kernel
theorem dX2_goes_89 : decode cX2_goes 89 = .ok (.iload_n 3, 1) := by decide +kernel
theorem dX2_goes_90 : decode cX2_goes 90 = .ok (.iconst 1, 1) := by decide +kernel
theorem dX2_goes_91 : decode cX2_goes 91 = .ok (.iadd, 1) := by decide +kernel
theorem dX2_goes_92 : decode cX2_goes 92 = .ok (.aload_n 0, 1) := by decide +kernel
theorem dX2_goes_93 : decode cX2_goes 93 = .ok (.getfield 20, 3) := by decide +kernel
theorem dX2_goes_96 : decode cX2_goes 96 = .ok (.iload_n 1, 1) := by decide +kernel
theorem dX2_goes_97 : decode cX2_goes 97 = .ok (.iaload, 1) := by decide +kernel
theorem dX2_goes_98 : decode cX2_goes 98 = .ok (.irem, 1) := by decide +kernel
theorem dX2_goes_99 : decode cX2_goes 99 = .ok (.iastore, 1) := by decide +kernel
theorem dX2_goes_100 : decode cX2_goes 100 = .ok (.aload_n 0, 1) := by decide +kernel
theorem dX2_goes_101 : decode cX2_goes 101 = .ok (.getfield 26, 3) := by decide +kernel
theorem dX2_goes_104 : decode cX2_goes 104 = .ok (.iload_n 1, 1) := by decide +kernel
theorem dX2_goes_105 : decode cX2_goes 105 = .ok (.iaload, 1) := by decide +kernel
theorem dX2_goes_106 : decode cX2_goes 106 = .ok (.ifCond .ne 7, 3) := by decide +kernel
theorem dX2_goes_109 : decode cX2_goes 109 = .ok (.iconst 1, 1) := by decide +kernel
theorem dX2_goes_110 : decode cX2_goes 110 = .ok (.goto 4, 3) := by decide +kernel
theorem dX2_goes_113 : decode cX2_goes 113 = .ok (.iconst (-1), 1) := by decide +kernel
theorem dX2_goes_114 : decode cX2_goes 114 = .ok (.ireturn, 1) := by decide +kernel
theorem dX2_goes_115 : decode cX2_goes 115 = .ok (.iconst 0, 1) := by decide +kernel
theorem dX2_goes_116 : decode cX2_goes 116 = .ok (.ireturn, 1) := by decide +kernel
set_option maxRecDepth 20000 in
theorem ggX2_fall_X2_goes : GoodIn wsX2_fall wsX2_goes := goodIn_r _ [9, 4, 10, 1, 11, 20, 21, 22, 23, 24, 25, 26, 27, 28, 29] (by decide +kernel) (by decide +kernel)
set_option maxRecDepth 20000 in
theorem gX2_fall_X2_goes : GoodIn wsX2_fall (wsV RX2 58 RX2 yX2_goes wsX2_goes) := goodIn_app (goodIn_of _ (by decide +kernel)) ggX2_fall_X2_goes
set_option maxRecDepth 20000 in
theorem ggX2_fall_X2_isColumn : GoodIn wsX2_fall wsX2_isColumn := goodIn_r _ [15, 16, 17, 18, 8, 19, 20, 21, 22, 23, 24, 25, 26, 27, 28, 29] (by decide +kernel) (by decide +kernel)
set_option maxRecDepth 20000 in
theorem gX2_fall_X2_isColumn : GoodIn wsX2_fall (wsV RX2 46 RX2 yX2_isColumn wsX2_isColumn) := goodIn_app (goodIn_of _ (by decide +kernel)) ggX2_fall_X2_isColumn
theorem dX2_fall_0 : decode cX2_fall 0 = .ok (.iload_n 1, 1) := by decide +kernel
theorem dX2_fall_1 : decode cX2_fall 1 = .ok (.istore_n 2, 1) := by decide +kernel
theorem dX2_fall_2 : decode cX2_fall 2 = .ok (.iconst 0, 1) := by decide +kernel
theorem dX2_fall_3 : decode cX2_fall 3 = .ok (.istore_n 3, 1) := by decide +kernel
theorem dX2_fall_4 : decode cX2_fall 4 = .ok (.aload_n 0, 1) := by decide +kernel
theorem dX2_fall_5 : decode cX2_fall 5 = .ok (.iconst 0, 1) := by decide +kernel
theorem dX2_fall_6 : decode cX2_fall 6 = .ok (.putfield 55, 3) := by decide +kernel
theorem dX2_fall_9 : decode cX2_fall 9 = .ok (.iconst 0, 1) := by decide +kernel
theorem dX2_fall_10 : decode cX2_fall 10 = .ok (.istore 4, 2) := by decide +kernel
theorem dX2_fall_12 : decode cX2_fall 12 = .ok (.iload 4, 2) := by decide +kernel
theorem dX2_fall_14 : decode cX2_fall 14 = .ok (.bipush 8, 2) := by decide +kernel
theorem dX2_fall_16 : decode cX2_fall 16 = .ok (.if_icmp .ge 17, 3) := by decide +kernel
theorem dX2_fall_19 : decode cX2_fall 19 = .ok (.aload_n 0, 1) := by decide +kernel
theorem dX2_fall_20 : decode cX2_fall 20 = .ok (.getfield 32, 3) := by decide +kernel
theorem dX2_fall_23 : decode cX2_fall 23 = .ok (.iload 4, 2) := by decide +kernel
theorem dX2_fall_25 : decode cX2_fall 25 = .ok (.iconst (-1), 1) := by decide +kernel
theorem dX2_fall_26 : decode cX2_fall 26 = .ok (.iastore, 1) := by decide +kernel
theorem dX2_fall_27 : decode cX2_fall 27 = .ok (.iinc 4 1, 3) := by decide +kernel
theorem dX2_fall_30 : decode cX2_fall 30 = .ok (.goto (-18), 3) := by decide +kernel
theorem dX2_fall_33 : decode cX2_fall 33 = .ok (.iconst 0, 1) := by decide +kernel
theorem dX2_fall_34 : decode cX2_fall 34 = .ok (.istore 4, 2) := by decide +kernel
theorem dX2_fall_36 : decode cX2_fall 36 = .ok (.iload 4, 2) := by decide +kernel
theorem dX2_fall_38 : decode cX2_fall 38 = .ok (.aload_n 0, 1) := by decide +kernel
theorem dX2_fall_39 : decode cX2_fall 39 = .ok (.getfield 13, 3) := by decide +kernel
theorem dX2_fall_42 : decode cX2_fall 42 = .ok (.if_icmp .ge 58, 3) := by decide +kernel
theorem dX2_fall_45 : decode cX2_fall 45 = .ok (.aload_n 0, 1) := by decide +kernel
theorem dX2_fall_46 : decode cX2_fall 46 = .ok (.getfield 32, 3) := by decide +kernel
theorem dX2_fall_49 : decode cX2_fall 49 = .ok (.iload 4, 2) := by decide +kernel
theorem dX2_fall_51 : decode cX2_fall 51 = .ok (.iload_n 2, 1) := by decide +kernel
theorem dX2_fall_52 : decode cX2_fall 52 = .ok (.iastore, 1) := by decide +kernel
theorem dX2_fall_53 : decode cX2_fall 53 = .ok (.aload_n 0, 1) := by decide +kernel
theorem dX2_fall_54 : decode cX2_fall 54 = .ok (.bipush 9, 2) := by decide +kernel
theorem dX2_fall_56 : decode cX2_fall 56 = .ok (.iload 4, 2) := by decide +kernel
theorem dX2_fall_58 : decode cX2_fall 58 = .ok (.imul, 1) := by decide +kernel
theorem dX2_fall_59 : decode cX2_fall 59 = .ok (.iload_n 2, 1) := by decide +kernel
theorem dX2_fall_60 : decode cX2_fall 60 = .ok (.iadd, 1) := by decide +kernel
theorem dX2_fall_61 : decode cX2_fall 61 = .ok (.iload_n 3, 1) := by decide +kernel
theorem dX2_fall_62 : decode cX2_fall 62 = .ok (.invokevirtual 58, 3) := by decide +kernel
theorem dX2_fall_65 : decode cX2_fall 65 = .ok (.istore_n 3, 1) := by decide +kernel
theorem dX2_fall_66 : decode cX2_fall 66 = .ok (.iload_n 2, 1) := by decide +kernel
theorem dX2_fall_67 : decode cX2_fall 67 = .ok (.iload_n 3, 1) := by decide +kernel
theorem dX2_fall_68 : decode cX2_fall 68 = .ok (.iadd, 1) := by decide +kernel
theorem dX2_fall_69 : decode cX2_fall 69 = .ok (.istore_n 2, 1) := by decide +kernel
theorem dX2_fall_70 : decode cX2_fall 70 = .ok (.aload_n 0, 1) := by decide +kernel
theorem dX2_fall_71 : decode cX2_fall 71 = .ok (.iload_n 2, 1) := by decide +kernel
theorem dX2_fall_72 : decode cX2_fall 72 = .ok (.invokevirtual 46, 3) := by decide +kernel
theorem dX2_fall_75 : decode cX2_fall 75 = .ok (.ifCond .eq 6, 3) := by decide +kernel
theorem dX2_fall_78 : decode cX2_fall 78 = .ok (.goto 16, 3) := by decide +kernel
theorem dX2_fall_81 : decode cX2_fall 81 = .ok (.aload_n 0, 1) := by decide +kernel
theorem dX2_fall_82 : decode cX2_fall 82 = .ok (.getfield 26, 3) := by decide +kernel
theorem dX2_fall_85 : decode cX2_fall 85 = .ok (.bipush 83, 2) := by decide +kernel
theorem dX2_fall_87 : decode cX2_fall 87 = .ok (.dup2, 1) := by decide +kernel
theorem dX2_fall_88 : decode cX2_fall 88 = .ok (.iaload, 1) := by decide +kernel
theorem dX2_fall_89 : decode cX2_fall 89 = .ok (.iconst 1, 1) := by decide +kernel
theorem dX2_fall_90 : decode cX2_fall 90 = .ok (.iadd, 1) := by decide +kernel
theorem dX2_fall_91 : decode cX2_fall 91 = .ok (.iastore, 1) := by decide +kernel
theorem dX2_fall_92 : decode cX2_fall 92 = .ok (.iconst (-1), 1) := by decide +kernel
theorem dX2_fall_93 : decode cX2_fall 93 = .ok (.ireturn, 1) := by decide +kernel
theorem dX2_fall_94 : decode cX2_fall 94 = .ok (.iinc 4 1, 3) := by decide +kernel
theorem dX2_fall_97 : decode cX2_fall 97 = .ok (.goto (-61), 3) := by decide +kernel
theorem dX2_fall_100 : decode cX2_fall 100 = .ok (.aload_n 0, 1) := by decide +kernel
theorem dX2_fall_101 : decode cX2_fall 101 = .ok (.getfield 26, 3) := by decide +kernel
theorem dX2_fall_104 : decode cX2_fall 104 = .ok (.bipush 72, 2) := by decide +kernel
theorem dX2_fall_106 : decode cX2_fall 106 = .ok (.iload_n 2, 1) := by decide +kernel
theorem dX2_fall_107 : decode cX2_fall 107 = .ok (.iadd, 1) := by decide +kernel
theorem dX2_fall_108 : decode cX2_fall 108 = .ok (.dup2, 1) := by decide +kernel
theorem dX2_fall_109 : decode cX2_fall 109 = .ok (.iaload, 1) := by decide +kernel
theorem dX2_fall_110 : decode cX2_fall 110 = .ok (.iconst 1, 1) := by decide +kernel
theorem dX2_fall_111 : decode cX2_fall 111 = .ok (.iadd, 1) := by decide +kernel
theorem dX2_fall_112 : decode cX2_fall 112 = .ok (.iastore, 1) := by decide +kernel
theorem dX2_fall_113 : decode cX2_fall 113 = .ok (.iload_n 2, 1) := by decide +kernel
theorem dX2_fall_114 : decode cX2_fall 114 = .ok (.ireturn, 1) := by decide +kernel
set_option maxRecDepth 20000 in
theorem ggX2_runFrom_X2_fall : GoodIn wsX2_runFrom wsX2_fall := goodIn_r _ [8, 9, 10, 11, 1, 12, 13, 14, 7, 15, 16, 17, 18, 19, 20, 21, 3, 22, 23, 24, 29, 30, 31, 32, 33, 34, 35, 36, 37, 38] (by decide +kernel) (by decide +kernel)
set_option maxRecDepth 20000 in
theorem gX2_runFrom_X2_fall : GoodIn wsX2_runFrom (wsV RX2 62 RX2 yX2_fall wsX2_fall) := goodIn_app (goodIn_of _ (by decide +kernel)) ggX2_runFrom_X2_fall
set_option maxRecDepth 20000 in
theorem ggX2_runFrom_J6_signum_0f7a4 : GoodIn wsX2_runFrom wsJ6_signum_0f7a4 := goodIn_r _ [28] (by decide +kernel) (by decide +kernel)
set_option maxRecDepth 20000 in
theorem gX2_runFrom_J6_signum_0f7a4 : GoodIn wsX2_runFrom (va_wsS RX2 66 yJ6_signum_0f7a4 wsJ6_signum_0f7a4) := goodIn_app (goodIn_of _ (by decide +kernel)) ggX2_runFrom_J6_signum_0f7a4
theorem dX2_runFrom_0 : decode cX2_runFrom 0 = .ok (.iload_n 1, 1) := by decide +kernel
theorem dX2_runFrom_1 : decode cX2_runFrom 1 = .ok (.istore_n 3, 1) := by decide +kernel
theorem dX2_runFrom_2 : decode cX2_runFrom 2 = .ok (.iconst 0, 1) := by decide +kernel
theorem dX2_runFrom_3 : decode cX2_runFrom 3 = .ok (.istore 4, 2) := by decide +kernel
theorem dX2_runFrom_5 : decode cX2_runFrom 5 = .ok (.iload_n 3, 1) := by decide +kernel
theorem dX2_runFrom_6 : decode cX2_runFrom 6 = .ok (.ifCond .lt 93, 3) := by decide +kernel
theorem dX2_runFrom_9 : decode cX2_runFrom 9 = .ok (.iload 4, 2) := by decide +kernel
theorem dX2_runFrom_11 : decode cX2_runFrom 11 = .ok (.iload_n 2, 1) := by decide +kernel
theorem dX2_runFrom_12 : decode cX2_runFrom 12 = .ok (.if_icmp .ge 87, 3) := by decide +kernel
theorem dX2_runFrom_15 : decode cX2_runFrom 15 = .ok (.aload_n 0, 1) := by decide +kernel
theorem dX2_runFrom_16 : decode cX2_runFrom 16 = .ok (.getfield 26, 3) := by decide +kernel
theorem dX2_runFrom_19 : decode cX2_runFrom 19 = .ok (.bipush 81, 2) := by decide +kernel
theorem dX2_runFrom_21 : decode cX2_runFrom 21 = .ok (.iload_n 3, 1) := by decide +kernel
theorem dX2_runFrom_22 : decode cX2_runFrom 22 = .ok (.iadd, 1) := by decide +kernel
theorem dX2_runFrom_23 : decode cX2_runFrom 23 = .ok (.iaload, 1) := by decide +kernel
theorem dX2_runFrom_24 : decode cX2_runFrom 24 = .ok (.ifCond .le 75, 3) := by decide +kernel
theorem dX2_runFrom_27 : decode cX2_runFrom 27 = .ok (.aload_n 0, 1) := by decide +kernel
theorem dX2_runFrom_28 : decode cX2_runFrom 28 = .ok (.getfield 26, 3) := by decide +kernel
theorem dX2_runFrom_31 : decode cX2_runFrom 31 = .ok (.bipush 81, 2) := by decide +kernel
theorem dX2_runFrom_33 : decode cX2_runFrom 33 = .ok (.iload_n 3, 1) := by decide +kernel
theorem dX2_runFrom_34 : decode cX2_runFrom 34 = .ok (.iadd, 1) := by decide +kernel
theorem dX2_runFrom_35 : decode cX2_runFrom 35 = .ok (.dup2, 1) := by decide +kernel
theorem dX2_runFrom_36 : decode cX2_runFrom 36 = .ok (.iaload, 1) := by decide +kernel
theorem dX2_runFrom_37 : decode cX2_runFrom 37 = .ok (.iconst 1, 1) := by decide +kernel
theorem dX2_runFrom_38 : decode cX2_runFrom 38 = .ok (.isub, 1) := by decide +kernel
theorem dX2_runFrom_39 : decode cX2_runFrom 39 = .ok (.iastore, 1) := by decide +kernel
theorem dX2_runFrom_40 : decode cX2_runFrom 40 = .ok (.iinc 4 1, 3) := by decide +kernel
theorem dX2_runFrom_43 : decode cX2_runFrom 43 = .ok (.aload_n 0, 1) := by decide +kernel
theorem dX2_runFrom_44 : decode cX2_runFrom 44 = .ok (.aload_n 0, 1) := by decide +kernel
theorem dX2_runFrom_45 : decode cX2_runFrom 45 = .ok (.getfield 23, 3) := by decide +kernel
theorem dX2_runFrom_48 : decode cX2_runFrom 48 = .ok (.iload_n 3, 1) := by decide +kernel
theorem dX2_runFrom_49 : decode cX2_runFrom 49 = .ok (.iaload, 1) := by decide +kernel
theorem dX2_runFrom_50 : decode cX2_runFrom 50 = .ok (.invokevirtual 62, 3) := by decide +kernel
theorem dX2_runFrom_53 : decode cX2_runFrom 53 = .ok (.istore 5, 2) := by decide +kernel
theorem dX2_runFrom_55 : decode cX2_runFrom 55 = .ok (.iconst 2, 1) := by decide +kernel
theorem dX2_runFrom_56 : decode cX2_runFrom 56 = .ok (.iload 5, 2) := by decide +kernel
theorem dX2_runFrom_58 : decode cX2_runFrom 58 = .ok (.imul, 1) := by decide +kernel
theorem dX2_runFrom_59 : decode cX2_runFrom 59 = .ok (.aload_n 0, 1) := by decide +kernel
theorem dX2_runFrom_60 : decode cX2_runFrom 60 = .ok (.getfield 9, 3) := by decide +kernel
theorem dX2_runFrom_63 : decode cX2_runFrom 63 = .ok (.isub, 1) := by decide +kernel
theorem dX2_runFrom_64 : decode cX2_runFrom 64 = .ok (.iconst 1, 1) := by decide +kernel
theorem dX2_runFrom_65 : decode cX2_runFrom 65 = .ok (.iadd, 1) := by decide +kernel
theorem dX2_runFrom_66 : decode cX2_runFrom 66 = .ok (.invokestatic 66, 3) := by decide +kernel
theorem dX2_runFrom_69 : decode cX2_runFrom 69 = .ok (.istore 6, 2) := by decide +kernel
theorem dX2_runFrom_71 : decode cX2_runFrom 71 = .ok (.iload 5, 2) := by decide +kernel
theorem dX2_runFrom_73 : decode cX2_runFrom 73 = .ok (.ifCond .lt 8, 3) := by decide +kernel
theorem dX2_runFrom_76 : decode cX2_runFrom 76 = .ok (.iload 6, 2) := by decide +kernel
theorem dX2_runFrom_78 : decode cX2_runFrom 78 = .ok (.ifCond .ne 7, 3) := by decide +kernel
theorem dX2_runFrom_81 : decode cX2_runFrom 81 = .ok (.iconst (-1), 1) := by decide +kernel
theorem dX2_runFrom_82 : decode cX2_runFrom 82 = .ok (.goto 13, 3) := by decide +kernel
theorem dX2_runFrom_85 : decode cX2_runFrom 85 = .ok (.iload 6, 2) := by decide +kernel
theorem dX2_runFrom_87 : decode cX2_runFrom 87 = .ok (.ifCond .ge 7, 3) := by decide +kernel
theorem dX2_runFrom_90 : decode cX2_runFrom 90 = .ok (.iconst 0, 1) := by decide +kernel
theorem dX2_runFrom_91 : decode cX2_runFrom 91 = .ok (.goto 4, 3) := by decide +kernel
theorem dX2_runFrom_94 : decode cX2_runFrom 94 = .ok (.iconst 1, 1) := by decide +kernel
theorem dX2_runFrom_95 : decode cX2_runFrom 95 = .ok (.istore_n 3, 1) := by decide +kernel
theorem dX2_runFrom_96 : decode cX2_runFrom 96 = .ok (.goto (-91), 3) := by decide +kernel
theorem dX2_runFrom_99 : decode cX2_runFrom 99 = .ok (.iload 4, 2) := by decide +kernel
theorem dX2_runFrom_101 : decode cX2_runFrom 101 = .ok (.ireturn, 1) := by decide +kernel
set_option maxRecDepth 20000 in
theorem ggX2_lay_X2_isFrom : GoodIn wsX2_lay wsX2_isFrom := goodIn_r _ [10] (by decide +kernel) (by decide +kernel)
set_option maxRecDepth 20000 in
theorem gX2_lay_X2_isFrom : GoodIn wsX2_lay (va_wsS RX2 38 yX2_isFrom wsX2_isFrom) := goodIn_app (goodIn_of _ (by decide +kernel)) ggX2_lay_X2_isFrom
set_option maxRecDepth 20000 in
theorem ggX2_lay_X2_no : GoodIn wsX2_lay wsX2_no := goodIn_r _ [14, 1, 15, 16, 17, 18, 19, 20, 21, 22, 23, 24] (by decide +kernel) (by decide +kernel)
set_option maxRecDepth 20000 in
theorem gX2_lay_X2_no : GoodIn wsX2_lay (wsV RX2 71 RX2 yX2_no wsX2_no) := goodIn_app (goodIn_of _ (by decide +kernel)) ggX2_lay_X2_no
theorem dX2_lay_0 : decode cX2_lay 0 = .ok (.aload_n 0, 1) := by decide +kernel
theorem dX2_lay_1 : decode cX2_lay 1 = .ok (.iconst 0, 1) := by decide +kernel
theorem dX2_lay_2 : decode cX2_lay 2 = .ok (.putfield 35, 3) := by decide +kernel
theorem dX2_lay_5 : decode cX2_lay 5 = .ok (.iload_n 1, 1) := by decide +kernel
theorem dX2_lay_6 : decode cX2_lay 6 = .ok (.iconst 2, 1) := by decide +kernel
theorem dX2_lay_7 : decode cX2_lay 7 = .ok (.bipush 9, 2) := by decide +kernel
theorem dX2_lay_9 : decode cX2_lay 9 = .ok (.invokestatic 38, 3) := by decide +kernel
theorem dX2_lay_12 : decode cX2_lay 12 = .ok (.ifCond .eq 13, 3) := by decide +kernel
theorem dX2_lay_15 : decode cX2_lay 15 = .ok (.iload_n 2, 1) := by decide +kernel
theorem dX2_lay_16 : decode cX2_lay 16 = .ok (.iconst 1, 1) := by decide +kernel
theorem dX2_lay_17 : decode cX2_lay 17 = .ok (.bipush 8, 2) := by decide +kernel
theorem dX2_lay_19 : decode cX2_lay 19 = .ok (.invokestatic 38, 3) := by decide +kernel
theorem dX2_lay_22 : decode cX2_lay 22 = .ok (.ifCond .ne 9, 3) := by decide +kernel
theorem dX2_lay_25 : decode cX2_lay 25 = .ok (.aload_n 0, 1) := by decide +kernel
theorem dX2_lay_26 : decode cX2_lay 26 = .ok (.iconst 1, 1) := by decide +kernel
theorem dX2_lay_27 : decode cX2_lay 27 = .ok (.invokevirtual 71, 3) := by decide +kernel
theorem dX2_lay_30 : decode cX2_lay 30 = .ok (.ireturn, 1) := by decide +kernel
theorem dX2_lay_31 : decode cX2_lay 31 = .ok (.aload_n 0, 1) := by decide +kernel
theorem dX2_lay_32 : decode cX2_lay 32 = .ok (.iload_n 1, 1) := by decide +kernel
theorem dX2_lay_33 : decode cX2_lay 33 = .ok (.putfield 9, 3) := by decide +kernel
theorem dX2_lay_36 : decode cX2_lay 36 = .ok (.aload_n 0, 1) := by decide +kernel
theorem dX2_lay_37 : decode cX2_lay 37 = .ok (.iload_n 2, 1) := by decide +kernel
theorem dX2_lay_38 : decode cX2_lay 38 = .ok (.putfield 13, 3) := by decide +kernel
theorem dX2_lay_41 : decode cX2_lay 41 = .ok (.iconst 0, 1) := by decide +kernel
theorem dX2_lay_42 : decode cX2_lay 42 = .ok (.istore_n 3, 1) := by decide +kernel
theorem dX2_lay_43 : decode cX2_lay 43 = .ok (.iload_n 3, 1) := by decide +kernel
theorem dX2_lay_44 : decode cX2_lay 44 = .ok (.bipush 72, 2) := by decide +kernel
theorem dX2_lay_46 : decode cX2_lay 46 = .ok (.if_icmp .ge 23, 3) := by decide +kernel
theorem dX2_lay_49 : decode cX2_lay 49 = .ok (.aload_n 0, 1) := by decide +kernel
theorem dX2_lay_50 : decode cX2_lay 50 = .ok (.getfield 16, 3) := by decide +kernel
theorem dX2_lay_53 : decode cX2_lay 53 = .ok (.iload_n 3, 1) := by decide +kernel
theorem dX2_lay_54 : decode cX2_lay 54 = .ok (.iconst 0, 1) := by decide +kernel
theorem dX2_lay_55 : decode cX2_lay 55 = .ok (.iastore, 1) := by decide +kernel
theorem dX2_lay_56 : decode cX2_lay 56 = .ok (.aload_n 0, 1) := by decide +kernel
theorem dX2_lay_57 : decode cX2_lay 57 = .ok (.getfield 26, 3) := by decide +kernel
theorem dX2_lay_60 : decode cX2_lay 60 = .ok (.iload_n 3, 1) := by decide +kernel
theorem dX2_lay_61 : decode cX2_lay 61 = .ok (.iconst 0, 1) := by decide +kernel
theorem dX2_lay_62 : decode cX2_lay 62 = .ok (.iastore, 1) := by decide +kernel
theorem dX2_lay_63 : decode cX2_lay 63 = .ok (.iinc 3 1, 3) := by decide +kernel
theorem dX2_lay_66 : decode cX2_lay 66 = .ok (.goto (-23), 3) := by decide +kernel
theorem dX2_lay_69 : decode cX2_lay 69 = .ok (.iconst 0, 1) := by decide +kernel
theorem dX2_lay_70 : decode cX2_lay 70 = .ok (.istore_n 3, 1) := by decide +kernel
theorem dX2_lay_71 : decode cX2_lay 71 = .ok (.iload_n 3, 1) := by decide +kernel
theorem dX2_lay_72 : decode cX2_lay 72 = .ok (.bipush 9, 2) := by decide +kernel
theorem dX2_lay_74 : decode cX2_lay 74 = .ok (.if_icmp .ge 19, 3) := by decide +kernel
theorem dX2_lay_77 : decode cX2_lay 77 = .ok (.aload_n 0, 1) := by decide +kernel
theorem dX2_lay_78 : decode cX2_lay 78 = .ok (.getfield 26, 3) := by decide +kernel
theorem dX2_lay_81 : decode cX2_lay 81 = .ok (.bipush 72, 2) := by decide +kernel
theorem dX2_lay_83 : decode cX2_lay 83 = .ok (.iload_n 3, 1) := by decide +kernel
theorem dX2_lay_84 : decode cX2_lay 84 = .ok (.iadd, 1) := by decide +kernel
theorem dX2_lay_85 : decode cX2_lay 85 = .ok (.iconst 0, 1) := by decide +kernel
theorem dX2_lay_86 : decode cX2_lay 86 = .ok (.iastore, 1) := by decide +kernel
theorem dX2_lay_87 : decode cX2_lay 87 = .ok (.iinc 3 1, 3) := by decide +kernel
theorem dX2_lay_90 : decode cX2_lay 90 = .ok (.goto (-19), 3) := by decide +kernel
theorem dX2_lay_93 : decode cX2_lay 93 = .ok (.aload_n 0, 1) := by decide +kernel
theorem dX2_lay_94 : decode cX2_lay 94 = .ok (.getfield 26, 3) := by decide +kernel
theorem dX2_lay_97 : decode cX2_lay 97 = .ok (.bipush 83, 2) := by decide +kernel
theorem dX2_lay_99 : decode cX2_lay 99 = .ok (.iconst 0, 1) := by decide +kernel
theorem dX2_lay_100 : decode cX2_lay 100 = .ok (.iastore, 1) := by decide +kernel
theorem dX2_lay_101 : decode cX2_lay 101 = .ok (.aload_n 0, 1) := by decide +kernel
theorem dX2_lay_102 : decode cX2_lay 102 = .ok (.getfield 23, 3) := by decide +kernel
theorem dX2_lay_105 : decode cX2_lay 105 = .ok (.iconst 0, 1) := by decide +kernel
theorem dX2_lay_106 : decode cX2_lay 106 = .ok (.iconst 0, 1) := by decide +kernel
theorem dX2_lay_107 : decode cX2_lay 107 = .ok (.iastore, 1) := by decide +kernel
theorem dX2_lay_108 : decode cX2_lay 108 = .ok (.aload_n 0, 1) := by decide +kernel
theorem dX2_lay_109 : decode cX2_lay 109 = .ok (.getfield 23, 3) := by decide +kernel
theorem dX2_lay_112 : decode cX2_lay 112 = .ok (.iconst 1, 1) := by decide +kernel
theorem dX2_lay_113 : decode cX2_lay 113 = .ok (.iload_n 1, 1) := by decide +kernel
theorem dX2_lay_114 : decode cX2_lay 114 = .ok (.iconst 1, 1) := by decide +kernel
theorem dX2_lay_115 : decode cX2_lay 115 = .ok (.isub, 1) := by decide +kernel
theorem dX2_lay_116 : decode cX2_lay 116 = .ok (.iastore, 1) := by decide +kernel
theorem dX2_lay_117 : decode cX2_lay 117 = .ok (.iload_n 1, 1) := by decide +kernel
theorem dX2_lay_118 : decode cX2_lay 118 = .ok (.iload_n 2, 1) := by decide +kernel
theorem dX2_lay_119 : decode cX2_lay 119 = .ok (.imul, 1) := by decide +kernel
theorem dX2_lay_120 : decode cX2_lay 120 = .ok (.ireturn, 1) := by decide +kernel
theorem dX2_placed_0 : decode cX2_placed 0 = .ok (.bipush 9, 2) := by decide +kernel
theorem dX2_placed_2 : decode cX2_placed 2 = .ok (.iload_n 1, 1) := by decide +kernel
theorem dX2_placed_3 : decode cX2_placed 3 = .ok (.imul, 1) := by decide +kernel
theorem dX2_placed_4 : decode cX2_placed 4 = .ok (.iload_n 2, 1) := by decide +kernel
theorem dX2_placed_5 : decode cX2_placed 5 = .ok (.iadd, 1) := by decide +kernel
theorem dX2_placed_6 : decode cX2_placed 6 = .ok (.istore 4, 2) := by decide +kernel
theorem dX2_placed_8 : decode cX2_placed 8 = .ok (.aload_n 0, 1) := by decide +kernel
theorem dX2_placed_9 : decode cX2_placed 9 = .ok (.getfield 16, 3) := by decide +kernel
theorem dX2_placed_12 : decode cX2_placed 12 = .ok (.iload 4, 2) := by decide +kernel
theorem dX2_placed_14 : decode cX2_placed 14 = .ok (.iaload, 1) := by decide +kernel
theorem dX2_placed_15 : decode cX2_placed 15 = .ok (.istore 5, 2) := by decide +kernel
theorem dX2_placed_17 : decode cX2_placed 17 = .ok (.aload_n 0, 1) := by decide +kernel
theorem dX2_placed_18 : decode cX2_placed 18 = .ok (.getfield 16, 3) := by decide +kernel
theorem dX2_placed_21 : decode cX2_placed 21 = .ok (.iload 4, 2) := by decide +kernel
theorem dX2_placed_23 : decode cX2_placed 23 = .ok (.iload_n 3, 1) := by decide +kernel
theorem dX2_placed_24 : decode cX2_placed 24 = .ok (.iastore, 1) := by decide +kernel
theorem dX2_placed_25 : decode cX2_placed 25 = .ok (.aload_n 0, 1) := by decide +kernel
theorem dX2_placed_26 : decode cX2_placed 26 = .ok (.getfield 26, 3) := by decide +kernel
theorem dX2_placed_29 : decode cX2_placed 29 = .ok (.iload 4, 2) := by decide +kernel
theorem dX2_placed_31 : decode cX2_placed 31 = .ok (.iconst 0, 1) := by decide +kernel
theorem dX2_placed_32 : decode cX2_placed 32 = .ok (.iastore, 1) := by decide +kernel
theorem dX2_placed_33 : decode cX2_placed 33 = .ok (.iload 5, 2) := by decide +kernel
theorem dX2_placed_35 : decode cX2_placed 35 = .ok (.ireturn, 1) := by decide +kernel
set_option maxRecDepth 20000 in
theorem ggX2_put_X2_isPlace : GoodIn wsX2_put wsX2_isPlace := goodIn_r _ [6, 7, 8, 9, 5, 10, 11, 12, 13, 14, 15, 16, 17, 18, 19, 30, 31, 32, 33, 34, 35, 36, 37, 38, 39] (by decide +kernel) (by decide +kernel)
set_option maxRecDepth 20000 in
theorem gX2_put_X2_isPlace : GoodIn wsX2_put (wsV RX2 74 RX2 yX2_isPlace wsX2_isPlace) := goodIn_app (goodIn_of _ (by decide +kernel)) ggX2_put_X2_isPlace
set_option maxRecDepth 20000 in
theorem ggX2_put_X2_no : GoodIn wsX2_put wsX2_no := goodIn_r _ [23, 1, 30, 31, 32, 33, 34, 35, 36, 37, 38, 39] (by decide +kernel) (by decide +kernel)
set_option maxRecDepth 20000 in
theorem gX2_put_X2_no : GoodIn wsX2_put (wsV RX2 71 RX2 yX2_no wsX2_no) := goodIn_app (goodIn_of _ (by decide +kernel)) ggX2_put_X2_no
set_option maxRecDepth 20000 in
theorem ggX2_put_X2_isFrom : GoodIn wsX2_put wsX2_isFrom := goodIn_r _ [14] (by decide +kernel) (by decide +kernel)
set_option maxRecDepth 20000 in
theorem gX2_put_X2_isFrom : GoodIn wsX2_put (va_wsS RX2 38 yX2_isFrom wsX2_isFrom) := goodIn_app (goodIn_of _ (by decide +kernel)) ggX2_put_X2_isFrom
set_option maxRecDepth 20000 in
theorem ggX2_put_X2_placed : GoodIn wsX2_put wsX2_placed := goodIn_r _ [27, 28, 29, 30, 31, 32, 33, 34, 35, 36, 37, 38, 39] (by decide +kernel) (by decide +kernel)
set_option maxRecDepth 20000 in
theorem gX2_put_X2_placed : GoodIn wsX2_put (wsV RX2 78 RX2 yX2_placed wsX2_placed) := goodIn_app (goodIn_of _ (by decide +kernel)) ggX2_put_X2_placed
theorem dX2_put_0 : decode cX2_put 0 = .ok (.aload_n 0, 1) := by decide +kernel
theorem dX2_put_1 : decode cX2_put 1 = .ok (.iconst 0, 1) := by decide +kernel
theorem dX2_put_2 : decode cX2_put 2 = .ok (.putfield 35, 3) := by decide +kernel
theorem dX2_put_5 : decode cX2_put 5 = .ok (.aload_n 0, 1) := by decide +kernel
theorem dX2_put_6 : decode cX2_put 6 = .ok (.iload_n 1, 1) := by decide +kernel
theorem dX2_put_7 : decode cX2_put 7 = .ok (.iload_n 2, 1) := by decide +kernel
theorem dX2_put_8 : decode cX2_put 8 = .ok (.invokevirtual 74, 3) := by decide +kernel
theorem dX2_put_11 : decode cX2_put 11 = .ok (.ifCond .ne 9, 3) := by decide +kernel
theorem dX2_put_14 : decode cX2_put 14 = .ok (.aload_n 0, 1) := by decide +kernel
theorem dX2_put_15 : decode cX2_put 15 = .ok (.iconst 1, 1) := by decide +kernel
theorem dX2_put_16 : decode cX2_put 16 = .ok (.invokevirtual 71, 3) := by decide +kernel
theorem dX2_put_19 : decode cX2_put 19 = .ok (.ireturn, 1) := by decide +kernel
theorem dX2_put_20 : decode cX2_put 20 = .ok (.iload_n 3, 1) := by decide +kernel
theorem dX2_put_21 : decode cX2_put 21 = .ok (.iconst 0, 1) := by decide +kernel
theorem dX2_put_22 : decode cX2_put 22 = .ok (.iconst 4, 1) := by decide +kernel
theorem dX2_put_23 : decode cX2_put 23 = .ok (.invokestatic 38, 3) := by decide +kernel
theorem dX2_put_26 : decode cX2_put 26 = .ok (.ifCond .eq 13, 3) := by decide +kernel
theorem dX2_put_29 : decode cX2_put 29 = .ok (.aload_n 0, 1) := by decide +kernel
theorem dX2_put_30 : decode cX2_put 30 = .ok (.iload_n 1, 1) := by decide +kernel
theorem dX2_put_31 : decode cX2_put 31 = .ok (.iload_n 2, 1) := by decide +kernel
theorem dX2_put_32 : decode cX2_put 32 = .ok (.iload_n 3, 1) := by decide +kernel
theorem dX2_put_33 : decode cX2_put 33 = .ok (.invokevirtual 78, 3) := by decide +kernel
theorem dX2_put_36 : decode cX2_put 36 = .ok (.goto 8, 3) := by decide +kernel
theorem dX2_put_39 : decode cX2_put 39 = .ok (.aload_n 0, 1) := by decide +kernel
theorem dX2_put_40 : decode cX2_put 40 = .ok (.iconst 2, 1) := by decide +kernel
theorem dX2_put_41 : decode cX2_put 41 = .ok (.invokevirtual 71, 3) := by decide +kernel
theorem dX2_put_44 : decode cX2_put 44 = .ok (.ireturn, 1) := by decide +kernel
set_option maxRecDepth 20000 in
theorem ggX2_putCounter_X2_isPlace : GoodIn wsX2_putCounter wsX2_isPlace := goodIn_r _ [7, 8, 9, 10, 6, 11, 12, 13, 14, 15, 16, 17, 18, 19, 20, 31, 32, 33, 34, 35, 36, 37, 38, 39, 40] (by decide +kernel) (by decide +kernel)
set_option maxRecDepth 20000 in
theorem gX2_putCounter_X2_isPlace : GoodIn wsX2_putCounter (wsV RX2 74 RX2 yX2_isPlace wsX2_isPlace) := goodIn_app (goodIn_of _ (by decide +kernel)) ggX2_putCounter_X2_isPlace
set_option maxRecDepth 20000 in
theorem ggX2_putCounter_X2_no : GoodIn wsX2_putCounter wsX2_no := goodIn_r _ [24, 1, 31, 32, 33, 34, 35, 36, 37, 38, 39, 40] (by decide +kernel) (by decide +kernel)
set_option maxRecDepth 20000 in
theorem gX2_putCounter_X2_no : GoodIn wsX2_putCounter (wsV RX2 71 RX2 yX2_no wsX2_no) := goodIn_app (goodIn_of _ (by decide +kernel)) ggX2_putCounter_X2_no
set_option maxRecDepth 20000 in
theorem ggX2_putCounter_X2_isFrom : GoodIn wsX2_putCounter wsX2_isFrom := goodIn_r _ [15] (by decide +kernel) (by decide +kernel)
set_option maxRecDepth 20000 in
theorem gX2_putCounter_X2_isFrom : GoodIn wsX2_putCounter (va_wsS RX2 38 yX2_isFrom wsX2_isFrom) := goodIn_app (goodIn_of _ (by decide +kernel)) ggX2_putCounter_X2_isFrom
set_option maxRecDepth 20000 in
theorem ggX2_putCounter_X2_placed : GoodIn wsX2_putCounter wsX2_placed := goodIn_r _ [28, 29, 30, 31, 32, 33, 34, 35, 36, 37, 38, 39, 40] (by decide +kernel) (by decide +kernel)
set_option maxRecDepth 20000 in
theorem gX2_putCounter_X2_placed : GoodIn wsX2_putCounter (wsV RX2 78 RX2 yX2_placed wsX2_placed) := goodIn_app (goodIn_of _ (by decide +kernel)) ggX2_putCounter_X2_placed
theorem dX2_putCounter_0 : decode cX2_putCounter 0 = .ok (.aload_n 0, 1) := by decide +kernel
theorem dX2_putCounter_1 : decode cX2_putCounter 1 = .ok (.iconst 0, 1) := by decide +kernel
theorem dX2_putCounter_2 : decode cX2_putCounter 2 = .ok (.putfield 35, 3) := by decide +kernel
theorem dX2_putCounter_5 : decode cX2_putCounter 5 = .ok (.aload_n 0, 1) := by decide +kernel
theorem dX2_putCounter_6 : decode cX2_putCounter 6 = .ok (.iload_n 1, 1) := by decide +kernel
theorem dX2_putCounter_7 : decode cX2_putCounter 7 = .ok (.iload_n 2, 1) := by decide +kernel
theorem dX2_putCounter_8 : decode cX2_putCounter 8 = .ok (.invokevirtual 74, 3) := by decide +kernel
theorem dX2_putCounter_11 : decode cX2_putCounter 11 = .ok (.ifCond .ne 9, 3) := by decide +kernel
theorem dX2_putCounter_14 : decode cX2_putCounter 14 = .ok (.aload_n 0, 1) := by decide +kernel
theorem dX2_putCounter_15 : decode cX2_putCounter 15 = .ok (.iconst 1, 1) := by decide +kernel
theorem dX2_putCounter_16 : decode cX2_putCounter 16 = .ok (.invokevirtual 71, 3) := by decide +kernel
theorem dX2_putCounter_19 : decode cX2_putCounter 19 = .ok (.ireturn, 1) := by decide +kernel
theorem dX2_putCounter_20 : decode cX2_putCounter 20 = .ok (.iload_n 3, 1) := by decide +kernel
theorem dX2_putCounter_21 : decode cX2_putCounter 21 = .ok (.iconst 2, 1) := by decide +kernel
theorem dX2_putCounter_22 : decode cX2_putCounter 22 = .ok (.bipush 9, 2) := by decide +kernel
theorem dX2_putCounter_24 : decode cX2_putCounter 24 = .ok (.invokestatic 38, 3) := by decide +kernel
theorem dX2_putCounter_27 : decode cX2_putCounter 27 = .ok (.ifCond .ne 9, 3) := by decide +kernel
theorem dX2_putCounter_30 : decode cX2_putCounter 30 = .ok (.aload_n 0, 1) := by decide +kernel
theorem dX2_putCounter_31 : decode cX2_putCounter 31 = .ok (.iconst 2, 1) := by decide +kernel
theorem dX2_putCounter_32 : decode cX2_putCounter 32 = .ok (.invokevirtual 71, 3) := by decide +kernel
theorem dX2_putCounter_35 : decode cX2_putCounter 35 = .ok (.ireturn, 1) := by decide +kernel
theorem dX2_putCounter_36 : decode cX2_putCounter 36 = .ok (.aload_n 0, 1) := by decide +kernel
theorem dX2_putCounter_37 : decode cX2_putCounter 37 = .ok (.getfield 20, 3) := by decide +kernel
theorem dX2_putCounter_40 : decode cX2_putCounter 40 = .ok (.bipush 9, 2) := by decide +kernel
theorem dX2_putCounter_42 : decode cX2_putCounter 42 = .ok (.iload_n 1, 1) := by decide +kernel
theorem dX2_putCounter_43 : decode cX2_putCounter 43 = .ok (.imul, 1) := by decide +kernel
theorem dX2_putCounter_44 : decode cX2_putCounter 44 = .ok (.iload_n 2, 1) := by decide +kernel
theorem dX2_putCounter_45 : decode cX2_putCounter 45 = .ok (.iadd, 1) := by decide +kernel
theorem dX2_putCounter_46 : decode cX2_putCounter 46 = .ok (.iload_n 3, 1) := by decide +kernel
theorem dX2_putCounter_47 : decode cX2_putCounter 47 = .ok (.iastore, 1) := by decide +kernel
theorem dX2_putCounter_48 : decode cX2_putCounter 48 = .ok (.aload_n 0, 1) := by decide +kernel
theorem dX2_putCounter_49 : decode cX2_putCounter 49 = .ok (.iload_n 1, 1) := by decide +kernel
theorem dX2_putCounter_50 : decode cX2_putCounter 50 = .ok (.iload_n 2, 1) := by decide +kernel
theorem dX2_putCounter_51 : decode cX2_putCounter 51 = .ok (.iconst 5, 1) := by decide +kernel
theorem dX2_putCounter_52 : decode cX2_putCounter 52 = .ok (.invokevirtual 78, 3) := by decide +kernel
theorem dX2_putCounter_55 : decode cX2_putCounter 55 = .ok (.ireturn, 1) := by decide +kernel
set_option maxRecDepth 20000 in
theorem ggX2_turn_X2_isPlace : GoodIn wsX2_turn wsX2_isPlace := goodIn_r _ [8, 9, 10, 11, 7, 12, 13, 14, 15, 16, 17, 18, 19, 20, 21, 26, 27, 28, 29, 30, 31, 32, 33, 34, 35] (by decide +kernel) (by decide +kernel)
set_option maxRecDepth 20000 in
theorem gX2_turn_X2_isPlace : GoodIn wsX2_turn (wsV RX2 74 RX2 yX2_isPlace wsX2_isPlace) := goodIn_app (goodIn_of _ (by decide +kernel)) ggX2_turn_X2_isPlace
set_option maxRecDepth 20000 in
theorem ggX2_turn_X2_isNot : GoodIn wsX2_turn wsX2_isNot := goodIn_r _ [25, 1, 26, 27, 28, 29, 30, 31, 32, 33, 34, 35] (by decide +kernel) (by decide +kernel)
set_option maxRecDepth 20000 in
theorem gX2_turn_X2_isNot : GoodIn wsX2_turn (wsV RX2 82 RX2 yX2_isNot wsX2_isNot) := goodIn_app (goodIn_of _ (by decide +kernel)) ggX2_turn_X2_isNot
theorem dX2_turn_0 : decode cX2_turn 0 = .ok (.aload_n 0, 1) := by decide +kernel
theorem dX2_turn_1 : decode cX2_turn 1 = .ok (.iconst 0, 1) := by decide +kernel
theorem dX2_turn_2 : decode cX2_turn 2 = .ok (.putfield 35, 3) := by decide +kernel
theorem dX2_turn_5 : decode cX2_turn 5 = .ok (.aload_n 0, 1) := by decide +kernel
theorem dX2_turn_6 : decode cX2_turn 6 = .ok (.iload_n 1, 1) := by decide +kernel
theorem dX2_turn_7 : decode cX2_turn 7 = .ok (.iload_n 2, 1) := by decide +kernel
theorem dX2_turn_8 : decode cX2_turn 8 = .ok (.invokevirtual 74, 3) := by decide +kernel
theorem dX2_turn_11 : decode cX2_turn 11 = .ok (.ifCond .ne 9, 3) := by decide +kernel
theorem dX2_turn_14 : decode cX2_turn 14 = .ok (.aload_n 0, 1) := by decide +kernel
theorem dX2_turn_15 : decode cX2_turn 15 = .ok (.iconst 1, 1) := by decide +kernel
theorem dX2_turn_16 : decode cX2_turn 16 = .ok (.invokevirtual 82, 3) := by decide +kernel
theorem dX2_turn_19 : decode cX2_turn 19 = .ok (.ireturn, 1) := by decide +kernel
theorem dX2_turn_20 : decode cX2_turn 20 = .ok (.bipush 9, 2) := by decide +kernel
theorem dX2_turn_22 : decode cX2_turn 22 = .ok (.iload_n 1, 1) := by decide +kernel
theorem dX2_turn_23 : decode cX2_turn 23 = .ok (.imul, 1) := by decide +kernel
theorem dX2_turn_24 : decode cX2_turn 24 = .ok (.iload_n 2, 1) := by decide +kernel
theorem dX2_turn_25 : decode cX2_turn 25 = .ok (.iadd, 1) := by decide +kernel
theorem dX2_turn_26 : decode cX2_turn 26 = .ok (.istore_n 3, 1) := by decide +kernel
theorem dX2_turn_27 : decode cX2_turn 27 = .ok (.aload_n 0, 1) := by decide +kernel
theorem dX2_turn_28 : decode cX2_turn 28 = .ok (.getfield 16, 3) := by decide +kernel
theorem dX2_turn_31 : decode cX2_turn 31 = .ok (.iload_n 3, 1) := by decide +kernel
theorem dX2_turn_32 : decode cX2_turn 32 = .ok (.iaload, 1) := by decide +kernel
theorem dX2_turn_33 : decode cX2_turn 33 = .ok (.iconst 3, 1) := by decide +kernel
theorem dX2_turn_34 : decode cX2_turn 34 = .ok (.if_icmp .eq 9, 3) := by decide +kernel
theorem dX2_turn_37 : decode cX2_turn 37 = .ok (.aload_n 0, 1) := by decide +kernel
theorem dX2_turn_38 : decode cX2_turn 38 = .ok (.iconst 2, 1) := by decide +kernel
theorem dX2_turn_39 : decode cX2_turn 39 = .ok (.invokevirtual 82, 3) := by decide +kernel
theorem dX2_turn_42 : decode cX2_turn 42 = .ok (.ireturn, 1) := by decide +kernel
theorem dX2_turn_43 : decode cX2_turn 43 = .ok (.aload_n 0, 1) := by decide +kernel
theorem dX2_turn_44 : decode cX2_turn 44 = .ok (.getfield 26, 3) := by decide +kernel
theorem dX2_turn_47 : decode cX2_turn 47 = .ok (.iload_n 3, 1) := by decide +kernel
theorem dX2_turn_48 : decode cX2_turn 48 = .ok (.iconst 1, 1) := by decide +kernel
theorem dX2_turn_49 : decode cX2_turn 49 = .ok (.aload_n 0, 1) := by decide +kernel
theorem dX2_turn_50 : decode cX2_turn 50 = .ok (.getfield 26, 3) := by decide +kernel
theorem dX2_turn_53 : decode cX2_turn 53 = .ok (.iload_n 3, 1) := by decide +kernel
theorem dX2_turn_54 : decode cX2_turn 54 = .ok (.iaload, 1) := by decide +kernel
theorem dX2_turn_55 : decode cX2_turn 55 = .ok (.isub, 1) := by decide +kernel
theorem dX2_turn_56 : decode cX2_turn 56 = .ok (.iastore, 1) := by decide +kernel
theorem dX2_turn_57 : decode cX2_turn 57 = .ok (.aload_n 0, 1) := by decide +kernel
theorem dX2_turn_58 : decode cX2_turn 58 = .ok (.getfield 26, 3) := by decide +kernel
theorem dX2_turn_61 : decode cX2_turn 61 = .ok (.iload_n 3, 1) := by decide +kernel
theorem dX2_turn_62 : decode cX2_turn 62 = .ok (.iaload, 1) := by decide +kernel
theorem dX2_turn_63 : decode cX2_turn 63 = .ok (.iconst 1, 1) := by decide +kernel
theorem dX2_turn_64 : decode cX2_turn 64 = .ok (.if_icmp .ne 7, 3) := by decide +kernel
theorem dX2_turn_67 : decode cX2_turn 67 = .ok (.iconst 1, 1) := by decide +kernel
theorem dX2_turn_68 : decode cX2_turn 68 = .ok (.goto 4, 3) := by decide +kernel
theorem dX2_turn_71 : decode cX2_turn 71 = .ok (.iconst 0, 1) := by decide +kernel
theorem dX2_turn_72 : decode cX2_turn 72 = .ok (.ireturn, 1) := by decide +kernel
set_option maxRecDepth 20000 in
theorem ggX2_setHopper_X2_isFrom : GoodIn wsX2_setHopper wsX2_isFrom := goodIn_r _ [7] (by decide +kernel) (by decide +kernel)
set_option maxRecDepth 20000 in
theorem gX2_setHopper_X2_isFrom : GoodIn wsX2_setHopper (va_wsS RX2 38 yX2_isFrom wsX2_isFrom) := goodIn_app (goodIn_of _ (by decide +kernel)) ggX2_setHopper_X2_isFrom
set_option maxRecDepth 20000 in
theorem ggX2_setHopper_X2_isColumn : GoodIn wsX2_setHopper wsX2_isColumn := goodIn_r _ [11, 12, 4, 5, 6, 7, 17, 18, 19, 20, 21, 22, 23, 24, 25, 26] (by decide +kernel) (by decide +kernel)
set_option maxRecDepth 20000 in
theorem gX2_setHopper_X2_isColumn : GoodIn wsX2_setHopper (wsV RX2 46 RX2 yX2_isColumn wsX2_isColumn) := goodIn_app (goodIn_of _ (by decide +kernel)) ggX2_setHopper_X2_isColumn
set_option maxRecDepth 20000 in
theorem ggX2_setHopper_X2_no : GoodIn wsX2_setHopper wsX2_no := goodIn_r _ [16, 1, 17, 18, 19, 20, 21, 22, 23, 24, 25, 26] (by decide +kernel) (by decide +kernel)
set_option maxRecDepth 20000 in
theorem gX2_setHopper_X2_no : GoodIn wsX2_setHopper (wsV RX2 71 RX2 yX2_no wsX2_no) := goodIn_app (goodIn_of _ (by decide +kernel)) ggX2_setHopper_X2_no
theorem dX2_setHopper_0 : decode cX2_setHopper 0 = .ok (.aload_n 0, 1) := by decide +kernel
theorem dX2_setHopper_1 : decode cX2_setHopper 1 = .ok (.iconst 0, 1) := by decide +kernel
theorem dX2_setHopper_2 : decode cX2_setHopper 2 = .ok (.putfield 35, 3) := by decide +kernel
theorem dX2_setHopper_5 : decode cX2_setHopper 5 = .ok (.iload_n 1, 1) := by decide +kernel
theorem dX2_setHopper_6 : decode cX2_setHopper 6 = .ok (.iconst 0, 1) := by decide +kernel
theorem dX2_setHopper_7 : decode cX2_setHopper 7 = .ok (.iconst 1, 1) := by decide +kernel
theorem dX2_setHopper_8 : decode cX2_setHopper 8 = .ok (.invokestatic 38, 3) := by decide +kernel
theorem dX2_setHopper_11 : decode cX2_setHopper 11 = .ok (.ifCond .eq 11, 3) := by decide +kernel
theorem dX2_setHopper_14 : decode cX2_setHopper 14 = .ok (.aload_n 0, 1) := by decide +kernel
theorem dX2_setHopper_15 : decode cX2_setHopper 15 = .ok (.iload_n 2, 1) := by decide +kernel
theorem dX2_setHopper_16 : decode cX2_setHopper 16 = .ok (.invokevirtual 46, 3) := by decide +kernel
theorem dX2_setHopper_19 : decode cX2_setHopper 19 = .ok (.ifCond .ne 9, 3) := by decide +kernel
theorem dX2_setHopper_22 : decode cX2_setHopper 22 = .ok (.aload_n 0, 1) := by decide +kernel
theorem dX2_setHopper_23 : decode cX2_setHopper 23 = .ok (.iconst 1, 1) := by decide +kernel
theorem dX2_setHopper_24 : decode cX2_setHopper 24 = .ok (.invokevirtual 71, 3) := by decide +kernel
theorem dX2_setHopper_27 : decode cX2_setHopper 27 = .ok (.ireturn, 1) := by decide +kernel
theorem dX2_setHopper_28 : decode cX2_setHopper 28 = .ok (.iload_n 3, 1) := by decide +kernel
theorem dX2_setHopper_29 : decode cX2_setHopper 29 = .ok (.iconst 0, 1) := by decide +kernel
theorem dX2_setHopper_30 : decode cX2_setHopper 30 = .ok (.bipush 99, 2) := by decide +kernel
theorem dX2_setHopper_32 : decode cX2_setHopper 32 = .ok (.invokestatic 38, 3) := by decide +kernel
theorem dX2_setHopper_35 : decode cX2_setHopper 35 = .ok (.ifCond .ne 9, 3) := by decide +kernel
theorem dX2_setHopper_38 : decode cX2_setHopper 38 = .ok (.aload_n 0, 1) := by decide +kernel
theorem dX2_setHopper_39 : decode cX2_setHopper 39 = .ok (.iconst 2, 1) := by decide +kernel
theorem dX2_setHopper_40 : decode cX2_setHopper 40 = .ok (.invokevirtual 71, 3) := by decide +kernel
theorem dX2_setHopper_43 : decode cX2_setHopper 43 = .ok (.ireturn, 1) := by decide +kernel
theorem dX2_setHopper_44 : decode cX2_setHopper 44 = .ok (.aload_n 0, 1) := by decide +kernel
theorem dX2_setHopper_45 : decode cX2_setHopper 45 = .ok (.getfield 26, 3) := by decide +kernel
theorem dX2_setHopper_48 : decode cX2_setHopper 48 = .ok (.bipush 81, 2) := by decide +kernel
theorem dX2_setHopper_50 : decode cX2_setHopper 50 = .ok (.iload_n 1, 1) := by decide +kernel
theorem dX2_setHopper_51 : decode cX2_setHopper 51 = .ok (.iadd, 1) := by decide +kernel
theorem dX2_setHopper_52 : decode cX2_setHopper 52 = .ok (.iaload, 1) := by decide +kernel
theorem dX2_setHopper_53 : decode cX2_setHopper 53 = .ok (.istore 4, 2) := by decide +kernel
theorem dX2_setHopper_55 : decode cX2_setHopper 55 = .ok (.aload_n 0, 1) := by decide +kernel
theorem dX2_setHopper_56 : decode cX2_setHopper 56 = .ok (.getfield 26, 3) := by decide +kernel
theorem dX2_setHopper_59 : decode cX2_setHopper 59 = .ok (.bipush 81, 2) := by decide +kernel
theorem dX2_setHopper_61 : decode cX2_setHopper 61 = .ok (.iload_n 1, 1) := by decide +kernel
theorem dX2_setHopper_62 : decode cX2_setHopper 62 = .ok (.iadd, 1) := by decide +kernel
theorem dX2_setHopper_63 : decode cX2_setHopper 63 = .ok (.iload_n 3, 1) := by decide +kernel
theorem dX2_setHopper_64 : decode cX2_setHopper 64 = .ok (.iastore, 1) := by decide +kernel
theorem dX2_setHopper_65 : decode cX2_setHopper 65 = .ok (.aload_n 0, 1) := by decide +kernel
theorem dX2_setHopper_66 : decode cX2_setHopper 66 = .ok (.getfield 23, 3) := by decide +kernel
theorem dX2_setHopper_69 : decode cX2_setHopper 69 = .ok (.iload_n 1, 1) := by decide +kernel
theorem dX2_setHopper_70 : decode cX2_setHopper 70 = .ok (.iload_n 2, 1) := by decide +kernel
theorem dX2_setHopper_71 : decode cX2_setHopper 71 = .ok (.iastore, 1) := by decide +kernel
theorem dX2_setHopper_72 : decode cX2_setHopper 72 = .ok (.iload 4, 2) := by decide +kernel
theorem dX2_setHopper_74 : decode cX2_setHopper 74 = .ok (.ireturn, 1) := by decide +kernel
set_option maxRecDepth 20000 in
theorem ggX2_drop_X2_isColumn : GoodIn wsX2_drop wsX2_isColumn := goodIn_r _ [6, 7, 8, 9, 5, 10, 29, 30, 31, 32, 33, 34, 35, 36, 37, 38] (by decide +kernel) (by decide +kernel)
set_option maxRecDepth 20000 in
theorem gX2_drop_X2_isColumn : GoodIn wsX2_drop (wsV RX2 46 RX2 yX2_isColumn wsX2_isColumn) := goodIn_app (goodIn_of _ (by decide +kernel)) ggX2_drop_X2_isColumn
set_option maxRecDepth 20000 in
theorem ggX2_drop_X2_fall : GoodIn wsX2_drop wsX2_fall := goodIn_r _ [14, 15, 16, 17, 18, 19, 20, 21, 5, 22, 23, 24, 2, 3, 4, 6, 7, 8, 9, 10, 29, 30, 31, 32, 33, 34, 35, 36, 37, 38] (by decide +kernel) (by decide +kernel)
set_option maxRecDepth 20000 in
theorem gX2_drop_X2_fall : GoodIn wsX2_drop (wsV RX2 62 RX2 yX2_fall wsX2_fall) := goodIn_app (goodIn_of _ (by decide +kernel)) ggX2_drop_X2_fall
set_option maxRecDepth 20000 in
theorem ggX2_drop_X2_no : GoodIn wsX2_drop wsX2_no := goodIn_r _ [28, 1, 29, 30, 31, 32, 33, 34, 35, 36, 37, 38] (by decide +kernel) (by decide +kernel)
set_option maxRecDepth 20000 in
theorem gX2_drop_X2_no : GoodIn wsX2_drop (wsV RX2 71 RX2 yX2_no wsX2_no) := goodIn_app (goodIn_of _ (by decide +kernel)) ggX2_drop_X2_no
theorem dX2_drop_0 : decode cX2_drop 0 = .ok (.aload_n 0, 1) := by decide +kernel
theorem dX2_drop_1 : decode cX2_drop 1 = .ok (.iconst 0, 1) := by decide +kernel
theorem dX2_drop_2 : decode cX2_drop 2 = .ok (.putfield 35, 3) := by decide +kernel
theorem dX2_drop_5 : decode cX2_drop 5 = .ok (.aload_n 0, 1) := by decide +kernel
theorem dX2_drop_6 : decode cX2_drop 6 = .ok (.iload_n 1, 1) := by decide +kernel
theorem dX2_drop_7 : decode cX2_drop 7 = .ok (.invokevirtual 46, 3) := by decide +kernel
theorem dX2_drop_10 : decode cX2_drop 10 = .ok (.ifCond .eq 11, 3) := by decide +kernel
theorem dX2_drop_13 : decode cX2_drop 13 = .ok (.aload_n 0, 1) := by decide +kernel
theorem dX2_drop_14 : decode cX2_drop 14 = .ok (.iload_n 1, 1) := by decide +kernel
theorem dX2_drop_15 : decode cX2_drop 15 = .ok (.invokevirtual 62, 3) := by decide +kernel
theorem dX2_drop_18 : decode cX2_drop 18 = .ok (.goto 8, 3) := by decide +kernel
theorem dX2_drop_21 : decode cX2_drop 21 = .ok (.aload_n 0, 1) := by decide +kernel
theorem dX2_drop_22 : decode cX2_drop 22 = .ok (.iconst 1, 1) := by decide +kernel
theorem dX2_drop_23 : decode cX2_drop 23 = .ok (.invokevirtual 71, 3) := by decide +kernel
theorem dX2_drop_26 : decode cX2_drop 26 = .ok (.ireturn, 1) := by decide +kernel
set_option maxRecDepth 20000 in
theorem ggX2_run_X2_isFrom : GoodIn wsX2_run wsX2_isFrom := goodIn_r _ [5] (by decide +kernel) (by decide +kernel)
set_option maxRecDepth 20000 in
theorem gX2_run_X2_isFrom : GoodIn wsX2_run (va_wsS RX2 38 yX2_isFrom wsX2_isFrom) := goodIn_app (goodIn_of _ (by decide +kernel)) ggX2_run_X2_isFrom
set_option maxRecDepth 20000 in
theorem ggX2_run_X2_no : GoodIn wsX2_run wsX2_no := goodIn_r _ [9, 1, 38, 39, 40, 41, 42, 43, 44, 45, 46, 47] (by decide +kernel) (by decide +kernel)
set_option maxRecDepth 20000 in
theorem gX2_run_X2_no : GoodIn wsX2_run (wsV RX2 71 RX2 yX2_no wsX2_no) := goodIn_app (goodIn_of _ (by decide +kernel)) ggX2_run_X2_no
set_option maxRecDepth 20000 in
theorem ggX2_run_X2_runFrom : GoodIn wsX2_run wsX2_runFrom := goodIn_r _ [13, 14, 15, 16, 17, 18, 19, 4, 20, 21, 22, 23, 24, 25, 26, 27, 28, 29, 30, 31, 32, 33, 2, 3, 5, 34, 35, 36, 37, 38, 39, 40, 41, 42, 43, 44, 45, 46, 47] (by decide +kernel) (by decide +kernel)
set_option maxRecDepth 20000 in
theorem gX2_run_X2_runFrom : GoodIn wsX2_run (wsV RX2 85 RX2 yX2_runFrom wsX2_runFrom) := goodIn_app (goodIn_of _ (by decide +kernel)) ggX2_run_X2_runFrom
theorem dX2_run_0 : decode cX2_run 0 = .ok (.aload_n 0, 1) := by decide +kernel
theorem dX2_run_1 : decode cX2_run 1 = .ok (.iconst 0, 1) := by decide +kernel
theorem dX2_run_2 : decode cX2_run 2 = .ok (.putfield 35, 3) := by decide +kernel
theorem dX2_run_5 : decode cX2_run 5 = .ok (.iload_n 1, 1) := by decide +kernel
theorem dX2_run_6 : decode cX2_run 6 = .ok (.iconst 0, 1) := by decide +kernel
theorem dX2_run_7 : decode cX2_run 7 = .ok (.iconst 1, 1) := by decide +kernel
theorem dX2_run_8 : decode cX2_run 8 = .ok (.invokestatic 38, 3) := by decide +kernel
theorem dX2_run_11 : decode cX2_run 11 = .ok (.ifCond .ne 9, 3) := by decide +kernel
theorem dX2_run_14 : decode cX2_run 14 = .ok (.aload_n 0, 1) := by decide +kernel
theorem dX2_run_15 : decode cX2_run 15 = .ok (.iconst 1, 1) := by decide +kernel
theorem dX2_run_16 : decode cX2_run 16 = .ok (.invokevirtual 71, 3) := by decide +kernel
theorem dX2_run_19 : decode cX2_run 19 = .ok (.ireturn, 1) := by decide +kernel
theorem dX2_run_20 : decode cX2_run 20 = .ok (.iload_n 2, 1) := by decide +kernel
theorem dX2_run_21 : decode cX2_run 21 = .ok (.iconst 1, 1) := by decide +kernel
theorem dX2_run_22 : decode cX2_run 22 = .ok (.bipush 99, 2) := by decide +kernel
theorem dX2_run_24 : decode cX2_run 24 = .ok (.invokestatic 38, 3) := by decide +kernel
theorem dX2_run_27 : decode cX2_run 27 = .ok (.ifCond .eq 12, 3) := by decide +kernel
theorem dX2_run_30 : decode cX2_run 30 = .ok (.aload_n 0, 1) := by decide +kernel
theorem dX2_run_31 : decode cX2_run 31 = .ok (.iload_n 1, 1) := by decide +kernel
theorem dX2_run_32 : decode cX2_run 32 = .ok (.iload_n 2, 1) := by decide +kernel
theorem dX2_run_33 : decode cX2_run 33 = .ok (.invokevirtual 85, 3) := by decide +kernel
theorem dX2_run_36 : decode cX2_run 36 = .ok (.goto 8, 3) := by decide +kernel
theorem dX2_run_39 : decode cX2_run 39 = .ok (.aload_n 0, 1) := by decide +kernel
theorem dX2_run_40 : decode cX2_run 40 = .ok (.iconst 2, 1) := by decide +kernel
theorem dX2_run_41 : decode cX2_run 41 = .ok (.invokevirtual 71, 3) := by decide +kernel
theorem dX2_run_44 : decode cX2_run 44 = .ok (.ireturn, 1) := by decide +kernel
theorem dX2_inBins_0 : decode cX2_inBins 0 = .ok (.iconst 0, 1) := by decide +kernel
theorem dX2_inBins_1 : decode cX2_inBins 1 = .ok (.istore_n 1, 1) := by decide +kernel
theorem dX2_inBins_2 : decode cX2_inBins 2 = .ok (.iconst 0, 1) := by decide +kernel
theorem dX2_inBins_3 : decode cX2_inBins 3 = .ok (.istore_n 2, 1) := by decide +kernel
theorem dX2_inBins_4 : decode cX2_inBins 4 = .ok (.iload_n 2, 1) := by decide +kernel
theorem dX2_inBins_5 : decode cX2_inBins 5 = .ok (.aload_n 0, 1) := by decide +kernel
theorem dX2_inBins_6 : decode cX2_inBins 6 = .ok (.getfield 9, 3) := by decide +kernel
theorem dX2_inBins_9 : decode cX2_inBins 9 = .ok (.if_icmp .ge 21, 3) := by decide +kernel
theorem dX2_inBins_12 : decode cX2_inBins 12 = .ok (.iload_n 1, 1) := by decide +kernel
theorem dX2_inBins_13 : decode cX2_inBins 13 = .ok (.aload_n 0, 1) := by decide +kernel
theorem dX2_inBins_14 : decode cX2_inBins 14 = .ok (.getfield 26, 3) := by decide +kernel
theorem dX2_inBins_17 : decode cX2_inBins 17 = .ok (.bipush 72, 2) := by decide +kernel
theorem dX2_inBins_19 : decode cX2_inBins 19 = .ok (.iload_n 2, 1) := by decide +kernel
theorem dX2_inBins_20 : decode cX2_inBins 20 = .ok (.iadd, 1) := by decide +kernel
theorem dX2_inBins_21 : decode cX2_inBins 21 = .ok (.iaload, 1) := by decide +kernel
theorem dX2_inBins_22 : decode cX2_inBins 22 = .ok (.iadd, 1) := by decide +kernel
theorem dX2_inBins_23 : decode cX2_inBins 23 = .ok (.istore_n 1, 1) := by decide +kernel
theorem dX2_inBins_24 : decode cX2_inBins 24 = .ok (.iinc 2 1, 3) := by decide +kernel
theorem dX2_inBins_27 : decode cX2_inBins 27 = .ok (.goto (-23), 3) := by decide +kernel
theorem dX2_inBins_30 : decode cX2_inBins 30 = .ok (.iload_n 1, 1) := by decide +kernel
theorem dX2_inBins_31 : decode cX2_inBins 31 = .ok (.ireturn, 1) := by decide +kernel
set_option maxRecDepth 20000 in
theorem ggX2_emptyBins_X2_inBins : GoodIn wsX2_emptyBins wsX2_inBins := goodIn_r _ [7, 1, 2, 13, 14, 15, 16, 17, 18, 19, 20, 21, 22] (by decide +kernel) (by decide +kernel)
set_option maxRecDepth 20000 in
theorem gX2_emptyBins_X2_inBins : GoodIn wsX2_emptyBins (wsV RX2 88 RX2 yX2_inBins wsX2_inBins) := goodIn_app (goodIn_of _ (by decide +kernel)) ggX2_emptyBins_X2_inBins
set_option maxRecDepth 20000 in
theorem ggX2_emptyBins_X2_ok : GoodIn wsX2_emptyBins wsX2_ok := goodIn_r _ [11, 12, 13, 14, 15, 16, 17, 18, 19, 20, 21, 22] (by decide +kernel) (by decide +kernel)
set_option maxRecDepth 20000 in
theorem gX2_emptyBins_X2_ok : GoodIn wsX2_emptyBins (wsV RX2 92 RX2 yX2_ok wsX2_ok) := goodIn_app (goodIn_of _ (by decide +kernel)) ggX2_emptyBins_X2_ok
theorem dX2_emptyBins_0 : decode cX2_emptyBins 0 = .ok (.aload_n 0, 1) := by decide +kernel
theorem dX2_emptyBins_1 : decode cX2_emptyBins 1 = .ok (.invokevirtual 88, 3) := by decide +kernel
theorem dX2_emptyBins_4 : decode cX2_emptyBins 4 = .ok (.istore_n 1, 1) := by decide +kernel
theorem dX2_emptyBins_5 : decode cX2_emptyBins 5 = .ok (.iconst 0, 1) := by decide +kernel
theorem dX2_emptyBins_6 : decode cX2_emptyBins 6 = .ok (.istore_n 2, 1) := by decide +kernel
theorem dX2_emptyBins_7 : decode cX2_emptyBins 7 = .ok (.iload_n 2, 1) := by decide +kernel
theorem dX2_emptyBins_8 : decode cX2_emptyBins 8 = .ok (.aload_n 0, 1) := by decide +kernel
theorem dX2_emptyBins_9 : decode cX2_emptyBins 9 = .ok (.getfield 9, 3) := by decide +kernel
theorem dX2_emptyBins_12 : decode cX2_emptyBins 12 = .ok (.if_icmp .ge 19, 3) := by decide +kernel
theorem dX2_emptyBins_15 : decode cX2_emptyBins 15 = .ok (.aload_n 0, 1) := by decide +kernel
theorem dX2_emptyBins_16 : decode cX2_emptyBins 16 = .ok (.getfield 26, 3) := by decide +kernel
theorem dX2_emptyBins_19 : decode cX2_emptyBins 19 = .ok (.bipush 72, 2) := by decide +kernel
theorem dX2_emptyBins_21 : decode cX2_emptyBins 21 = .ok (.iload_n 2, 1) := by decide +kernel
theorem dX2_emptyBins_22 : decode cX2_emptyBins 22 = .ok (.iadd, 1) := by decide +kernel
theorem dX2_emptyBins_23 : decode cX2_emptyBins 23 = .ok (.iconst 0, 1) := by decide +kernel
theorem dX2_emptyBins_24 : decode cX2_emptyBins 24 = .ok (.iastore, 1) := by decide +kernel
theorem dX2_emptyBins_25 : decode cX2_emptyBins 25 = .ok (.iinc 2 1, 3) := by decide +kernel
theorem dX2_emptyBins_28 : decode cX2_emptyBins 28 = .ok (.goto (-21), 3) := by decide +kernel
theorem dX2_emptyBins_31 : decode cX2_emptyBins 31 = .ok (.aload_n 0, 1) := by decide +kernel
theorem dX2_emptyBins_32 : decode cX2_emptyBins 32 = .ok (.iload_n 1, 1) := by decide +kernel
theorem dX2_emptyBins_33 : decode cX2_emptyBins 33 = .ok (.invokevirtual 92, 3) := by decide +kernel
theorem dX2_emptyBins_36 : decode cX2_emptyBins 36 = .ok (.ireturn, 1) := by decide +kernel
set_option maxRecDepth 20000 in
theorem ggX2_columns_X2_ok : GoodIn wsX2_columns wsX2_ok := goodIn_r _ [6, 7, 8, 9, 10, 11, 12, 13, 14, 15, 16, 17] (by decide +kernel) (by decide +kernel)
set_option maxRecDepth 20000 in
theorem gX2_columns_X2_ok : GoodIn wsX2_columns (wsV RX2 92 RX2 yX2_ok wsX2_ok) := goodIn_app (goodIn_of _ (by decide +kernel)) ggX2_columns_X2_ok
theorem dX2_columns_0 : decode cX2_columns 0 = .ok (.aload_n 0, 1) := by decide +kernel
theorem dX2_columns_1 : decode cX2_columns 1 = .ok (.aload_n 0, 1) := by decide +kernel
theorem dX2_columns_2 : decode cX2_columns 2 = .ok (.getfield 9, 3) := by decide +kernel
theorem dX2_columns_5 : decode cX2_columns 5 = .ok (.invokevirtual 92, 3) := by decide +kernel
theorem dX2_columns_8 : decode cX2_columns 8 = .ok (.ireturn, 1) := by decide +kernel
set_option maxRecDepth 20000 in
theorem ggX2_rows_X2_ok : GoodIn wsX2_rows wsX2_ok := goodIn_r _ [6, 7, 8, 9, 10, 11, 12, 13, 14, 15, 16, 17] (by decide +kernel) (by decide +kernel)
set_option maxRecDepth 20000 in
theorem gX2_rows_X2_ok : GoodIn wsX2_rows (wsV RX2 92 RX2 yX2_ok wsX2_ok) := goodIn_app (goodIn_of _ (by decide +kernel)) ggX2_rows_X2_ok
theorem dX2_rows_0 : decode cX2_rows 0 = .ok (.aload_n 0, 1) := by decide +kernel
theorem dX2_rows_1 : decode cX2_rows 1 = .ok (.aload_n 0, 1) := by decide +kernel
theorem dX2_rows_2 : decode cX2_rows 2 = .ok (.getfield 13, 3) := by decide +kernel
theorem dX2_rows_5 : decode cX2_rows 5 = .ok (.invokevirtual 92, 3) := by decide +kernel
theorem dX2_rows_8 : decode cX2_rows 8 = .ok (.ireturn, 1) := by decide +kernel
set_option maxRecDepth 20000 in
theorem ggX2_partAt_X2_isPlace : GoodIn wsX2_partAt wsX2_isPlace := goodIn_r _ [7, 8, 9, 10, 6, 11, 12, 13, 14, 15, 16, 17, 18, 19, 20, 25, 26, 27, 28, 29, 30, 31, 32, 33, 34] (by decide +kernel) (by decide +kernel)
set_option maxRecDepth 20000 in
theorem gX2_partAt_X2_isPlace : GoodIn wsX2_partAt (wsV RX2 74 RX2 yX2_isPlace wsX2_isPlace) := goodIn_app (goodIn_of _ (by decide +kernel)) ggX2_partAt_X2_isPlace
set_option maxRecDepth 20000 in
theorem ggX2_partAt_X2_no : GoodIn wsX2_partAt wsX2_no := goodIn_r _ [24, 1, 25, 26, 27, 28, 29, 30, 31, 32, 33, 34] (by decide +kernel) (by decide +kernel)
set_option maxRecDepth 20000 in
theorem gX2_partAt_X2_no : GoodIn wsX2_partAt (wsV RX2 71 RX2 yX2_no wsX2_no) := goodIn_app (goodIn_of _ (by decide +kernel)) ggX2_partAt_X2_no
theorem dX2_partAt_0 : decode cX2_partAt 0 = .ok (.aload_n 0, 1) := by decide +kernel
theorem dX2_partAt_1 : decode cX2_partAt 1 = .ok (.iconst 0, 1) := by decide +kernel
theorem dX2_partAt_2 : decode cX2_partAt 2 = .ok (.putfield 35, 3) := by decide +kernel
theorem dX2_partAt_5 : decode cX2_partAt 5 = .ok (.aload_n 0, 1) := by decide +kernel
theorem dX2_partAt_6 : decode cX2_partAt 6 = .ok (.iload_n 1, 1) := by decide +kernel
theorem dX2_partAt_7 : decode cX2_partAt 7 = .ok (.iload_n 2, 1) := by decide +kernel
theorem dX2_partAt_8 : decode cX2_partAt 8 = .ok (.invokevirtual 74, 3) := by decide +kernel
theorem dX2_partAt_11 : decode cX2_partAt 11 = .ok (.ifCond .eq 17, 3) := by decide +kernel
theorem dX2_partAt_14 : decode cX2_partAt 14 = .ok (.aload_n 0, 1) := by decide +kernel
theorem dX2_partAt_15 : decode cX2_partAt 15 = .ok (.getfield 16, 3) := by decide +kernel
theorem dX2_partAt_18 : decode cX2_partAt 18 = .ok (.bipush 9, 2) := by decide +kernel
theorem dX2_partAt_20 : decode cX2_partAt 20 = .ok (.iload_n 1, 1) := by decide +kernel
theorem dX2_partAt_21 : decode cX2_partAt 21 = .ok (.imul, 1) := by decide +kernel
theorem dX2_partAt_22 : decode cX2_partAt 22 = .ok (.iload_n 2, 1) := by decide +kernel
theorem dX2_partAt_23 : decode cX2_partAt 23 = .ok (.iadd, 1) := by decide +kernel
theorem dX2_partAt_24 : decode cX2_partAt 24 = .ok (.iaload, 1) := by decide +kernel
theorem dX2_partAt_25 : decode cX2_partAt 25 = .ok (.goto 8, 3) := by decide +kernel
theorem dX2_partAt_28 : decode cX2_partAt 28 = .ok (.aload_n 0, 1) := by decide +kernel
theorem dX2_partAt_29 : decode cX2_partAt 29 = .ok (.iconst 1, 1) := by decide +kernel
theorem dX2_partAt_30 : decode cX2_partAt 30 = .ok (.invokevirtual 71, 3) := by decide +kernel
theorem dX2_partAt_33 : decode cX2_partAt 33 = .ok (.ireturn, 1) := by decide +kernel
theorem dX2_isRight_0 : decode cX2_isRight 0 = .ok (.aload_n 0, 1) := by decide +kernel
theorem dX2_isRight_1 : decode cX2_isRight 1 = .ok (.getfield 16, 3) := by decide +kernel
theorem dX2_isRight_4 : decode cX2_isRight 4 = .ok (.bipush 9, 2) := by decide +kernel
theorem dX2_isRight_6 : decode cX2_isRight 6 = .ok (.iload_n 1, 1) := by decide +kernel
theorem dX2_isRight_7 : decode cX2_isRight 7 = .ok (.imul, 1) := by decide +kernel
theorem dX2_isRight_8 : decode cX2_isRight 8 = .ok (.iload_n 2, 1) := by decide +kernel
theorem dX2_isRight_9 : decode cX2_isRight 9 = .ok (.iadd, 1) := by decide +kernel
theorem dX2_isRight_10 : decode cX2_isRight 10 = .ok (.iaload, 1) := by decide +kernel
theorem dX2_isRight_11 : decode cX2_isRight 11 = .ok (.iconst 3, 1) := by decide +kernel
theorem dX2_isRight_12 : decode cX2_isRight 12 = .ok (.if_icmp .ne 22, 3) := by decide +kernel
theorem dX2_isRight_15 : decode cX2_isRight 15 = .ok (.aload_n 0, 1) := by decide +kernel
theorem dX2_isRight_16 : decode cX2_isRight 16 = .ok (.getfield 26, 3) := by decide +kernel
theorem dX2_isRight_19 : decode cX2_isRight 19 = .ok (.bipush 9, 2) := by decide +kernel
theorem dX2_isRight_21 : decode cX2_isRight 21 = .ok (.iload_n 1, 1) := by decide +kernel
theorem dX2_isRight_22 : decode cX2_isRight 22 = .ok (.imul, 1) := by decide +kernel
theorem dX2_isRight_23 : decode cX2_isRight 23 = .ok (.iload_n 2, 1) := by decide +kernel
theorem dX2_isRight_24 : decode cX2_isRight 24 = .ok (.iadd, 1) := by decide +kernel
theorem dX2_isRight_25 : decode cX2_isRight 25 = .ok (.iaload, 1) := by decide +kernel
theorem dX2_isRight_26 : decode cX2_isRight 26 = .ok (.iconst 1, 1) := by decide +kernel
theorem dX2_isRight_27 : decode cX2_isRight 27 = .ok (.if_icmp .ne 7, 3) := by decide +kernel
theorem dX2_isRight_30 : decode cX2_isRight 30 = .ok (.iconst 1, 1) := by decide +kernel
theorem dX2_isRight_31 : decode cX2_isRight 31 = .ok (.goto 4, 3) := by decide +kernel
theorem dX2_isRight_34 : decode cX2_isRight 34 = .ok (.iconst 0, 1) := by decide +kernel
theorem dX2_isRight_35 : decode cX2_isRight 35 = .ok (.ireturn, 1) := by decide +kernel
set_option maxRecDepth 20000 in
theorem ggX2_leadsRight_X2_isPlace : GoodIn wsX2_leadsRight wsX2_isPlace := goodIn_r _ [6, 7, 8, 9, 5, 10, 11, 12, 13, 14, 15, 16, 17, 18, 19, 30, 31, 32, 33, 34, 35, 36, 37, 38, 39] (by decide +kernel) (by decide +kernel)
set_option maxRecDepth 20000 in
theorem gX2_leadsRight_X2_isPlace : GoodIn wsX2_leadsRight (wsV RX2 74 RX2 yX2_isPlace wsX2_isPlace) := goodIn_app (goodIn_of _ (by decide +kernel)) ggX2_leadsRight_X2_isPlace
set_option maxRecDepth 20000 in
theorem ggX2_leadsRight_X2_isRight : GoodIn wsX2_leadsRight wsX2_isRight := goodIn_r _ [23, 24, 25, 30, 31, 32, 33, 34, 35, 36, 37, 38, 39] (by decide +kernel) (by decide +kernel)
set_option maxRecDepth 20000 in
theorem gX2_leadsRight_X2_isRight : GoodIn wsX2_leadsRight (wsV RX2 95 RX2 yX2_isRight wsX2_isRight) := goodIn_app (goodIn_of _ (by decide +kernel)) ggX2_leadsRight_X2_isRight
set_option maxRecDepth 20000 in
theorem ggX2_leadsRight_X2_isNot : GoodIn wsX2_leadsRight wsX2_isNot := goodIn_r _ [29, 1, 30, 31, 32, 33, 34, 35, 36, 37, 38, 39] (by decide +kernel) (by decide +kernel)
set_option maxRecDepth 20000 in
theorem gX2_leadsRight_X2_isNot : GoodIn wsX2_leadsRight (wsV RX2 82 RX2 yX2_isNot wsX2_isNot) := goodIn_app (goodIn_of _ (by decide +kernel)) ggX2_leadsRight_X2_isNot
theorem dX2_leadsRight_0 : decode cX2_leadsRight 0 = .ok (.aload_n 0, 1) := by decide +kernel
theorem dX2_leadsRight_1 : decode cX2_leadsRight 1 = .ok (.iconst 0, 1) := by decide +kernel
theorem dX2_leadsRight_2 : decode cX2_leadsRight 2 = .ok (.putfield 35, 3) := by decide +kernel
theorem dX2_leadsRight_5 : decode cX2_leadsRight 5 = .ok (.aload_n 0, 1) := by decide +kernel
theorem dX2_leadsRight_6 : decode cX2_leadsRight 6 = .ok (.iload_n 1, 1) := by decide +kernel
theorem dX2_leadsRight_7 : decode cX2_leadsRight 7 = .ok (.iload_n 2, 1) := by decide +kernel
theorem dX2_leadsRight_8 : decode cX2_leadsRight 8 = .ok (.invokevirtual 74, 3) := by decide +kernel
theorem dX2_leadsRight_11 : decode cX2_leadsRight 11 = .ok (.ifCond .eq 12, 3) := by decide +kernel
theorem dX2_leadsRight_14 : decode cX2_leadsRight 14 = .ok (.aload_n 0, 1) := by decide +kernel
theorem dX2_leadsRight_15 : decode cX2_leadsRight 15 = .ok (.iload_n 1, 1) := by decide +kernel
theorem dX2_leadsRight_16 : decode cX2_leadsRight 16 = .ok (.iload_n 2, 1) := by decide +kernel
theorem dX2_leadsRight_17 : decode cX2_leadsRight 17 = .ok (.invokevirtual 95, 3) := by decide +kernel
theorem dX2_leadsRight_20 : decode cX2_leadsRight 20 = .ok (.goto 8, 3) := by decide +kernel
theorem dX2_leadsRight_23 : decode cX2_leadsRight 23 = .ok (.aload_n 0, 1) := by decide +kernel
theorem dX2_leadsRight_24 : decode cX2_leadsRight 24 = .ok (.iconst 1, 1) := by decide +kernel
theorem dX2_leadsRight_25 : decode cX2_leadsRight 25 = .ok (.invokevirtual 82, 3) := by decide +kernel
theorem dX2_leadsRight_28 : decode cX2_leadsRight 28 = .ok (.ireturn, 1) := by decide +kernel
theorem dX2_counted_0 : decode cX2_counted 0 = .ok (.aload_n 0, 1) := by decide +kernel
theorem dX2_counted_1 : decode cX2_counted 1 = .ok (.getfield 16, 3) := by decide +kernel
theorem dX2_counted_4 : decode cX2_counted 4 = .ok (.bipush 9, 2) := by decide +kernel
theorem dX2_counted_6 : decode cX2_counted 6 = .ok (.iload_n 1, 1) := by decide +kernel
theorem dX2_counted_7 : decode cX2_counted 7 = .ok (.imul, 1) := by decide +kernel
theorem dX2_counted_8 : decode cX2_counted 8 = .ok (.iload_n 2, 1) := by decide +kernel
theorem dX2_counted_9 : decode cX2_counted 9 = .ok (.iadd, 1) := by decide +kernel
theorem dX2_counted_10 : decode cX2_counted 10 = .ok (.iaload, 1) := by decide +kernel
theorem dX2_counted_11 : decode cX2_counted 11 = .ok (.iconst 5, 1) := by decide +kernel
theorem dX2_counted_12 : decode cX2_counted 12 = .ok (.if_icmp .ne 17, 3) := by decide +kernel
theorem dX2_counted_15 : decode cX2_counted 15 = .ok (.aload_n 0, 1) := by decide +kernel
theorem dX2_counted_16 : decode cX2_counted 16 = .ok (.getfield 26, 3) := by decide +kernel
theorem dX2_counted_19 : decode cX2_counted 19 = .ok (.bipush 9, 2) := by decide +kernel
theorem dX2_counted_21 : decode cX2_counted 21 = .ok (.iload_n 1, 1) := by decide +kernel
theorem dX2_counted_22 : decode cX2_counted 22 = .ok (.imul, 1) := by decide +kernel
theorem dX2_counted_23 : decode cX2_counted 23 = .ok (.iload_n 2, 1) := by decide +kernel
theorem dX2_counted_24 : decode cX2_counted 24 = .ok (.iadd, 1) := by decide +kernel
theorem dX2_counted_25 : decode cX2_counted 25 = .ok (.iaload, 1) := by decide +kernel
theorem dX2_counted_26 : decode cX2_counted 26 = .ok (.goto 4, 3) := by decide +kernel
theorem dX2_counted_29 : decode cX2_counted 29 = .ok (.iconst 0, 1) := by decide +kernel
theorem dX2_counted_30 : decode cX2_counted 30 = .ok (.ireturn, 1) := by decide +kernel
set_option maxRecDepth 20000 in
theorem ggX2_countAt_X2_isPlace : GoodIn wsX2_countAt wsX2_isPlace := goodIn_r _ [6, 7, 8, 9, 5, 10, 11, 12, 13, 14, 15, 16, 17, 18, 19, 30, 31, 32, 33, 34, 35, 36, 37, 38, 39] (by decide +kernel) (by decide +kernel)
set_option maxRecDepth 20000 in
theorem gX2_countAt_X2_isPlace : GoodIn wsX2_countAt (wsV RX2 74 RX2 yX2_isPlace wsX2_isPlace) := goodIn_app (goodIn_of _ (by decide +kernel)) ggX2_countAt_X2_isPlace
set_option maxRecDepth 20000 in
theorem ggX2_countAt_X2_counted : GoodIn wsX2_countAt wsX2_counted := goodIn_r _ [23, 24, 25, 30, 31, 32, 33, 34, 35, 36, 37, 38, 39] (by decide +kernel) (by decide +kernel)
set_option maxRecDepth 20000 in
theorem gX2_countAt_X2_counted : GoodIn wsX2_countAt (wsV RX2 98 RX2 yX2_counted wsX2_counted) := goodIn_app (goodIn_of _ (by decide +kernel)) ggX2_countAt_X2_counted
set_option maxRecDepth 20000 in
theorem ggX2_countAt_X2_no : GoodIn wsX2_countAt wsX2_no := goodIn_r _ [29, 1, 30, 31, 32, 33, 34, 35, 36, 37, 38, 39] (by decide +kernel) (by decide +kernel)
set_option maxRecDepth 20000 in
theorem gX2_countAt_X2_no : GoodIn wsX2_countAt (wsV RX2 71 RX2 yX2_no wsX2_no) := goodIn_app (goodIn_of _ (by decide +kernel)) ggX2_countAt_X2_no
theorem dX2_countAt_0 : decode cX2_countAt 0 = .ok (.aload_n 0, 1) := by decide +kernel
theorem dX2_countAt_1 : decode cX2_countAt 1 = .ok (.iconst 0, 1) := by decide +kernel
theorem dX2_countAt_2 : decode cX2_countAt 2 = .ok (.putfield 35, 3) := by decide +kernel
theorem dX2_countAt_5 : decode cX2_countAt 5 = .ok (.aload_n 0, 1) := by decide +kernel
theorem dX2_countAt_6 : decode cX2_countAt 6 = .ok (.iload_n 1, 1) := by decide +kernel
theorem dX2_countAt_7 : decode cX2_countAt 7 = .ok (.iload_n 2, 1) := by decide +kernel
theorem dX2_countAt_8 : decode cX2_countAt 8 = .ok (.invokevirtual 74, 3) := by decide +kernel
theorem dX2_countAt_11 : decode cX2_countAt 11 = .ok (.ifCond .eq 12, 3) := by decide +kernel
theorem dX2_countAt_14 : decode cX2_countAt 14 = .ok (.aload_n 0, 1) := by decide +kernel
theorem dX2_countAt_15 : decode cX2_countAt 15 = .ok (.iload_n 1, 1) := by decide +kernel
theorem dX2_countAt_16 : decode cX2_countAt 16 = .ok (.iload_n 2, 1) := by decide +kernel
theorem dX2_countAt_17 : decode cX2_countAt 17 = .ok (.invokevirtual 98, 3) := by decide +kernel
theorem dX2_countAt_20 : decode cX2_countAt 20 = .ok (.goto 8, 3) := by decide +kernel
theorem dX2_countAt_23 : decode cX2_countAt 23 = .ok (.aload_n 0, 1) := by decide +kernel
theorem dX2_countAt_24 : decode cX2_countAt 24 = .ok (.iconst 1, 1) := by decide +kernel
theorem dX2_countAt_25 : decode cX2_countAt 25 = .ok (.invokevirtual 71, 3) := by decide +kernel
theorem dX2_countAt_28 : decode cX2_countAt 28 = .ok (.ireturn, 1) := by decide +kernel
set_option maxRecDepth 20000 in
theorem ggX2_binOf_X2_isColumn : GoodIn wsX2_binOf wsX2_isColumn := goodIn_r _ [7, 8, 9, 10, 6, 11, 16, 17, 18, 19, 20, 21, 22, 23, 24, 25] (by decide +kernel) (by decide +kernel)
set_option maxRecDepth 20000 in
theorem gX2_binOf_X2_isColumn : GoodIn wsX2_binOf (wsV RX2 46 RX2 yX2_isColumn wsX2_isColumn) := goodIn_app (goodIn_of _ (by decide +kernel)) ggX2_binOf_X2_isColumn
set_option maxRecDepth 20000 in
theorem ggX2_binOf_X2_no : GoodIn wsX2_binOf wsX2_no := goodIn_r _ [15, 1, 16, 17, 18, 19, 20, 21, 22, 23, 24, 25] (by decide +kernel) (by decide +kernel)
set_option maxRecDepth 20000 in
theorem gX2_binOf_X2_no : GoodIn wsX2_binOf (wsV RX2 71 RX2 yX2_no wsX2_no) := goodIn_app (goodIn_of _ (by decide +kernel)) ggX2_binOf_X2_no
theorem dX2_binOf_0 : decode cX2_binOf 0 = .ok (.aload_n 0, 1) := by decide +kernel
theorem dX2_binOf_1 : decode cX2_binOf 1 = .ok (.iconst 0, 1) := by decide +kernel
theorem dX2_binOf_2 : decode cX2_binOf 2 = .ok (.putfield 35, 3) := by decide +kernel
theorem dX2_binOf_5 : decode cX2_binOf 5 = .ok (.aload_n 0, 1) := by decide +kernel
theorem dX2_binOf_6 : decode cX2_binOf 6 = .ok (.iload_n 1, 1) := by decide +kernel
theorem dX2_binOf_7 : decode cX2_binOf 7 = .ok (.invokevirtual 46, 3) := by decide +kernel
theorem dX2_binOf_10 : decode cX2_binOf 10 = .ok (.ifCond .eq 15, 3) := by decide +kernel
theorem dX2_binOf_13 : decode cX2_binOf 13 = .ok (.aload_n 0, 1) := by decide +kernel
theorem dX2_binOf_14 : decode cX2_binOf 14 = .ok (.getfield 26, 3) := by decide +kernel
theorem dX2_binOf_17 : decode cX2_binOf 17 = .ok (.bipush 72, 2) := by decide +kernel
theorem dX2_binOf_19 : decode cX2_binOf 19 = .ok (.iload_n 1, 1) := by decide +kernel
theorem dX2_binOf_20 : decode cX2_binOf 20 = .ok (.iadd, 1) := by decide +kernel
theorem dX2_binOf_21 : decode cX2_binOf 21 = .ok (.iaload, 1) := by decide +kernel
theorem dX2_binOf_22 : decode cX2_binOf 22 = .ok (.goto 8, 3) := by decide +kernel
theorem dX2_binOf_25 : decode cX2_binOf 25 = .ok (.aload_n 0, 1) := by decide +kernel
theorem dX2_binOf_26 : decode cX2_binOf 26 = .ok (.iconst 1, 1) := by decide +kernel
theorem dX2_binOf_27 : decode cX2_binOf 27 = .ok (.invokevirtual 71, 3) := by decide +kernel
theorem dX2_binOf_30 : decode cX2_binOf 30 = .ok (.ireturn, 1) := by decide +kernel
set_option maxRecDepth 20000 in
theorem ggX2_lost_X2_ok : GoodIn wsX2_lost wsX2_ok := goodIn_r _ [6, 7, 8, 9, 10, 11, 12, 13, 14, 15, 16, 17] (by decide +kernel) (by decide +kernel)
set_option maxRecDepth 20000 in
theorem gX2_lost_X2_ok : GoodIn wsX2_lost (wsV RX2 92 RX2 yX2_ok wsX2_ok) := goodIn_app (goodIn_of _ (by decide +kernel)) ggX2_lost_X2_ok
theorem dX2_lost_0 : decode cX2_lost 0 = .ok (.aload_n 0, 1) := by decide +kernel
theorem dX2_lost_1 : decode cX2_lost 1 = .ok (.aload_n 0, 1) := by decide +kernel
theorem dX2_lost_2 : decode cX2_lost 2 = .ok (.getfield 26, 3) := by decide +kernel
theorem dX2_lost_5 : decode cX2_lost 5 = .ok (.bipush 83, 2) := by decide +kernel
theorem dX2_lost_7 : decode cX2_lost 7 = .ok (.iaload, 1) := by decide +kernel
theorem dX2_lost_8 : decode cX2_lost 8 = .ok (.invokevirtual 92, 3) := by decide +kernel
theorem dX2_lost_11 : decode cX2_lost 11 = .ok (.ireturn, 1) := by decide +kernel
set_option maxRecDepth 20000 in
theorem ggX2_marblesIn_X2_isFrom : GoodIn wsX2_marblesIn wsX2_isFrom := goodIn_r _ [6] (by decide +kernel) (by decide +kernel)
set_option maxRecDepth 20000 in
theorem gX2_marblesIn_X2_isFrom : GoodIn wsX2_marblesIn (va_wsS RX2 38 yX2_isFrom wsX2_isFrom) := goodIn_app (goodIn_of _ (by decide +kernel)) ggX2_marblesIn_X2_isFrom
set_option maxRecDepth 20000 in
theorem ggX2_marblesIn_X2_no : GoodIn wsX2_marblesIn wsX2_no := goodIn_r _ [10, 1, 11, 12, 13, 14, 15, 16, 17, 18, 19, 20] (by decide +kernel) (by decide +kernel)
set_option maxRecDepth 20000 in
theorem gX2_marblesIn_X2_no : GoodIn wsX2_marblesIn (wsV RX2 71 RX2 yX2_no wsX2_no) := goodIn_app (goodIn_of _ (by decide +kernel)) ggX2_marblesIn_X2_no
theorem dX2_marblesIn_0 : decode cX2_marblesIn 0 = .ok (.aload_n 0, 1) := by decide +kernel
theorem dX2_marblesIn_1 : decode cX2_marblesIn 1 = .ok (.iconst 0, 1) := by decide +kernel
theorem dX2_marblesIn_2 : decode cX2_marblesIn 2 = .ok (.putfield 35, 3) := by decide +kernel
theorem dX2_marblesIn_5 : decode cX2_marblesIn 5 = .ok (.iload_n 1, 1) := by decide +kernel
theorem dX2_marblesIn_6 : decode cX2_marblesIn 6 = .ok (.iconst 0, 1) := by decide +kernel
theorem dX2_marblesIn_7 : decode cX2_marblesIn 7 = .ok (.iconst 1, 1) := by decide +kernel
theorem dX2_marblesIn_8 : decode cX2_marblesIn 8 = .ok (.invokestatic 38, 3) := by decide +kernel
theorem dX2_marblesIn_11 : decode cX2_marblesIn 11 = .ok (.ifCond .eq 15, 3) := by decide +kernel
theorem dX2_marblesIn_14 : decode cX2_marblesIn 14 = .ok (.aload_n 0, 1) := by decide +kernel
theorem dX2_marblesIn_15 : decode cX2_marblesIn 15 = .ok (.getfield 26, 3) := by decide +kernel
theorem dX2_marblesIn_18 : decode cX2_marblesIn 18 = .ok (.bipush 81, 2) := by decide +kernel
theorem dX2_marblesIn_20 : decode cX2_marblesIn 20 = .ok (.iload_n 1, 1) := by decide +kernel
theorem dX2_marblesIn_21 : decode cX2_marblesIn 21 = .ok (.iadd, 1) := by decide +kernel
theorem dX2_marblesIn_22 : decode cX2_marblesIn 22 = .ok (.iaload, 1) := by decide +kernel
theorem dX2_marblesIn_23 : decode cX2_marblesIn 23 = .ok (.goto 8, 3) := by decide +kernel
theorem dX2_marblesIn_26 : decode cX2_marblesIn 26 = .ok (.aload_n 0, 1) := by decide +kernel
theorem dX2_marblesIn_27 : decode cX2_marblesIn 27 = .ok (.iconst 1, 1) := by decide +kernel
theorem dX2_marblesIn_28 : decode cX2_marblesIn 28 = .ok (.invokevirtual 71, 3) := by decide +kernel
theorem dX2_marblesIn_31 : decode cX2_marblesIn 31 = .ok (.ireturn, 1) := by decide +kernel
set_option maxRecDepth 20000 in
theorem ggX2_columnOf_X2_isFrom : GoodIn wsX2_columnOf wsX2_isFrom := goodIn_r _ [6] (by decide +kernel) (by decide +kernel)
set_option maxRecDepth 20000 in
theorem gX2_columnOf_X2_isFrom : GoodIn wsX2_columnOf (va_wsS RX2 38 yX2_isFrom wsX2_isFrom) := goodIn_app (goodIn_of _ (by decide +kernel)) ggX2_columnOf_X2_isFrom
set_option maxRecDepth 20000 in
theorem ggX2_columnOf_X2_no : GoodIn wsX2_columnOf wsX2_no := goodIn_r _ [10, 1, 11, 12, 13, 14, 15, 16, 17, 18, 19, 20] (by decide +kernel) (by decide +kernel)
set_option maxRecDepth 20000 in
theorem gX2_columnOf_X2_no : GoodIn wsX2_columnOf (wsV RX2 71 RX2 yX2_no wsX2_no) := goodIn_app (goodIn_of _ (by decide +kernel)) ggX2_columnOf_X2_no
theorem dX2_columnOf_0 : decode cX2_columnOf 0 = .ok (.aload_n 0, 1) := by decide +kernel
theorem dX2_columnOf_1 : decode cX2_columnOf 1 = .ok (.iconst 0, 1) := by decide +kernel
theorem dX2_columnOf_2 : decode cX2_columnOf 2 = .ok (.putfield 35, 3) := by decide +kernel
theorem dX2_columnOf_5 : decode cX2_columnOf 5 = .ok (.iload_n 1, 1) := by decide +kernel
theorem dX2_columnOf_6 : decode cX2_columnOf 6 = .ok (.iconst 0, 1) := by decide +kernel
theorem dX2_columnOf_7 : decode cX2_columnOf 7 = .ok (.iconst 1, 1) := by decide +kernel
theorem dX2_columnOf_8 : decode cX2_columnOf 8 = .ok (.invokestatic 38, 3) := by decide +kernel
theorem dX2_columnOf_11 : decode cX2_columnOf 11 = .ok (.ifCond .eq 12, 3) := by decide +kernel
theorem dX2_columnOf_14 : decode cX2_columnOf 14 = .ok (.aload_n 0, 1) := by decide +kernel
theorem dX2_columnOf_15 : decode cX2_columnOf 15 = .ok (.getfield 23, 3) := by decide +kernel
theorem dX2_columnOf_18 : decode cX2_columnOf 18 = .ok (.iload_n 1, 1) := by decide +kernel
theorem dX2_columnOf_19 : decode cX2_columnOf 19 = .ok (.iaload, 1) := by decide +kernel
theorem dX2_columnOf_20 : decode cX2_columnOf 20 = .ok (.goto 8, 3) := by decide +kernel
theorem dX2_columnOf_23 : decode cX2_columnOf 23 = .ok (.aload_n 0, 1) := by decide +kernel
theorem dX2_columnOf_24 : decode cX2_columnOf 24 = .ok (.iconst 1, 1) := by decide +kernel
theorem dX2_columnOf_25 : decode cX2_columnOf 25 = .ok (.invokevirtual 71, 3) := by decide +kernel
theorem dX2_columnOf_28 : decode cX2_columnOf 28 = .ok (.ireturn, 1) := by decide +kernel
theorem dX2_togglesNow_0 : decode cX2_togglesNow 0 = .ok (.iconst 0, 1) := by decide +kernel
theorem dX2_togglesNow_1 : decode cX2_togglesNow 1 = .ok (.istore_n 1, 1) := by decide +kernel
theorem dX2_togglesNow_2 : decode cX2_togglesNow 2 = .ok (.iconst 0, 1) := by decide +kernel
theorem dX2_togglesNow_3 : decode cX2_togglesNow 3 = .ok (.istore_n 2, 1) := by decide +kernel
theorem dX2_togglesNow_4 : decode cX2_togglesNow 4 = .ok (.iload_n 2, 1) := by decide +kernel
theorem dX2_togglesNow_5 : decode cX2_togglesNow 5 = .ok (.bipush 72, 2) := by decide +kernel
theorem dX2_togglesNow_7 : decode cX2_togglesNow 7 = .ok (.if_icmp .ge 27, 3) := by decide +kernel
theorem dX2_togglesNow_10 : decode cX2_togglesNow 10 = .ok (.iload_n 1, 1) := by decide +kernel
theorem dX2_togglesNow_11 : decode cX2_togglesNow 11 = .ok (.aload_n 0, 1) := by decide +kernel
theorem dX2_togglesNow_12 : decode cX2_togglesNow 12 = .ok (.getfield 16, 3) := by decide +kernel
theorem dX2_togglesNow_15 : decode cX2_togglesNow 15 = .ok (.iload_n 2, 1) := by decide +kernel
theorem dX2_togglesNow_16 : decode cX2_togglesNow 16 = .ok (.iaload, 1) := by decide +kernel
theorem dX2_togglesNow_17 : decode cX2_togglesNow 17 = .ok (.iconst 3, 1) := by decide +kernel
theorem dX2_togglesNow_18 : decode cX2_togglesNow 18 = .ok (.if_icmp .ne 7, 3) := by decide +kernel
theorem dX2_togglesNow_21 : decode cX2_togglesNow 21 = .ok (.iconst 1, 1) := by decide +kernel
theorem dX2_togglesNow_22 : decode cX2_togglesNow 22 = .ok (.goto 4, 3) := by decide +kernel
theorem dX2_togglesNow_25 : decode cX2_togglesNow 25 = .ok (.iconst 0, 1) := by decide +kernel
theorem dX2_togglesNow_26 : decode cX2_togglesNow 26 = .ok (.iadd, 1) := by decide +kernel
theorem dX2_togglesNow_27 : decode cX2_togglesNow 27 = .ok (.istore_n 1, 1) := by decide +kernel
theorem dX2_togglesNow_28 : decode cX2_togglesNow 28 = .ok (.iinc 2 1, 3) := by decide +kernel
theorem dX2_togglesNow_31 : decode cX2_togglesNow 31 = .ok (.goto (-27), 3) := by decide +kernel
theorem dX2_togglesNow_34 : decode cX2_togglesNow 34 = .ok (.iload_n 1, 1) := by decide +kernel
theorem dX2_togglesNow_35 : decode cX2_togglesNow 35 = .ok (.ireturn, 1) := by decide +kernel
set_option maxRecDepth 20000 in
theorem ggX2_toggles_X2_togglesNow : GoodIn wsX2_toggles wsX2_togglesNow := goodIn_r _ [5, 6, 12, 13, 14, 15, 16, 17, 18, 19, 20, 21] (by decide +kernel) (by decide +kernel)
set_option maxRecDepth 20000 in
theorem gX2_toggles_X2_togglesNow : GoodIn wsX2_toggles (wsV RX2 101 RX2 yX2_togglesNow wsX2_togglesNow) := goodIn_app (goodIn_of _ (by decide +kernel)) ggX2_toggles_X2_togglesNow
set_option maxRecDepth 20000 in
theorem ggX2_toggles_X2_ok : GoodIn wsX2_toggles wsX2_ok := goodIn_r _ [10, 11, 12, 13, 14, 15, 16, 17, 18, 19, 20, 21] (by decide +kernel) (by decide +kernel)
set_option maxRecDepth 20000 in
theorem gX2_toggles_X2_ok : GoodIn wsX2_toggles (wsV RX2 92 RX2 yX2_ok wsX2_ok) := goodIn_app (goodIn_of _ (by decide +kernel)) ggX2_toggles_X2_ok
theorem dX2_toggles_0 : decode cX2_toggles 0 = .ok (.aload_n 0, 1) := by decide +kernel
theorem dX2_toggles_1 : decode cX2_toggles 1 = .ok (.aload_n 0, 1) := by decide +kernel
theorem dX2_toggles_2 : decode cX2_toggles 2 = .ok (.invokevirtual 101, 3) := by decide +kernel
theorem dX2_toggles_5 : decode cX2_toggles 5 = .ok (.invokevirtual 92, 3) := by decide +kernel
theorem dX2_toggles_8 : decode cX2_toggles 8 = .ok (.ireturn, 1) := by decide +kernel
set_option maxRecDepth 20000 in
theorem ggX2_number_X2_isRight : GoodIn wsX2_number wsX2_isRight := goodIn_r _ [7, 2, 8, 9, 10, 11, 12, 13, 14, 15, 16, 17, 18] (by decide +kernel) (by decide +kernel)
set_option maxRecDepth 20000 in
theorem gX2_number_X2_isRight : GoodIn wsX2_number (wsV RX2 95 RX2 yX2_isRight wsX2_isRight) := goodIn_app (goodIn_of _ (by decide +kernel)) ggX2_number_X2_isRight
theorem dX2_number_0 : decode cX2_number 0 = .ok (.iconst 0, 1) := by decide +kernel
theorem dX2_number_1 : decode cX2_number 1 = .ok (.istore_n 2, 1) := by decide +kernel
theorem dX2_number_2 : decode cX2_number 2 = .ok (.iconst 1, 1) := by decide +kernel
theorem dX2_number_3 : decode cX2_number 3 = .ok (.istore_n 3, 1) := by decide +kernel
theorem dX2_number_4 : decode cX2_number 4 = .ok (.iconst 0, 1) := by decide +kernel
theorem dX2_number_5 : decode cX2_number 5 = .ok (.istore 4, 2) := by decide +kernel
theorem dX2_number_7 : decode cX2_number 7 = .ok (.iload 4, 2) := by decide +kernel
theorem dX2_number_9 : decode cX2_number 9 = .ok (.aload_n 0, 1) := by decide +kernel
theorem dX2_number_10 : decode cX2_number 10 = .ok (.getfield 9, 3) := by decide +kernel
theorem dX2_number_13 : decode cX2_number 13 = .ok (.if_icmp .ge 50, 3) := by decide +kernel
theorem dX2_number_16 : decode cX2_number 16 = .ok (.aload_n 0, 1) := by decide +kernel
theorem dX2_number_17 : decode cX2_number 17 = .ok (.getfield 16, 3) := by decide +kernel
theorem dX2_number_20 : decode cX2_number 20 = .ok (.bipush 9, 2) := by decide +kernel
theorem dX2_number_22 : decode cX2_number 22 = .ok (.iload_n 1, 1) := by decide +kernel
theorem dX2_number_23 : decode cX2_number 23 = .ok (.imul, 1) := by decide +kernel
theorem dX2_number_24 : decode cX2_number 24 = .ok (.iload 4, 2) := by decide +kernel
theorem dX2_number_26 : decode cX2_number 26 = .ok (.iadd, 1) := by decide +kernel
theorem dX2_number_27 : decode cX2_number 27 = .ok (.iaload, 1) := by decide +kernel
theorem dX2_number_28 : decode cX2_number 28 = .ok (.iconst 3, 1) := by decide +kernel
theorem dX2_number_29 : decode cX2_number 29 = .ok (.if_icmp .eq 6, 3) := by decide +kernel
theorem dX2_number_32 : decode cX2_number 32 = .ok (.goto 25, 3) := by decide +kernel
theorem dX2_number_35 : decode cX2_number 35 = .ok (.iload_n 2, 1) := by decide +kernel
theorem dX2_number_36 : decode cX2_number 36 = .ok (.aload_n 0, 1) := by decide +kernel
theorem dX2_number_37 : decode cX2_number 37 = .ok (.iload_n 1, 1) := by decide +kernel
theorem dX2_number_38 : decode cX2_number 38 = .ok (.iload 4, 2) := by decide +kernel
theorem dX2_number_40 : decode cX2_number 40 = .ok (.invokevirtual 95, 3) := by decide +kernel
theorem dX2_number_43 : decode cX2_number 43 = .ok (.ifCond .eq 7, 3) := by decide +kernel
theorem dX2_number_46 : decode cX2_number 46 = .ok (.iload_n 3, 1) := by decide +kernel
theorem dX2_number_47 : decode cX2_number 47 = .ok (.goto 4, 3) := by decide +kernel
theorem dX2_number_50 : decode cX2_number 50 = .ok (.iconst 0, 1) := by decide +kernel
theorem dX2_number_51 : decode cX2_number 51 = .ok (.iadd, 1) := by decide +kernel
theorem dX2_number_52 : decode cX2_number 52 = .ok (.istore_n 2, 1) := by decide +kernel
theorem dX2_number_53 : decode cX2_number 53 = .ok (.iload_n 3, 1) := by decide +kernel
theorem dX2_number_54 : decode cX2_number 54 = .ok (.iconst 2, 1) := by decide +kernel
theorem dX2_number_55 : decode cX2_number 55 = .ok (.imul, 1) := by decide +kernel
theorem dX2_number_56 : decode cX2_number 56 = .ok (.istore_n 3, 1) := by decide +kernel
theorem dX2_number_57 : decode cX2_number 57 = .ok (.iinc 4 1, 3) := by decide +kernel
theorem dX2_number_60 : decode cX2_number 60 = .ok (.goto (-53), 3) := by decide +kernel
theorem dX2_number_63 : decode cX2_number 63 = .ok (.iload_n 2, 1) := by decide +kernel
theorem dX2_number_64 : decode cX2_number 64 = .ok (.ireturn, 1) := by decide +kernel
set_option maxRecDepth 20000 in
theorem ggX2_numberIn_X2_isRow : GoodIn wsX2_numberIn wsX2_isRow := goodIn_r _ [6, 7, 8, 9, 5, 10, 26, 27, 28, 29, 30, 31, 32, 33, 34, 35] (by decide +kernel) (by decide +kernel)
set_option maxRecDepth 20000 in
theorem gX2_numberIn_X2_isRow : GoodIn wsX2_numberIn (wsV RX2 42 RX2 yX2_isRow wsX2_isRow) := goodIn_app (goodIn_of _ (by decide +kernel)) ggX2_numberIn_X2_isRow
set_option maxRecDepth 20000 in
theorem ggX2_numberIn_X2_number : GoodIn wsX2_numberIn wsX2_number := goodIn_r _ [14, 15, 16, 17, 18, 19, 5, 20, 21, 26, 27, 28, 29, 30, 31, 32, 33, 34, 35] (by decide +kernel) (by decide +kernel)
set_option maxRecDepth 20000 in
theorem gX2_numberIn_X2_number : GoodIn wsX2_numberIn (wsV RX2 104 RX2 yX2_number wsX2_number) := goodIn_app (goodIn_of _ (by decide +kernel)) ggX2_numberIn_X2_number
set_option maxRecDepth 20000 in
theorem ggX2_numberIn_X2_no : GoodIn wsX2_numberIn wsX2_no := goodIn_r _ [25, 1, 26, 27, 28, 29, 30, 31, 32, 33, 34, 35] (by decide +kernel) (by decide +kernel)
set_option maxRecDepth 20000 in
theorem gX2_numberIn_X2_no : GoodIn wsX2_numberIn (wsV RX2 71 RX2 yX2_no wsX2_no) := goodIn_app (goodIn_of _ (by decide +kernel)) ggX2_numberIn_X2_no
theorem dX2_numberIn_0 : decode cX2_numberIn 0 = .ok (.aload_n 0, 1) := by decide +kernel
theorem dX2_numberIn_1 : decode cX2_numberIn 1 = .ok (.iconst 0, 1) := by decide +kernel
theorem dX2_numberIn_2 : decode cX2_numberIn 2 = .ok (.putfield 35, 3) := by decide +kernel
theorem dX2_numberIn_5 : decode cX2_numberIn 5 = .ok (.aload_n 0, 1) := by decide +kernel
theorem dX2_numberIn_6 : decode cX2_numberIn 6 = .ok (.iload_n 1, 1) := by decide +kernel
theorem dX2_numberIn_7 : decode cX2_numberIn 7 = .ok (.invokevirtual 42, 3) := by decide +kernel
theorem dX2_numberIn_10 : decode cX2_numberIn 10 = .ok (.ifCond .eq 11, 3) := by decide +kernel
theorem dX2_numberIn_13 : decode cX2_numberIn 13 = .ok (.aload_n 0, 1) := by decide +kernel
theorem dX2_numberIn_14 : decode cX2_numberIn 14 = .ok (.iload_n 1, 1) := by decide +kernel
theorem dX2_numberIn_15 : decode cX2_numberIn 15 = .ok (.invokevirtual 104, 3) := by decide +kernel
theorem dX2_numberIn_18 : decode cX2_numberIn 18 = .ok (.goto 8, 3) := by decide +kernel
theorem dX2_numberIn_21 : decode cX2_numberIn 21 = .ok (.aload_n 0, 1) := by decide +kernel
theorem dX2_numberIn_22 : decode cX2_numberIn 22 = .ok (.iconst 1, 1) := by decide +kernel
theorem dX2_numberIn_23 : decode cX2_numberIn 23 = .ok (.invokevirtual 71, 3) := by decide +kernel
theorem dX2_numberIn_26 : decode cX2_numberIn 26 = .ok (.ireturn, 1) := by decide +kernel
set_option maxRecDepth 20000 in
theorem ggX2_look_X2_keep : GoodIn wsX2_look wsX2_keep := goodIn_r _ [5, 6, 7, 8, 9, 10, 11, 37, 38, 39, 40, 41, 42, 43, 44, 45, 46] (by decide +kernel) (by decide +kernel)
set_option maxRecDepth 20000 in
theorem gX2_look_X2_keep : GoodIn wsX2_look (wsV RX2 107 RX2 yX2_keep wsX2_keep) := goodIn_app (goodIn_of _ (by decide +kernel)) ggX2_look_X2_keep
set_option maxRecDepth 20000 in
theorem ggX2_look_X2_fall : GoodIn wsX2_look wsX2_fall := goodIn_r _ [15, 16, 17, 18, 6, 19, 20, 21, 4, 22, 23, 24, 25, 26, 27, 28, 29, 30, 31, 32, 37, 38, 39, 40, 41, 42, 43, 44, 45, 46] (by decide +kernel) (by decide +kernel)
set_option maxRecDepth 20000 in
theorem gX2_look_X2_fall : GoodIn wsX2_look (wsV RX2 62 RX2 yX2_fall wsX2_fall) := goodIn_app (goodIn_of _ (by decide +kernel)) ggX2_look_X2_fall
set_option maxRecDepth 20000 in
theorem ggX2_look_X2_bringBack : GoodIn wsX2_look wsX2_bringBack := goodIn_r _ [36, 7, 6, 8, 9, 10, 11, 37, 38, 39, 40, 41, 42, 43, 44, 45, 46] (by decide +kernel) (by decide +kernel)
set_option maxRecDepth 20000 in
theorem gX2_look_X2_bringBack : GoodIn wsX2_look (wsV RX2 110 RX2 yX2_bringBack wsX2_bringBack) := goodIn_app (goodIn_of _ (by decide +kernel)) ggX2_look_X2_bringBack
theorem dX2_look_0 : decode cX2_look 0 = .ok (.aload_n 0, 1) := by decide +kernel
theorem dX2_look_1 : decode cX2_look 1 = .ok (.invokevirtual 107, 3) := by decide +kernel
theorem dX2_look_4 : decode cX2_look 4 = .ok (.iconst (-1), 1) := by decide +kernel
theorem dX2_look_5 : decode cX2_look 5 = .ok (.istore_n 3, 1) := by decide +kernel
theorem dX2_look_6 : decode cX2_look 6 = .ok (.iconst 0, 1) := by decide +kernel
theorem dX2_look_7 : decode cX2_look 7 = .ok (.istore 4, 2) := by decide +kernel
theorem dX2_look_9 : decode cX2_look 9 = .ok (.iload 4, 2) := by decide +kernel
theorem dX2_look_11 : decode cX2_look 11 = .ok (.iload_n 2, 1) := by decide +kernel
theorem dX2_look_12 : decode cX2_look 12 = .ok (.if_icmp .ge 15, 3) := by decide +kernel
theorem dX2_look_15 : decode cX2_look 15 = .ok (.aload_n 0, 1) := by decide +kernel
theorem dX2_look_16 : decode cX2_look 16 = .ok (.iload_n 1, 1) := by decide +kernel
theorem dX2_look_17 : decode cX2_look 17 = .ok (.invokevirtual 62, 3) := by decide +kernel
theorem dX2_look_20 : decode cX2_look 20 = .ok (.istore_n 3, 1) := by decide +kernel
theorem dX2_look_21 : decode cX2_look 21 = .ok (.iinc 4 1, 3) := by decide +kernel
theorem dX2_look_24 : decode cX2_look 24 = .ok (.goto (-15), 3) := by decide +kernel
theorem dX2_look_27 : decode cX2_look 27 = .ok (.aload_n 0, 1) := by decide +kernel
theorem dX2_look_28 : decode cX2_look 28 = .ok (.invokevirtual 110, 3) := by decide +kernel
theorem dX2_look_31 : decode cX2_look 31 = .ok (.iload_n 3, 1) := by decide +kernel
theorem dX2_look_32 : decode cX2_look 32 = .ok (.ireturn, 1) := by decide +kernel
set_option maxRecDepth 20000 in
theorem ggX2_wouldLand_X2_isColumn : GoodIn wsX2_wouldLand wsX2_isColumn := goodIn_r _ [6, 7, 8, 9, 5, 10, 46, 47, 48, 49, 50, 51, 52, 53, 54, 55] (by decide +kernel) (by decide +kernel)
set_option maxRecDepth 20000 in
theorem gX2_wouldLand_X2_isColumn : GoodIn wsX2_wouldLand (wsV RX2 46 RX2 yX2_isColumn wsX2_isColumn) := goodIn_app (goodIn_of _ (by decide +kernel)) ggX2_wouldLand_X2_isColumn
set_option maxRecDepth 20000 in
theorem ggX2_wouldLand_X2_look : GoodIn wsX2_wouldLand wsX2_look := goodIn_r _ [14, 15, 16, 17, 5, 18, 19, 20, 21, 22, 23, 24, 25, 26, 27, 28, 29, 30, 31, 32, 33, 34, 35, 36, 37, 2, 3, 4, 6, 7, 8, 9, 10, 38, 39, 40, 41, 46, 47, 48, 49, 50, 51, 52, 53, 54, 55] (by decide +kernel) (by decide +kernel)
set_option maxRecDepth 20000 in
theorem gX2_wouldLand_X2_look : GoodIn wsX2_wouldLand (wsV RX2 113 RX2 yX2_look wsX2_look) := goodIn_app (goodIn_of _ (by decide +kernel)) ggX2_wouldLand_X2_look
set_option maxRecDepth 20000 in
theorem ggX2_wouldLand_X2_no : GoodIn wsX2_wouldLand wsX2_no := goodIn_r _ [45, 1, 46, 47, 48, 49, 50, 51, 52, 53, 54, 55] (by decide +kernel) (by decide +kernel)
set_option maxRecDepth 20000 in
theorem gX2_wouldLand_X2_no : GoodIn wsX2_wouldLand (wsV RX2 71 RX2 yX2_no wsX2_no) := goodIn_app (goodIn_of _ (by decide +kernel)) ggX2_wouldLand_X2_no
theorem dX2_wouldLand_0 : decode cX2_wouldLand 0 = .ok (.aload_n 0, 1) := by decide +kernel
theorem dX2_wouldLand_1 : decode cX2_wouldLand 1 = .ok (.iconst 0, 1) := by decide +kernel
theorem dX2_wouldLand_2 : decode cX2_wouldLand 2 = .ok (.putfield 35, 3) := by decide +kernel
theorem dX2_wouldLand_5 : decode cX2_wouldLand 5 = .ok (.aload_n 0, 1) := by decide +kernel
theorem dX2_wouldLand_6 : decode cX2_wouldLand 6 = .ok (.iload_n 1, 1) := by decide +kernel
theorem dX2_wouldLand_7 : decode cX2_wouldLand 7 = .ok (.invokevirtual 46, 3) := by decide +kernel
theorem dX2_wouldLand_10 : decode cX2_wouldLand 10 = .ok (.ifCond .eq 12, 3) := by decide +kernel
theorem dX2_wouldLand_13 : decode cX2_wouldLand 13 = .ok (.aload_n 0, 1) := by decide +kernel
theorem dX2_wouldLand_14 : decode cX2_wouldLand 14 = .ok (.iload_n 1, 1) := by decide +kernel
theorem dX2_wouldLand_15 : decode cX2_wouldLand 15 = .ok (.iconst 1, 1) := by decide +kernel
theorem dX2_wouldLand_16 : decode cX2_wouldLand 16 = .ok (.invokevirtual 113, 3) := by decide +kernel
theorem dX2_wouldLand_19 : decode cX2_wouldLand 19 = .ok (.goto 8, 3) := by decide +kernel
theorem dX2_wouldLand_22 : decode cX2_wouldLand 22 = .ok (.aload_n 0, 1) := by decide +kernel
theorem dX2_wouldLand_23 : decode cX2_wouldLand 23 = .ok (.iconst 1, 1) := by decide +kernel
theorem dX2_wouldLand_24 : decode cX2_wouldLand 24 = .ok (.invokevirtual 71, 3) := by decide +kernel
theorem dX2_wouldLand_27 : decode cX2_wouldLand 27 = .ok (.ireturn, 1) := by decide +kernel
set_option maxRecDepth 20000 in
theorem ggX2_wouldBeIn_X2_isColumn : GoodIn wsX2_wouldBeIn wsX2_isColumn := goodIn_r _ [7, 8, 9, 10, 6, 11, 50, 51, 52, 53, 54, 55, 56, 57, 58, 59] (by decide +kernel) (by decide +kernel)
set_option maxRecDepth 20000 in
theorem gX2_wouldBeIn_X2_isColumn : GoodIn wsX2_wouldBeIn (wsV RX2 46 RX2 yX2_isColumn wsX2_isColumn) := goodIn_app (goodIn_of _ (by decide +kernel)) ggX2_wouldBeIn_X2_isColumn
set_option maxRecDepth 20000 in
theorem ggX2_wouldBeIn_X2_isRow : GoodIn wsX2_wouldBeIn wsX2_isRow := goodIn_r _ [15, 16, 9, 10, 6, 11, 50, 51, 52, 53, 54, 55, 56, 57, 58, 59] (by decide +kernel) (by decide +kernel)
set_option maxRecDepth 20000 in
theorem gX2_wouldBeIn_X2_isRow : GoodIn wsX2_wouldBeIn (wsV RX2 42 RX2 yX2_isRow wsX2_isRow) := goodIn_app (goodIn_of _ (by decide +kernel)) ggX2_wouldBeIn_X2_isRow
set_option maxRecDepth 20000 in
theorem ggX2_wouldBeIn_X2_no : GoodIn wsX2_wouldBeIn wsX2_no := goodIn_r _ [20, 1, 50, 51, 52, 53, 54, 55, 56, 57, 58, 59] (by decide +kernel) (by decide +kernel)
set_option maxRecDepth 20000 in
theorem gX2_wouldBeIn_X2_no : GoodIn wsX2_wouldBeIn (wsV RX2 71 RX2 yX2_no wsX2_no) := goodIn_app (goodIn_of _ (by decide +kernel)) ggX2_wouldBeIn_X2_no
set_option maxRecDepth 20000 in
theorem ggX2_wouldBeIn_X2_look : GoodIn wsX2_wouldBeIn wsX2_look := goodIn_r _ [24, 25, 26, 27, 6, 28, 29, 30, 31, 32, 33, 34, 35, 36, 37, 38, 39, 2, 16, 40, 41, 42, 43, 44, 45, 3, 4, 5, 7, 8, 9, 10, 11, 46, 47, 48, 49, 50, 51, 52, 53, 54, 55, 56, 57, 58, 59] (by decide +kernel) (by decide +kernel)
set_option maxRecDepth 20000 in
theorem gX2_wouldBeIn_X2_look : GoodIn wsX2_wouldBeIn (wsV RX2 113 RX2 yX2_look wsX2_look) := goodIn_app (goodIn_of _ (by decide +kernel)) ggX2_wouldBeIn_X2_look
theorem dX2_wouldBeIn_0 : decode cX2_wouldBeIn 0 = .ok (.aload_n 0, 1) := by decide +kernel
theorem dX2_wouldBeIn_1 : decode cX2_wouldBeIn 1 = .ok (.iconst 0, 1) := by decide +kernel
theorem dX2_wouldBeIn_2 : decode cX2_wouldBeIn 2 = .ok (.putfield 35, 3) := by decide +kernel
theorem dX2_wouldBeIn_5 : decode cX2_wouldBeIn 5 = .ok (.aload_n 0, 1) := by decide +kernel
theorem dX2_wouldBeIn_6 : decode cX2_wouldBeIn 6 = .ok (.iload_n 1, 1) := by decide +kernel
theorem dX2_wouldBeIn_7 : decode cX2_wouldBeIn 7 = .ok (.invokevirtual 46, 3) := by decide +kernel
theorem dX2_wouldBeIn_10 : decode cX2_wouldBeIn 10 = .ok (.ifCond .eq 11, 3) := by decide +kernel
theorem dX2_wouldBeIn_13 : decode cX2_wouldBeIn 13 = .ok (.aload_n 0, 1) := by decide +kernel
theorem dX2_wouldBeIn_14 : decode cX2_wouldBeIn 14 = .ok (.iload_n 2, 1) := by decide +kernel
theorem dX2_wouldBeIn_15 : decode cX2_wouldBeIn 15 = .ok (.invokevirtual 42, 3) := by decide +kernel
theorem dX2_wouldBeIn_18 : decode cX2_wouldBeIn 18 = .ok (.ifCond .ne 9, 3) := by decide +kernel
theorem dX2_wouldBeIn_21 : decode cX2_wouldBeIn 21 = .ok (.aload_n 0, 1) := by decide +kernel
theorem dX2_wouldBeIn_22 : decode cX2_wouldBeIn 22 = .ok (.iconst 1, 1) := by decide +kernel
theorem dX2_wouldBeIn_23 : decode cX2_wouldBeIn 23 = .ok (.invokevirtual 71, 3) := by decide +kernel
theorem dX2_wouldBeIn_26 : decode cX2_wouldBeIn 26 = .ok (.ireturn, 1) := by decide +kernel
theorem dX2_wouldBeIn_27 : decode cX2_wouldBeIn 27 = .ok (.aload_n 0, 1) := by decide +kernel
theorem dX2_wouldBeIn_28 : decode cX2_wouldBeIn 28 = .ok (.iload_n 1, 1) := by decide +kernel
theorem dX2_wouldBeIn_29 : decode cX2_wouldBeIn 29 = .ok (.iconst 1, 1) := by decide +kernel
theorem dX2_wouldBeIn_30 : decode cX2_wouldBeIn 30 = .ok (.invokevirtual 113, 3) := by decide +kernel
theorem dX2_wouldBeIn_33 : decode cX2_wouldBeIn 33 = .ok (.pop, 1) := by decide +kernel
theorem dX2_wouldBeIn_34 : decode cX2_wouldBeIn 34 = .ok (.aload_n 0, 1) := by decide +kernel
theorem dX2_wouldBeIn_35 : decode cX2_wouldBeIn 35 = .ok (.getfield 32, 3) := by decide +kernel
theorem dX2_wouldBeIn_38 : decode cX2_wouldBeIn 38 = .ok (.iload_n 2, 1) := by decide +kernel
theorem dX2_wouldBeIn_39 : decode cX2_wouldBeIn 39 = .ok (.iaload, 1) := by decide +kernel
theorem dX2_wouldBeIn_40 : decode cX2_wouldBeIn 40 = .ok (.ireturn, 1) := by decide +kernel
set_option maxRecDepth 20000 in
theorem ggX2_turnedBy_X2_look : GoodIn wsX2_turnedBy wsX2_look := goodIn_r _ [6, 7, 8, 9, 5, 10, 11, 12, 13, 14, 15, 16, 17, 18, 19, 20, 1, 21, 22, 23, 24, 25, 26, 27, 28, 29, 30, 31, 32, 33, 34, 35, 36, 37, 38, 39, 40, 41, 42, 43, 44, 45, 46, 47, 48, 49, 50] (by decide +kernel) (by decide +kernel)
set_option maxRecDepth 20000 in
theorem gX2_turnedBy_X2_look : GoodIn wsX2_turnedBy (wsV RX2 113 RX2 yX2_look wsX2_look) := goodIn_app (goodIn_of _ (by decide +kernel)) ggX2_turnedBy_X2_look
theorem dX2_turnedBy_0 : decode cX2_turnedBy 0 = .ok (.aload_n 0, 1) := by decide +kernel
theorem dX2_turnedBy_1 : decode cX2_turnedBy 1 = .ok (.iload_n 1, 1) := by decide +kernel
theorem dX2_turnedBy_2 : decode cX2_turnedBy 2 = .ok (.iconst 1, 1) := by decide +kernel
theorem dX2_turnedBy_3 : decode cX2_turnedBy 3 = .ok (.invokevirtual 113, 3) := by decide +kernel
theorem dX2_turnedBy_6 : decode cX2_turnedBy 6 = .ok (.pop, 1) := by decide +kernel
theorem dX2_turnedBy_7 : decode cX2_turnedBy 7 = .ok (.aload_n 0, 1) := by decide +kernel
theorem dX2_turnedBy_8 : decode cX2_turnedBy 8 = .ok (.getfield 55, 3) := by decide +kernel
theorem dX2_turnedBy_11 : decode cX2_turnedBy 11 = .ok (.ireturn, 1) := by decide +kernel
set_option maxRecDepth 20000 in
theorem ggX2_wouldTurn_X2_isColumn : GoodIn wsX2_wouldTurn wsX2_isColumn := goodIn_r _ [6, 7, 8, 9, 5, 10, 50, 51, 52, 53, 54, 55, 56, 57, 58, 59] (by decide +kernel) (by decide +kernel)
set_option maxRecDepth 20000 in
theorem gX2_wouldTurn_X2_isColumn : GoodIn wsX2_wouldTurn (wsV RX2 46 RX2 yX2_isColumn wsX2_isColumn) := goodIn_app (goodIn_of _ (by decide +kernel)) ggX2_wouldTurn_X2_isColumn
set_option maxRecDepth 20000 in
theorem ggX2_wouldTurn_X2_turnedBy : GoodIn wsX2_wouldTurn wsX2_turnedBy := goodIn_r _ [14, 15, 16, 17, 18, 5, 19, 20, 21, 22, 23, 24, 25, 26, 27, 28, 29, 30, 31, 32, 33, 34, 35, 36, 37, 38, 39, 40, 41, 2, 3, 4, 6, 7, 8, 9, 10, 42, 43, 44, 45, 50, 51, 52, 53, 54, 55, 56, 57, 58, 59] (by decide +kernel) (by decide +kernel)
set_option maxRecDepth 20000 in
theorem gX2_wouldTurn_X2_turnedBy : GoodIn wsX2_wouldTurn (wsV RX2 116 RX2 yX2_turnedBy wsX2_turnedBy) := goodIn_app (goodIn_of _ (by decide +kernel)) ggX2_wouldTurn_X2_turnedBy
set_option maxRecDepth 20000 in
theorem ggX2_wouldTurn_X2_no : GoodIn wsX2_wouldTurn wsX2_no := goodIn_r _ [49, 1, 50, 51, 52, 53, 54, 55, 56, 57, 58, 59] (by decide +kernel) (by decide +kernel)
set_option maxRecDepth 20000 in
theorem gX2_wouldTurn_X2_no : GoodIn wsX2_wouldTurn (wsV RX2 71 RX2 yX2_no wsX2_no) := goodIn_app (goodIn_of _ (by decide +kernel)) ggX2_wouldTurn_X2_no
theorem dX2_wouldTurn_0 : decode cX2_wouldTurn 0 = .ok (.aload_n 0, 1) := by decide +kernel
theorem dX2_wouldTurn_1 : decode cX2_wouldTurn 1 = .ok (.iconst 0, 1) := by decide +kernel
theorem dX2_wouldTurn_2 : decode cX2_wouldTurn 2 = .ok (.putfield 35, 3) := by decide +kernel
theorem dX2_wouldTurn_5 : decode cX2_wouldTurn 5 = .ok (.aload_n 0, 1) := by decide +kernel
theorem dX2_wouldTurn_6 : decode cX2_wouldTurn 6 = .ok (.iload_n 1, 1) := by decide +kernel
theorem dX2_wouldTurn_7 : decode cX2_wouldTurn 7 = .ok (.invokevirtual 46, 3) := by decide +kernel
theorem dX2_wouldTurn_10 : decode cX2_wouldTurn 10 = .ok (.ifCond .eq 11, 3) := by decide +kernel
theorem dX2_wouldTurn_13 : decode cX2_wouldTurn 13 = .ok (.aload_n 0, 1) := by decide +kernel
theorem dX2_wouldTurn_14 : decode cX2_wouldTurn 14 = .ok (.iload_n 1, 1) := by decide +kernel
theorem dX2_wouldTurn_15 : decode cX2_wouldTurn 15 = .ok (.invokevirtual 116, 3) := by decide +kernel
theorem dX2_wouldTurn_18 : decode cX2_wouldTurn 18 = .ok (.goto 8, 3) := by decide +kernel
theorem dX2_wouldTurn_21 : decode cX2_wouldTurn 21 = .ok (.aload_n 0, 1) := by decide +kernel
theorem dX2_wouldTurn_22 : decode cX2_wouldTurn 22 = .ok (.iconst 1, 1) := by decide +kernel
theorem dX2_wouldTurn_23 : decode cX2_wouldTurn 23 = .ok (.invokevirtual 71, 3) := by decide +kernel
theorem dX2_wouldTurn_26 : decode cX2_wouldTurn 26 = .ok (.ireturn, 1) := by decide +kernel
set_option maxRecDepth 20000 in
theorem ggX2_lastLands_X2_isColumn : GoodIn wsX2_lastLands wsX2_isColumn := goodIn_r _ [6, 7, 8, 9, 5, 10, 46, 47, 48, 49, 50, 51, 52, 53, 54, 55] (by decide +kernel) (by decide +kernel)
set_option maxRecDepth 20000 in
theorem gX2_lastLands_X2_isColumn : GoodIn wsX2_lastLands (wsV RX2 46 RX2 yX2_isColumn wsX2_isColumn) := goodIn_app (goodIn_of _ (by decide +kernel)) ggX2_lastLands_X2_isColumn
set_option maxRecDepth 20000 in
theorem ggX2_lastLands_X2_no : GoodIn wsX2_lastLands wsX2_no := goodIn_r _ [14, 1, 46, 47, 48, 49, 50, 51, 52, 53, 54, 55] (by decide +kernel) (by decide +kernel)
set_option maxRecDepth 20000 in
theorem gX2_lastLands_X2_no : GoodIn wsX2_lastLands (wsV RX2 71 RX2 yX2_no wsX2_no) := goodIn_app (goodIn_of _ (by decide +kernel)) ggX2_lastLands_X2_no
set_option maxRecDepth 20000 in
theorem ggX2_lastLands_X2_isFrom : GoodIn wsX2_lastLands wsX2_isFrom := goodIn_r _ [10] (by decide +kernel) (by decide +kernel)
set_option maxRecDepth 20000 in
theorem gX2_lastLands_X2_isFrom : GoodIn wsX2_lastLands (va_wsS RX2 38 yX2_isFrom wsX2_isFrom) := goodIn_app (goodIn_of _ (by decide +kernel)) ggX2_lastLands_X2_isFrom
set_option maxRecDepth 20000 in
theorem ggX2_lastLands_X2_look : GoodIn wsX2_lastLands wsX2_look := goodIn_r _ [18, 19, 20, 21, 5, 22, 23, 24, 25, 26, 27, 28, 29, 30, 31, 32, 33, 34, 35, 36, 37, 38, 39, 40, 41, 2, 3, 4, 6, 7, 8, 9, 10, 42, 43, 44, 45, 46, 47, 48, 49, 50, 51, 52, 53, 54, 55] (by decide +kernel) (by decide +kernel)
set_option maxRecDepth 20000 in
theorem gX2_lastLands_X2_look : GoodIn wsX2_lastLands (wsV RX2 113 RX2 yX2_look wsX2_look) := goodIn_app (goodIn_of _ (by decide +kernel)) ggX2_lastLands_X2_look
theorem dX2_lastLands_0 : decode cX2_lastLands 0 = .ok (.aload_n 0, 1) := by decide +kernel
theorem dX2_lastLands_1 : decode cX2_lastLands 1 = .ok (.iconst 0, 1) := by decide +kernel
theorem dX2_lastLands_2 : decode cX2_lastLands 2 = .ok (.putfield 35, 3) := by decide +kernel
theorem dX2_lastLands_5 : decode cX2_lastLands 5 = .ok (.aload_n 0, 1) := by decide +kernel
theorem dX2_lastLands_6 : decode cX2_lastLands 6 = .ok (.iload_n 1, 1) := by decide +kernel
theorem dX2_lastLands_7 : decode cX2_lastLands 7 = .ok (.invokevirtual 46, 3) := by decide +kernel
theorem dX2_lastLands_10 : decode cX2_lastLands 10 = .ok (.ifCond .ne 9, 3) := by decide +kernel
theorem dX2_lastLands_13 : decode cX2_lastLands 13 = .ok (.aload_n 0, 1) := by decide +kernel
theorem dX2_lastLands_14 : decode cX2_lastLands 14 = .ok (.iconst 1, 1) := by decide +kernel
theorem dX2_lastLands_15 : decode cX2_lastLands 15 = .ok (.invokevirtual 71, 3) := by decide +kernel
theorem dX2_lastLands_18 : decode cX2_lastLands 18 = .ok (.ireturn, 1) := by decide +kernel
theorem dX2_lastLands_19 : decode cX2_lastLands 19 = .ok (.iload_n 2, 1) := by decide +kernel
theorem dX2_lastLands_20 : decode cX2_lastLands 20 = .ok (.iconst 1, 1) := by decide +kernel
theorem dX2_lastLands_21 : decode cX2_lastLands 21 = .ok (.bipush 60, 2) := by decide +kernel
theorem dX2_lastLands_23 : decode cX2_lastLands 23 = .ok (.invokestatic 38, 3) := by decide +kernel
theorem dX2_lastLands_26 : decode cX2_lastLands 26 = .ok (.ifCond .eq 12, 3) := by decide +kernel
theorem dX2_lastLands_29 : decode cX2_lastLands 29 = .ok (.aload_n 0, 1) := by decide +kernel
theorem dX2_lastLands_30 : decode cX2_lastLands 30 = .ok (.iload_n 1, 1) := by decide +kernel
theorem dX2_lastLands_31 : decode cX2_lastLands 31 = .ok (.iload_n 2, 1) := by decide +kernel
theorem dX2_lastLands_32 : decode cX2_lastLands 32 = .ok (.invokevirtual 113, 3) := by decide +kernel
theorem dX2_lastLands_35 : decode cX2_lastLands 35 = .ok (.goto 8, 3) := by decide +kernel
theorem dX2_lastLands_38 : decode cX2_lastLands 38 = .ok (.aload_n 0, 1) := by decide +kernel
theorem dX2_lastLands_39 : decode cX2_lastLands 39 = .ok (.iconst 2, 1) := by decide +kernel
theorem dX2_lastLands_40 : decode cX2_lastLands 40 = .ok (.invokevirtual 71, 3) := by decide +kernel
theorem dX2_lastLands_43 : decode cX2_lastLands 43 = .ok (.ireturn, 1) := by decide +kernel
theorem dX2_isAsKept_0 : decode cX2_isAsKept 0 = .ok (.iconst 0, 1) := by decide +kernel
theorem dX2_isAsKept_1 : decode cX2_isAsKept 1 = .ok (.istore_n 1, 1) := by decide +kernel
theorem dX2_isAsKept_2 : decode cX2_isAsKept 2 = .ok (.iload_n 1, 1) := by decide +kernel
theorem dX2_isAsKept_3 : decode cX2_isAsKept 3 = .ok (.bipush 72, 2) := by decide +kernel
theorem dX2_isAsKept_5 : decode cX2_isAsKept 5 = .ok (.if_icmp .ge 26, 3) := by decide +kernel
theorem dX2_isAsKept_8 : decode cX2_isAsKept 8 = .ok (.aload_n 0, 1) := by decide +kernel
theorem dX2_isAsKept_9 : decode cX2_isAsKept 9 = .ok (.getfield 26, 3) := by decide +kernel
theorem dX2_isAsKept_12 : decode cX2_isAsKept 12 = .ok (.iload_n 1, 1) := by decide +kernel
theorem dX2_isAsKept_13 : decode cX2_isAsKept 13 = .ok (.iaload, 1) := by decide +kernel
theorem dX2_isAsKept_14 : decode cX2_isAsKept 14 = .ok (.aload_n 0, 1) := by decide +kernel
theorem dX2_isAsKept_15 : decode cX2_isAsKept 15 = .ok (.getfield 29, 3) := by decide +kernel
theorem dX2_isAsKept_18 : decode cX2_isAsKept 18 = .ok (.iload_n 1, 1) := by decide +kernel
theorem dX2_isAsKept_19 : decode cX2_isAsKept 19 = .ok (.iaload, 1) := by decide +kernel
theorem dX2_isAsKept_20 : decode cX2_isAsKept 20 = .ok (.if_icmp .eq 5, 3) := by decide +kernel
theorem dX2_isAsKept_23 : decode cX2_isAsKept 23 = .ok (.iconst 0, 1) := by decide +kernel
theorem dX2_isAsKept_24 : decode cX2_isAsKept 24 = .ok (.ireturn, 1) := by decide +kernel
theorem dX2_isAsKept_25 : decode cX2_isAsKept 25 = .ok (.iinc 1 1, 3) := by decide +kernel
theorem dX2_isAsKept_28 : decode cX2_isAsKept 28 = .ok (.goto (-26), 3) := by decide +kernel
theorem dX2_isAsKept_31 : decode cX2_isAsKept 31 = .ok (.iconst 1, 1) := by decide +kernel
theorem dX2_isAsKept_32 : decode cX2_isAsKept 32 = .ok (.ireturn, 1) := by decide +kernel
set_option maxRecDepth 20000 in
theorem ggX2_asBefore_X2_keep : GoodIn wsX2_asBefore wsX2_keep := goodIn_r _ [5, 6, 7, 8, 9, 10, 11, 41, 42, 43, 44, 45, 46, 47, 48, 49, 50] (by decide +kernel) (by decide +kernel)
set_option maxRecDepth 20000 in
theorem gX2_asBefore_X2_keep : GoodIn wsX2_asBefore (wsV RX2 107 RX2 yX2_keep wsX2_keep) := goodIn_app (goodIn_of _ (by decide +kernel)) ggX2_asBefore_X2_keep
set_option maxRecDepth 20000 in
theorem ggX2_asBefore_X2_fall : GoodIn wsX2_asBefore wsX2_fall := goodIn_r _ [15, 16, 17, 18, 6, 19, 20, 21, 4, 22, 23, 24, 25, 26, 27, 28, 29, 30, 31, 32, 41, 42, 43, 44, 45, 46, 47, 48, 49, 50] (by decide +kernel) (by decide +kernel)
set_option maxRecDepth 20000 in
theorem gX2_asBefore_X2_fall : GoodIn wsX2_asBefore (wsV RX2 62 RX2 yX2_fall wsX2_fall) := goodIn_app (goodIn_of _ (by decide +kernel)) ggX2_asBefore_X2_fall
set_option maxRecDepth 20000 in
theorem ggX2_asBefore_X2_isAsKept : GoodIn wsX2_asBefore wsX2_isAsKept := goodIn_r _ [36, 6, 7, 41, 42, 43, 44, 45, 46, 47, 48, 49, 50] (by decide +kernel) (by decide +kernel)
set_option maxRecDepth 20000 in
theorem gX2_asBefore_X2_isAsKept : GoodIn wsX2_asBefore (wsV RX2 119 RX2 yX2_isAsKept wsX2_isAsKept) := goodIn_app (goodIn_of _ (by decide +kernel)) ggX2_asBefore_X2_isAsKept
set_option maxRecDepth 20000 in
theorem ggX2_asBefore_X2_bringBack : GoodIn wsX2_asBefore wsX2_bringBack := goodIn_r _ [40, 7, 6, 8, 9, 10, 11, 41, 42, 43, 44, 45, 46, 47, 48, 49, 50] (by decide +kernel) (by decide +kernel)
set_option maxRecDepth 20000 in
theorem gX2_asBefore_X2_bringBack : GoodIn wsX2_asBefore (wsV RX2 110 RX2 yX2_bringBack wsX2_bringBack) := goodIn_app (goodIn_of _ (by decide +kernel)) ggX2_asBefore_X2_bringBack
theorem dX2_asBefore_0 : decode cX2_asBefore 0 = .ok (.aload_n 0, 1) := by decide +kernel
theorem dX2_asBefore_1 : decode cX2_asBefore 1 = .ok (.invokevirtual 107, 3) := by decide +kernel
theorem dX2_asBefore_4 : decode cX2_asBefore 4 = .ok (.iconst (-1), 1) := by decide +kernel
theorem dX2_asBefore_5 : decode cX2_asBefore 5 = .ok (.istore_n 2, 1) := by decide +kernel
theorem dX2_asBefore_6 : decode cX2_asBefore 6 = .ok (.iconst 1, 1) := by decide +kernel
theorem dX2_asBefore_7 : decode cX2_asBefore 7 = .ok (.istore_n 3, 1) := by decide +kernel
theorem dX2_asBefore_8 : decode cX2_asBefore 8 = .ok (.iload_n 3, 1) := by decide +kernel
theorem dX2_asBefore_9 : decode cX2_asBefore 9 = .ok (.bipush 60, 2) := by decide +kernel
theorem dX2_asBefore_11 : decode cX2_asBefore 11 = .ok (.if_icmp .gt 28, 3) := by decide +kernel
theorem dX2_asBefore_14 : decode cX2_asBefore 14 = .ok (.iload_n 2, 1) := by decide +kernel
theorem dX2_asBefore_15 : decode cX2_asBefore 15 = .ok (.ifCond .ge 24, 3) := by decide +kernel
theorem dX2_asBefore_18 : decode cX2_asBefore 18 = .ok (.aload_n 0, 1) := by decide +kernel
theorem dX2_asBefore_19 : decode cX2_asBefore 19 = .ok (.iload_n 1, 1) := by decide +kernel
theorem dX2_asBefore_20 : decode cX2_asBefore 20 = .ok (.invokevirtual 62, 3) := by decide +kernel
theorem dX2_asBefore_23 : decode cX2_asBefore 23 = .ok (.pop, 1) := by decide +kernel
theorem dX2_asBefore_24 : decode cX2_asBefore 24 = .ok (.aload_n 0, 1) := by decide +kernel
theorem dX2_asBefore_25 : decode cX2_asBefore 25 = .ok (.invokevirtual 119, 3) := by decide +kernel
theorem dX2_asBefore_28 : decode cX2_asBefore 28 = .ok (.ifCond .eq 5, 3) := by decide +kernel
theorem dX2_asBefore_31 : decode cX2_asBefore 31 = .ok (.iload_n 3, 1) := by decide +kernel
theorem dX2_asBefore_32 : decode cX2_asBefore 32 = .ok (.istore_n 2, 1) := by decide +kernel
theorem dX2_asBefore_33 : decode cX2_asBefore 33 = .ok (.iinc 3 1, 3) := by decide +kernel
theorem dX2_asBefore_36 : decode cX2_asBefore 36 = .ok (.goto (-28), 3) := by decide +kernel
theorem dX2_asBefore_39 : decode cX2_asBefore 39 = .ok (.aload_n 0, 1) := by decide +kernel
theorem dX2_asBefore_40 : decode cX2_asBefore 40 = .ok (.invokevirtual 110, 3) := by decide +kernel
theorem dX2_asBefore_43 : decode cX2_asBefore 43 = .ok (.iload_n 2, 1) := by decide +kernel
theorem dX2_asBefore_44 : decode cX2_asBefore 44 = .ok (.ireturn, 1) := by decide +kernel
set_option maxRecDepth 20000 in
theorem ggX2_asBeforeIn_X2_isColumn : GoodIn wsX2_asBeforeIn wsX2_isColumn := goodIn_r _ [6, 7, 8, 9, 5, 10, 50, 51, 52, 53, 54, 55, 56, 57, 58, 59] (by decide +kernel) (by decide +kernel)
set_option maxRecDepth 20000 in
theorem gX2_asBeforeIn_X2_isColumn : GoodIn wsX2_asBeforeIn (wsV RX2 46 RX2 yX2_isColumn wsX2_isColumn) := goodIn_app (goodIn_of _ (by decide +kernel)) ggX2_asBeforeIn_X2_isColumn
set_option maxRecDepth 20000 in
theorem ggX2_asBeforeIn_X2_asBefore : GoodIn wsX2_asBeforeIn wsX2_asBefore := goodIn_r _ [14, 15, 16, 17, 5, 18, 19, 20, 21, 22, 23, 24, 25, 26, 27, 28, 29, 30, 31, 32, 33, 34, 35, 36, 37, 2, 3, 4, 6, 7, 8, 9, 10, 38, 39, 40, 41, 42, 43, 44, 45, 50, 51, 52, 53, 54, 55, 56, 57, 58, 59] (by decide +kernel) (by decide +kernel)
set_option maxRecDepth 20000 in
theorem gX2_asBeforeIn_X2_asBefore : GoodIn wsX2_asBeforeIn (wsV RX2 123 RX2 yX2_asBefore wsX2_asBefore) := goodIn_app (goodIn_of _ (by decide +kernel)) ggX2_asBeforeIn_X2_asBefore
set_option maxRecDepth 20000 in
theorem ggX2_asBeforeIn_X2_no : GoodIn wsX2_asBeforeIn wsX2_no := goodIn_r _ [49, 1, 50, 51, 52, 53, 54, 55, 56, 57, 58, 59] (by decide +kernel) (by decide +kernel)
set_option maxRecDepth 20000 in
theorem gX2_asBeforeIn_X2_no : GoodIn wsX2_asBeforeIn (wsV RX2 71 RX2 yX2_no wsX2_no) := goodIn_app (goodIn_of _ (by decide +kernel)) ggX2_asBeforeIn_X2_no
theorem dX2_asBeforeIn_0 : decode cX2_asBeforeIn 0 = .ok (.aload_n 0, 1) := by decide +kernel
theorem dX2_asBeforeIn_1 : decode cX2_asBeforeIn 1 = .ok (.iconst 0, 1) := by decide +kernel
theorem dX2_asBeforeIn_2 : decode cX2_asBeforeIn 2 = .ok (.putfield 35, 3) := by decide +kernel
theorem dX2_asBeforeIn_5 : decode cX2_asBeforeIn 5 = .ok (.aload_n 0, 1) := by decide +kernel
theorem dX2_asBeforeIn_6 : decode cX2_asBeforeIn 6 = .ok (.iload_n 1, 1) := by decide +kernel
theorem dX2_asBeforeIn_7 : decode cX2_asBeforeIn 7 = .ok (.invokevirtual 46, 3) := by decide +kernel
theorem dX2_asBeforeIn_10 : decode cX2_asBeforeIn 10 = .ok (.ifCond .eq 11, 3) := by decide +kernel
theorem dX2_asBeforeIn_13 : decode cX2_asBeforeIn 13 = .ok (.aload_n 0, 1) := by decide +kernel
theorem dX2_asBeforeIn_14 : decode cX2_asBeforeIn 14 = .ok (.iload_n 1, 1) := by decide +kernel
theorem dX2_asBeforeIn_15 : decode cX2_asBeforeIn 15 = .ok (.invokevirtual 123, 3) := by decide +kernel
theorem dX2_asBeforeIn_18 : decode cX2_asBeforeIn 18 = .ok (.goto 8, 3) := by decide +kernel
theorem dX2_asBeforeIn_21 : decode cX2_asBeforeIn 21 = .ok (.aload_n 0, 1) := by decide +kernel
theorem dX2_asBeforeIn_22 : decode cX2_asBeforeIn 22 = .ok (.iconst 1, 1) := by decide +kernel
theorem dX2_asBeforeIn_23 : decode cX2_asBeforeIn 23 = .ok (.invokevirtual 71, 3) := by decide +kernel
theorem dX2_asBeforeIn_26 : decode cX2_asBeforeIn 26 = .ok (.ireturn, 1) := by decide +kernel
set_option maxRecDepth 20000 in
theorem ggX2_runs_X2_keep : GoodIn wsX2_runs wsX2_keep := goodIn_r _ [5, 6, 7, 8, 9, 10, 11, 46, 47, 48, 49, 50, 51, 52, 53, 54, 55] (by decide +kernel) (by decide +kernel)
set_option maxRecDepth 20000 in
theorem gX2_runs_X2_keep : GoodIn wsX2_runs (wsV RX2 107 RX2 yX2_keep wsX2_keep) := goodIn_app (goodIn_of _ (by decide +kernel)) ggX2_runs_X2_keep
set_option maxRecDepth 20000 in
theorem ggX2_runs_X2_runFrom : GoodIn wsX2_runs wsX2_runFrom := goodIn_r _ [15, 6, 16, 17, 18, 19, 20, 4, 21, 22, 23, 24, 25, 26, 27, 28, 29, 30, 31, 32, 33, 34, 35, 36, 37, 38, 39, 40, 41, 46, 47, 48, 49, 50, 51, 52, 53, 54, 55] (by decide +kernel) (by decide +kernel)
set_option maxRecDepth 20000 in
theorem gX2_runs_X2_runFrom : GoodIn wsX2_runs (wsV RX2 85 RX2 yX2_runFrom wsX2_runFrom) := goodIn_app (goodIn_of _ (by decide +kernel)) ggX2_runs_X2_runFrom
set_option maxRecDepth 20000 in
theorem ggX2_runs_X2_bringBack : GoodIn wsX2_runs wsX2_bringBack := goodIn_r _ [45, 7, 6, 8, 9, 10, 11, 46, 47, 48, 49, 50, 51, 52, 53, 54, 55] (by decide +kernel) (by decide +kernel)
set_option maxRecDepth 20000 in
theorem gX2_runs_X2_bringBack : GoodIn wsX2_runs (wsV RX2 110 RX2 yX2_bringBack wsX2_bringBack) := goodIn_app (goodIn_of _ (by decide +kernel)) ggX2_runs_X2_bringBack
theorem dX2_runs_0 : decode cX2_runs 0 = .ok (.aload_n 0, 1) := by decide +kernel
theorem dX2_runs_1 : decode cX2_runs 1 = .ok (.invokevirtual 107, 3) := by decide +kernel
theorem dX2_runs_4 : decode cX2_runs 4 = .ok (.aload_n 0, 1) := by decide +kernel
theorem dX2_runs_5 : decode cX2_runs 5 = .ok (.iload_n 1, 1) := by decide +kernel
theorem dX2_runs_6 : decode cX2_runs 6 = .ok (.bipush 99, 2) := by decide +kernel
theorem dX2_runs_8 : decode cX2_runs 8 = .ok (.invokevirtual 85, 3) := by decide +kernel
theorem dX2_runs_11 : decode cX2_runs 11 = .ok (.istore_n 2, 1) := by decide +kernel
theorem dX2_runs_12 : decode cX2_runs 12 = .ok (.aload_n 0, 1) := by decide +kernel
theorem dX2_runs_13 : decode cX2_runs 13 = .ok (.invokevirtual 110, 3) := by decide +kernel
theorem dX2_runs_16 : decode cX2_runs 16 = .ok (.iload_n 2, 1) := by decide +kernel
theorem dX2_runs_17 : decode cX2_runs 17 = .ok (.ireturn, 1) := by decide +kernel
set_option maxRecDepth 20000 in
theorem ggX2_wouldRun_X2_isFrom : GoodIn wsX2_wouldRun wsX2_isFrom := goodIn_r _ [5] (by decide +kernel) (by decide +kernel)
set_option maxRecDepth 20000 in
theorem gX2_wouldRun_X2_isFrom : GoodIn wsX2_wouldRun (va_wsS RX2 38 yX2_isFrom wsX2_isFrom) := goodIn_app (goodIn_of _ (by decide +kernel)) ggX2_wouldRun_X2_isFrom
set_option maxRecDepth 20000 in
theorem ggX2_wouldRun_X2_runs : GoodIn wsX2_wouldRun wsX2_runs := goodIn_r _ [9, 10, 11, 12, 4, 13, 14, 15, 16, 17, 18, 19, 20, 21, 22, 23, 24, 25, 26, 27, 28, 29, 30, 31, 32, 33, 34, 35, 36, 37, 38, 39, 40, 41, 42, 2, 3, 5, 43, 44, 45, 46, 47, 48, 49, 50, 55, 56, 57, 58, 59, 60, 61, 62, 63, 64] (by decide +kernel) (by decide +kernel)
set_option maxRecDepth 20000 in
theorem gX2_wouldRun_X2_runs : GoodIn wsX2_wouldRun (wsV RX2 126 RX2 yX2_runs wsX2_runs) := goodIn_app (goodIn_of _ (by decide +kernel)) ggX2_wouldRun_X2_runs
set_option maxRecDepth 20000 in
theorem ggX2_wouldRun_X2_no : GoodIn wsX2_wouldRun wsX2_no := goodIn_r _ [54, 1, 55, 56, 57, 58, 59, 60, 61, 62, 63, 64] (by decide +kernel) (by decide +kernel)
set_option maxRecDepth 20000 in
theorem gX2_wouldRun_X2_no : GoodIn wsX2_wouldRun (wsV RX2 71 RX2 yX2_no wsX2_no) := goodIn_app (goodIn_of _ (by decide +kernel)) ggX2_wouldRun_X2_no
theorem dX2_wouldRun_0 : decode cX2_wouldRun 0 = .ok (.aload_n 0, 1) := by decide +kernel
theorem dX2_wouldRun_1 : decode cX2_wouldRun 1 = .ok (.iconst 0, 1) := by decide +kernel
theorem dX2_wouldRun_2 : decode cX2_wouldRun 2 = .ok (.putfield 35, 3) := by decide +kernel
theorem dX2_wouldRun_5 : decode cX2_wouldRun 5 = .ok (.iload_n 1, 1) := by decide +kernel
theorem dX2_wouldRun_6 : decode cX2_wouldRun 6 = .ok (.iconst 0, 1) := by decide +kernel
theorem dX2_wouldRun_7 : decode cX2_wouldRun 7 = .ok (.iconst 1, 1) := by decide +kernel
theorem dX2_wouldRun_8 : decode cX2_wouldRun 8 = .ok (.invokestatic 38, 3) := by decide +kernel
theorem dX2_wouldRun_11 : decode cX2_wouldRun 11 = .ok (.ifCond .eq 11, 3) := by decide +kernel
theorem dX2_wouldRun_14 : decode cX2_wouldRun 14 = .ok (.aload_n 0, 1) := by decide +kernel
theorem dX2_wouldRun_15 : decode cX2_wouldRun 15 = .ok (.iload_n 1, 1) := by decide +kernel
theorem dX2_wouldRun_16 : decode cX2_wouldRun 16 = .ok (.invokevirtual 126, 3) := by decide +kernel
theorem dX2_wouldRun_19 : decode cX2_wouldRun 19 = .ok (.goto 8, 3) := by decide +kernel
theorem dX2_wouldRun_22 : decode cX2_wouldRun 22 = .ok (.aload_n 0, 1) := by decide +kernel
theorem dX2_wouldRun_23 : decode cX2_wouldRun 23 = .ok (.iconst 1, 1) := by decide +kernel
theorem dX2_wouldRun_24 : decode cX2_wouldRun 24 = .ok (.invokevirtual 71, 3) := by decide +kernel
theorem dX2_wouldRun_27 : decode cX2_wouldRun 27 = .ok (.ireturn, 1) := by decide +kernel
set_option maxRecDepth 20000 in
theorem ggX2_best_X2_turnedBy : GoodIn wsX2_best wsX2_turnedBy := goodIn_r _ [6, 7, 8, 9, 10, 5, 11, 12, 13, 14, 15, 16, 17, 18, 19, 20, 21, 22, 23, 24, 25, 26, 27, 28, 29, 30, 31, 32, 33, 34, 35, 36, 37, 1, 38, 39, 40, 41, 42, 43, 44, 45, 46, 47, 48, 49, 50, 51, 52, 53, 54] (by decide +kernel) (by decide +kernel)
set_option maxRecDepth 20000 in
theorem gX2_best_X2_turnedBy : GoodIn wsX2_best (wsV RX2 116 RX2 yX2_turnedBy wsX2_turnedBy) := goodIn_app (goodIn_of _ (by decide +kernel)) ggX2_best_X2_turnedBy
theorem dX2_best_0 : decode cX2_best 0 = .ok (.iconst 0, 1) := by decide +kernel
theorem dX2_best_1 : decode cX2_best 1 = .ok (.istore_n 1, 1) := by decide +kernel
theorem dX2_best_2 : decode cX2_best 2 = .ok (.iconst (-1), 1) := by decide +kernel
theorem dX2_best_3 : decode cX2_best 3 = .ok (.istore_n 2, 1) := by decide +kernel
theorem dX2_best_4 : decode cX2_best 4 = .ok (.iconst 0, 1) := by decide +kernel
theorem dX2_best_5 : decode cX2_best 5 = .ok (.istore_n 3, 1) := by decide +kernel
theorem dX2_best_6 : decode cX2_best 6 = .ok (.iload_n 3, 1) := by decide +kernel
theorem dX2_best_7 : decode cX2_best 7 = .ok (.aload_n 0, 1) := by decide +kernel
theorem dX2_best_8 : decode cX2_best 8 = .ok (.getfield 9, 3) := by decide +kernel
theorem dX2_best_11 : decode cX2_best 11 = .ok (.if_icmp .ge 30, 3) := by decide +kernel
theorem dX2_best_14 : decode cX2_best 14 = .ok (.aload_n 0, 1) := by decide +kernel
theorem dX2_best_15 : decode cX2_best 15 = .ok (.iload_n 3, 1) := by decide +kernel
theorem dX2_best_16 : decode cX2_best 16 = .ok (.invokevirtual 116, 3) := by decide +kernel
theorem dX2_best_19 : decode cX2_best 19 = .ok (.istore 4, 2) := by decide +kernel
theorem dX2_best_21 : decode cX2_best 21 = .ok (.iload 4, 2) := by decide +kernel
theorem dX2_best_23 : decode cX2_best 23 = .ok (.iload_n 2, 1) := by decide +kernel
theorem dX2_best_24 : decode cX2_best 24 = .ok (.if_icmp .gt 6, 3) := by decide +kernel
theorem dX2_best_27 : decode cX2_best 27 = .ok (.goto 8, 3) := by decide +kernel
theorem dX2_best_30 : decode cX2_best 30 = .ok (.iload_n 3, 1) := by decide +kernel
theorem dX2_best_31 : decode cX2_best 31 = .ok (.istore_n 1, 1) := by decide +kernel
theorem dX2_best_32 : decode cX2_best 32 = .ok (.iload 4, 2) := by decide +kernel
theorem dX2_best_34 : decode cX2_best 34 = .ok (.istore_n 2, 1) := by decide +kernel
theorem dX2_best_35 : decode cX2_best 35 = .ok (.iinc 3 1, 3) := by decide +kernel
theorem dX2_best_38 : decode cX2_best 38 = .ok (.goto (-32), 3) := by decide +kernel
theorem dX2_best_41 : decode cX2_best 41 = .ok (.iload_n 1, 1) := by decide +kernel
theorem dX2_best_42 : decode cX2_best 42 = .ok (.ireturn, 1) := by decide +kernel
set_option maxRecDepth 20000 in
theorem ggX2_bestColumn_X2_best : GoodIn wsX2_bestColumn wsX2_best := goodIn_r _ [5, 6, 7, 8, 9, 4, 10, 11, 12, 13, 14, 15, 16, 17, 18, 19, 20, 21, 22, 23, 24, 25, 26, 27, 28, 29, 30, 31, 32, 33, 34, 35, 36, 37, 38, 39, 40, 41, 42, 43, 44, 45, 46, 47, 48, 54, 55, 56, 57, 58, 59, 60, 61, 62, 63] (by decide +kernel) (by decide +kernel)
set_option maxRecDepth 20000 in
theorem gX2_bestColumn_X2_best : GoodIn wsX2_bestColumn (wsV RX2 129 RX2 yX2_best wsX2_best) := goodIn_app (goodIn_of _ (by decide +kernel)) ggX2_bestColumn_X2_best
set_option maxRecDepth 20000 in
theorem ggX2_bestColumn_X2_ok : GoodIn wsX2_bestColumn wsX2_ok := goodIn_r _ [52, 53, 54, 55, 56, 57, 58, 59, 60, 61, 62, 63] (by decide +kernel) (by decide +kernel)
set_option maxRecDepth 20000 in
theorem gX2_bestColumn_X2_ok : GoodIn wsX2_bestColumn (wsV RX2 92 RX2 yX2_ok wsX2_ok) := goodIn_app (goodIn_of _ (by decide +kernel)) ggX2_bestColumn_X2_ok
theorem dX2_bestColumn_0 : decode cX2_bestColumn 0 = .ok (.aload_n 0, 1) := by decide +kernel
theorem dX2_bestColumn_1 : decode cX2_bestColumn 1 = .ok (.aload_n 0, 1) := by decide +kernel
theorem dX2_bestColumn_2 : decode cX2_bestColumn 2 = .ok (.invokevirtual 129, 3) := by decide +kernel
theorem dX2_bestColumn_5 : decode cX2_bestColumn 5 = .ok (.invokevirtual 92, 3) := by decide +kernel
theorem dX2_bestColumn_8 : decode cX2_bestColumn 8 = .ok (.ireturn, 1) := by decide +kernel
set_option maxRecDepth 20000 in
theorem ggX2_meanInBins_X2_inBins : GoodIn wsX2_meanInBins wsX2_inBins := goodIn_r _ [7, 2, 8, 9, 10, 11, 12, 13, 14, 15, 16, 17, 18] (by decide +kernel) (by decide +kernel)
set_option maxRecDepth 20000 in
theorem gX2_meanInBins_X2_inBins : GoodIn wsX2_meanInBins (wsV RX2 88 RX2 yX2_inBins wsX2_inBins) := goodIn_app (goodIn_of _ (by decide +kernel)) ggX2_meanInBins_X2_inBins
theorem dX2_meanInBins_0 : decode cX2_meanInBins 0 = .ok (.aload_n 0, 1) := by decide +kernel
theorem dX2_meanInBins_1 : decode cX2_meanInBins 1 = .ok (.iconst 0, 1) := by decide +kernel
theorem dX2_meanInBins_2 : decode cX2_meanInBins 2 = .ok (.putfield 35, 3) := by decide +kernel
theorem dX2_meanInBins_5 : decode cX2_meanInBins 5 = .ok (.aload_n 0, 1) := by decide +kernel
theorem dX2_meanInBins_6 : decode cX2_meanInBins 6 = .ok (.invokevirtual 88, 3) := by decide +kernel
theorem dX2_meanInBins_9 : decode cX2_meanInBins 9 = .ok (.i2d, 1) := by decide +kernel
theorem dX2_meanInBins_10 : decode cX2_meanInBins 10 = .ok (.aload_n 0, 1) := by decide +kernel
theorem dX2_meanInBins_11 : decode cX2_meanInBins 11 = .ok (.getfield 9, 3) := by decide +kernel
theorem dX2_meanInBins_14 : decode cX2_meanInBins 14 = .ok (.i2d, 1) := by decide +kernel
theorem dX2_meanInBins_15 : decode cX2_meanInBins 15 = .ok (.ddiv, 1) := by decide +kernel
theorem dX2_meanInBins_16 : decode cX2_meanInBins 16 = .ok (.dreturn, 1) := by decide +kernel
set_option maxRecDepth 20000 in
theorem ggX2_digest_X2_togglesNow : GoodIn wsX2_digest wsX2_togglesNow := goodIn_r _ [14, 9, 90, 91, 92, 93, 94, 95, 96, 97, 98, 99] (by decide +kernel) (by decide +kernel)
set_option maxRecDepth 20000 in
theorem gX2_digest_X2_togglesNow : GoodIn wsX2_digest (wsV RX2 101 RX2 yX2_togglesNow wsX2_togglesNow) := goodIn_app (goodIn_of _ (by decide +kernel)) ggX2_digest_X2_togglesNow
set_option maxRecDepth 20000 in
theorem ggX2_digest_X2_best : GoodIn wsX2_digest wsX2_best := goodIn_r _ [18, 3, 19, 20, 21, 13, 22, 23, 24, 25, 26, 27, 28, 29, 30, 31, 5, 32, 33, 34, 35, 36, 37, 38, 39, 40, 41, 4, 42, 43, 44, 45, 9, 46, 47, 48, 49, 50, 51, 52, 53, 54, 55, 56, 57, 90, 91, 92, 93, 94, 95, 96, 97, 98, 99] (by decide +kernel) (by decide +kernel)
set_option maxRecDepth 20000 in
theorem gX2_digest_X2_best : GoodIn wsX2_digest (wsV RX2 129 RX2 yX2_best wsX2_best) := goodIn_app (goodIn_of _ (by decide +kernel)) ggX2_digest_X2_best
set_option maxRecDepth 20000 in
theorem ggX2_digest_X2_runs : GoodIn wsX2_digest wsX2_runs := goodIn_r _ [61, 28, 29, 30, 13, 31, 5, 32, 33, 34, 35, 36, 62, 63, 64, 65, 8, 3, 37, 38, 39, 40, 23, 41, 4, 42, 43, 44, 45, 9, 46, 47, 48, 49, 50, 51, 52, 53, 66, 67, 68, 69, 54, 55, 56, 57, 90, 91, 92, 93, 94, 95, 96, 97, 98, 99] (by decide +kernel) (by decide +kernel)
set_option maxRecDepth 20000 in
theorem gX2_digest_X2_runs : GoodIn wsX2_digest (wsV RX2 126 RX2 yX2_runs wsX2_runs) := goodIn_app (goodIn_of _ (by decide +kernel)) ggX2_digest_X2_runs
set_option maxRecDepth 20000 in
theorem ggX2_digest_X2_number : GoodIn wsX2_digest wsX2_number := goodIn_r _ [73, 3, 9, 74, 75, 76, 13, 77, 5, 90, 91, 92, 93, 94, 95, 96, 97, 98, 99] (by decide +kernel) (by decide +kernel)
set_option maxRecDepth 20000 in
theorem gX2_digest_X2_number : GoodIn wsX2_digest (wsV RX2 104 RX2 yX2_number wsX2_number) := goodIn_app (goodIn_of _ (by decide +kernel)) ggX2_digest_X2_number
set_option maxRecDepth 20000 in
theorem ggX2_digest_X2_isRight : GoodIn wsX2_digest wsX2_isRight := goodIn_r _ [77, 9, 5, 90, 91, 92, 93, 94, 95, 96, 97, 98, 99] (by decide +kernel) (by decide +kernel)
set_option maxRecDepth 20000 in
theorem gX2_digest_X2_isRight : GoodIn wsX2_digest (wsV RX2 95 RX2 yX2_isRight wsX2_isRight) := goodIn_app (goodIn_of _ (by decide +kernel)) ggX2_digest_X2_isRight
set_option maxRecDepth 20000 in
theorem ggX2_digest_X2_counted : GoodIn wsX2_digest wsX2_counted := goodIn_r _ [81, 9, 5, 90, 91, 92, 93, 94, 95, 96, 97, 98, 99] (by decide +kernel) (by decide +kernel)
set_option maxRecDepth 20000 in
theorem gX2_digest_X2_counted : GoodIn wsX2_digest (wsV RX2 98 RX2 yX2_counted wsX2_counted) := goodIn_app (goodIn_of _ (by decide +kernel)) ggX2_digest_X2_counted
set_option maxRecDepth 20000 in
theorem ggX2_digest_X2_look : GoodIn wsX2_digest wsX2_look := goodIn_r _ [27, 28, 29, 30, 13, 31, 5, 32, 33, 34, 35, 36, 37, 38, 39, 40, 23, 41, 4, 42, 43, 44, 45, 9, 46, 47, 48, 49, 50, 3, 51, 52, 53, 54, 55, 56, 57, 90, 91, 92, 93, 94, 95, 96, 97, 98, 99] (by decide +kernel) (by decide +kernel)
set_option maxRecDepth 20000 in
theorem gX2_digest_X2_look : GoodIn wsX2_digest (wsV RX2 113 RX2 yX2_look wsX2_look) := goodIn_app (goodIn_of _ (by decide +kernel)) ggX2_digest_X2_look
set_option maxRecDepth 20000 in
theorem ggX2_digest_X2_turnedBy : GoodIn wsX2_digest wsX2_turnedBy := goodIn_r _ [22, 23, 24, 25, 26, 13, 27, 28, 29, 30, 31, 5, 32, 33, 34, 35, 36, 37, 38, 39, 40, 41, 4, 42, 43, 44, 45, 9, 46, 47, 48, 49, 50, 3, 51, 52, 53, 54, 55, 56, 57, 90, 91, 92, 93, 94, 95, 96, 97, 98, 99] (by decide +kernel) (by decide +kernel)
set_option maxRecDepth 20000 in
theorem gX2_digest_X2_turnedBy : GoodIn wsX2_digest (wsV RX2 116 RX2 yX2_turnedBy wsX2_turnedBy) := goodIn_app (goodIn_of _ (by decide +kernel)) ggX2_digest_X2_turnedBy
set_option maxRecDepth 20000 in
theorem ggX2_digest_X2_asBefore : GoodIn wsX2_digest wsX2_asBefore := goodIn_r _ [85, 28, 29, 30, 13, 31, 5, 32, 33, 34, 35, 36, 37, 38, 39, 40, 23, 41, 4, 42, 43, 44, 45, 9, 46, 47, 48, 49, 50, 3, 51, 52, 53, 86, 87, 88, 89, 54, 55, 56, 57, 90, 91, 92, 93, 94, 95, 96, 97, 98, 99] (by decide +kernel) (by decide +kernel)
set_option maxRecDepth 20000 in
theorem gX2_digest_X2_asBefore : GoodIn wsX2_digest (wsV RX2 123 RX2 yX2_asBefore wsX2_asBefore) := goodIn_app (goodIn_of _ (by decide +kernel)) ggX2_digest_X2_asBefore
theorem dX2_digest_0 : decode cX2_digest 0 = .ok (.aload_n 0, 1) := by decide +kernel
theorem dX2_digest_1 : decode cX2_digest 1 = .ok (.iconst 0, 1) := by decide +kernel
theorem dX2_digest_2 : decode cX2_digest 2 = .ok (.putfield 35, 3) := by decide +kernel
theorem dX2_digest_5 : decode cX2_digest 5 = .ok (.iconst 5, 1) := by decide +kernel
theorem dX2_digest_6 : decode cX2_digest 6 = .ok (.newarray .int, 2) := by decide +kernel
theorem dX2_digest_8 : decode cX2_digest 8 = .ok (.dup, 1) := by decide +kernel
theorem dX2_digest_9 : decode cX2_digest 9 = .ok (.iconst 0, 1) := by decide +kernel
theorem dX2_digest_10 : decode cX2_digest 10 = .ok (.aload_n 0, 1) := by decide +kernel
theorem dX2_digest_11 : decode cX2_digest 11 = .ok (.getfield 9, 3) := by decide +kernel
theorem dX2_digest_14 : decode cX2_digest 14 = .ok (.iastore, 1) := by decide +kernel
theorem dX2_digest_15 : decode cX2_digest 15 = .ok (.dup, 1) := by decide +kernel
theorem dX2_digest_16 : decode cX2_digest 16 = .ok (.iconst 1, 1) := by decide +kernel
theorem dX2_digest_17 : decode cX2_digest 17 = .ok (.aload_n 0, 1) := by decide +kernel
theorem dX2_digest_18 : decode cX2_digest 18 = .ok (.getfield 13, 3) := by decide +kernel
theorem dX2_digest_21 : decode cX2_digest 21 = .ok (.iastore, 1) := by decide +kernel
theorem dX2_digest_22 : decode cX2_digest 22 = .ok (.dup, 1) := by decide +kernel
theorem dX2_digest_23 : decode cX2_digest 23 = .ok (.iconst 2, 1) := by decide +kernel
theorem dX2_digest_24 : decode cX2_digest 24 = .ok (.aload_n 0, 1) := by decide +kernel
theorem dX2_digest_25 : decode cX2_digest 25 = .ok (.getfield 26, 3) := by decide +kernel
theorem dX2_digest_28 : decode cX2_digest 28 = .ok (.bipush 83, 2) := by decide +kernel
theorem dX2_digest_30 : decode cX2_digest 30 = .ok (.iaload, 1) := by decide +kernel
theorem dX2_digest_31 : decode cX2_digest 31 = .ok (.iastore, 1) := by decide +kernel
theorem dX2_digest_32 : decode cX2_digest 32 = .ok (.dup, 1) := by decide +kernel
theorem dX2_digest_33 : decode cX2_digest 33 = .ok (.iconst 3, 1) := by decide +kernel
theorem dX2_digest_34 : decode cX2_digest 34 = .ok (.aload_n 0, 1) := by decide +kernel
theorem dX2_digest_35 : decode cX2_digest 35 = .ok (.invokevirtual 101, 3) := by decide +kernel
theorem dX2_digest_38 : decode cX2_digest 38 = .ok (.iastore, 1) := by decide +kernel
theorem dX2_digest_39 : decode cX2_digest 39 = .ok (.dup, 1) := by decide +kernel
theorem dX2_digest_40 : decode cX2_digest 40 = .ok (.iconst 4, 1) := by decide +kernel
theorem dX2_digest_41 : decode cX2_digest 41 = .ok (.aload_n 0, 1) := by decide +kernel
theorem dX2_digest_42 : decode cX2_digest 42 = .ok (.invokevirtual 129, 3) := by decide +kernel
theorem dX2_digest_45 : decode cX2_digest 45 = .ok (.iastore, 1) := by decide +kernel
theorem dX2_digest_46 : decode cX2_digest 46 = .ok (.astore_n 1, 1) := by decide +kernel
theorem dX2_digest_47 : decode cX2_digest 47 = .ok (.ldc2_w 132, 3) := by decide +kernel
theorem dX2_digest_50 : decode cX2_digest 50 = .ok (.lstore_n 2, 1) := by decide +kernel
theorem dX2_digest_51 : decode cX2_digest 51 = .ok (.aload_n 1, 1) := by decide +kernel
theorem dX2_digest_52 : decode cX2_digest 52 = .ok (.astore 4, 2) := by decide +kernel
theorem dX2_digest_54 : decode cX2_digest 54 = .ok (.aload 4, 2) := by decide +kernel
theorem dX2_digest_56 : decode cX2_digest 56 = .ok (.arraylength, 1) := by decide +kernel
theorem dX2_digest_57 : decode cX2_digest 57 = .ok (.istore 5, 2) := by decide +kernel
theorem dX2_digest_59 : decode cX2_digest 59 = .ok (.iconst 0, 1) := by decide +kernel
theorem dX2_digest_60 : decode cX2_digest 60 = .ok (.istore 6, 2) := by decide +kernel
theorem dX2_digest_62 : decode cX2_digest 62 = .ok (.iload 6, 2) := by decide +kernel
theorem dX2_digest_64 : decode cX2_digest 64 = .ok (.iload 5, 2) := by decide +kernel
theorem dX2_digest_66 : decode cX2_digest 66 = .ok (.if_icmp .ge 26, 3) := by decide +kernel
theorem dX2_digest_69 : decode cX2_digest 69 = .ok (.aload 4, 2) := by decide +kernel
theorem dX2_digest_71 : decode cX2_digest 71 = .ok (.iload 6, 2) := by decide +kernel
theorem dX2_digest_73 : decode cX2_digest 73 = .ok (.iaload, 1) := by decide +kernel
theorem dX2_digest_74 : decode cX2_digest 74 = .ok (.istore 7, 2) := by decide +kernel
theorem dX2_digest_76 : decode cX2_digest 76 = .ok (.lload_n 2, 1) := by decide +kernel
theorem dX2_digest_77 : decode cX2_digest 77 = .ok (.ldc2_w 134, 3) := by decide +kernel
theorem dX2_digest_80 : decode cX2_digest 80 = .ok (.lmul, 1) := by decide +kernel
theorem dX2_digest_81 : decode cX2_digest 81 = .ok (.iload 7, 2) := by decide +kernel
theorem dX2_digest_83 : decode cX2_digest 83 = .ok (.i2l, 1) := by decide +kernel
theorem dX2_digest_84 : decode cX2_digest 84 = .ok (.ladd, 1) := by decide +kernel
theorem dX2_digest_85 : decode cX2_digest 85 = .ok (.lstore_n 2, 1) := by decide +kernel
theorem dX2_digest_86 : decode cX2_digest 86 = .ok (.iinc 6 1, 3) := by decide +kernel
theorem dX2_digest_89 : decode cX2_digest 89 = .ok (.goto (-27), 3) := by decide +kernel
theorem dX2_digest_92 : decode cX2_digest 92 = .ok (.iconst 0, 1) := by decide +kernel
theorem dX2_digest_93 : decode cX2_digest 93 = .ok (.istore 4, 2) := by decide +kernel
theorem dX2_digest_95 : decode cX2_digest 95 = .ok (.iload 4, 2) := by decide +kernel
theorem dX2_digest_97 : decode cX2_digest 97 = .ok (.iconst 2, 1) := by decide +kernel
theorem dX2_digest_98 : decode cX2_digest 98 = .ok (.if_icmp .ge 52, 3) := by decide +kernel
theorem dX2_digest_101 : decode cX2_digest 101 = .ok (.lload_n 2, 1) := by decide +kernel
theorem dX2_digest_102 : decode cX2_digest 102 = .ok (.ldc2_w 134, 3) := by decide +kernel
theorem dX2_digest_105 : decode cX2_digest 105 = .ok (.lmul, 1) := by decide +kernel
theorem dX2_digest_106 : decode cX2_digest 106 = .ok (.aload_n 0, 1) := by decide +kernel
theorem dX2_digest_107 : decode cX2_digest 107 = .ok (.getfield 26, 3) := by decide +kernel
theorem dX2_digest_110 : decode cX2_digest 110 = .ok (.bipush 81, 2) := by decide +kernel
theorem dX2_digest_112 : decode cX2_digest 112 = .ok (.iload 4, 2) := by decide +kernel
theorem dX2_digest_114 : decode cX2_digest 114 = .ok (.iadd, 1) := by decide +kernel
theorem dX2_digest_115 : decode cX2_digest 115 = .ok (.iaload, 1) := by decide +kernel
theorem dX2_digest_116 : decode cX2_digest 116 = .ok (.i2l, 1) := by decide +kernel
theorem dX2_digest_117 : decode cX2_digest 117 = .ok (.ladd, 1) := by decide +kernel
theorem dX2_digest_118 : decode cX2_digest 118 = .ok (.ldc2_w 134, 3) := by decide +kernel
theorem dX2_digest_121 : decode cX2_digest 121 = .ok (.lmul, 1) := by decide +kernel
theorem dX2_digest_122 : decode cX2_digest 122 = .ok (.aload_n 0, 1) := by decide +kernel
theorem dX2_digest_123 : decode cX2_digest 123 = .ok (.getfield 23, 3) := by decide +kernel
theorem dX2_digest_126 : decode cX2_digest 126 = .ok (.iload 4, 2) := by decide +kernel
theorem dX2_digest_128 : decode cX2_digest 128 = .ok (.iaload, 1) := by decide +kernel
theorem dX2_digest_129 : decode cX2_digest 129 = .ok (.i2l, 1) := by decide +kernel
theorem dX2_digest_130 : decode cX2_digest 130 = .ok (.ladd, 1) := by decide +kernel
theorem dX2_digest_131 : decode cX2_digest 131 = .ok (.ldc2_w 134, 3) := by decide +kernel
theorem dX2_digest_134 : decode cX2_digest 134 = .ok (.lmul, 1) := by decide +kernel
theorem dX2_digest_135 : decode cX2_digest 135 = .ok (.aload_n 0, 1) := by decide +kernel
theorem dX2_digest_136 : decode cX2_digest 136 = .ok (.iload 4, 2) := by decide +kernel
theorem dX2_digest_138 : decode cX2_digest 138 = .ok (.invokevirtual 126, 3) := by decide +kernel
theorem dX2_digest_141 : decode cX2_digest 141 = .ok (.i2l, 1) := by decide +kernel
theorem dX2_digest_142 : decode cX2_digest 142 = .ok (.ladd, 1) := by decide +kernel
theorem dX2_digest_143 : decode cX2_digest 143 = .ok (.lstore_n 2, 1) := by decide +kernel
theorem dX2_digest_144 : decode cX2_digest 144 = .ok (.iinc 4 1, 3) := by decide +kernel
theorem dX2_digest_147 : decode cX2_digest 147 = .ok (.goto (-52), 3) := by decide +kernel
theorem dX2_digest_150 : decode cX2_digest 150 = .ok (.iconst 0, 1) := by decide +kernel
theorem dX2_digest_151 : decode cX2_digest 151 = .ok (.istore 4, 2) := by decide +kernel
theorem dX2_digest_153 : decode cX2_digest 153 = .ok (.iload 4, 2) := by decide +kernel
theorem dX2_digest_155 : decode cX2_digest 155 = .ok (.aload_n 0, 1) := by decide +kernel
theorem dX2_digest_156 : decode cX2_digest 156 = .ok (.getfield 13, 3) := by decide +kernel
theorem dX2_digest_159 : decode cX2_digest 159 = .ok (.if_icmp .ge 98, 3) := by decide +kernel
theorem dX2_digest_162 : decode cX2_digest 162 = .ok (.lload_n 2, 1) := by decide +kernel
theorem dX2_digest_163 : decode cX2_digest 163 = .ok (.ldc2_w 134, 3) := by decide +kernel
theorem dX2_digest_166 : decode cX2_digest 166 = .ok (.lmul, 1) := by decide +kernel
theorem dX2_digest_167 : decode cX2_digest 167 = .ok (.aload_n 0, 1) := by decide +kernel
theorem dX2_digest_168 : decode cX2_digest 168 = .ok (.iload 4, 2) := by decide +kernel
theorem dX2_digest_170 : decode cX2_digest 170 = .ok (.invokevirtual 104, 3) := by decide +kernel
theorem dX2_digest_173 : decode cX2_digest 173 = .ok (.i2l, 1) := by decide +kernel
theorem dX2_digest_174 : decode cX2_digest 174 = .ok (.ladd, 1) := by decide +kernel
theorem dX2_digest_175 : decode cX2_digest 175 = .ok (.lstore_n 2, 1) := by decide +kernel
theorem dX2_digest_176 : decode cX2_digest 176 = .ok (.iconst 0, 1) := by decide +kernel
theorem dX2_digest_177 : decode cX2_digest 177 = .ok (.istore 5, 2) := by decide +kernel
theorem dX2_digest_179 : decode cX2_digest 179 = .ok (.iload 5, 2) := by decide +kernel
theorem dX2_digest_181 : decode cX2_digest 181 = .ok (.aload_n 0, 1) := by decide +kernel
theorem dX2_digest_182 : decode cX2_digest 182 = .ok (.getfield 9, 3) := by decide +kernel
theorem dX2_digest_185 : decode cX2_digest 185 = .ok (.if_icmp .ge 66, 3) := by decide +kernel
theorem dX2_digest_188 : decode cX2_digest 188 = .ok (.lload_n 2, 1) := by decide +kernel
theorem dX2_digest_189 : decode cX2_digest 189 = .ok (.ldc2_w 134, 3) := by decide +kernel
theorem dX2_digest_192 : decode cX2_digest 192 = .ok (.lmul, 1) := by decide +kernel
theorem dX2_digest_193 : decode cX2_digest 193 = .ok (.aload_n 0, 1) := by decide +kernel
theorem dX2_digest_194 : decode cX2_digest 194 = .ok (.getfield 16, 3) := by decide +kernel
theorem dX2_digest_197 : decode cX2_digest 197 = .ok (.bipush 9, 2) := by decide +kernel
theorem dX2_digest_199 : decode cX2_digest 199 = .ok (.iload 4, 2) := by decide +kernel
theorem dX2_digest_201 : decode cX2_digest 201 = .ok (.imul, 1) := by decide +kernel
theorem dX2_digest_202 : decode cX2_digest 202 = .ok (.iload 5, 2) := by decide +kernel
theorem dX2_digest_204 : decode cX2_digest 204 = .ok (.iadd, 1) := by decide +kernel
theorem dX2_digest_205 : decode cX2_digest 205 = .ok (.iaload, 1) := by decide +kernel
theorem dX2_digest_206 : decode cX2_digest 206 = .ok (.i2l, 1) := by decide +kernel
theorem dX2_digest_207 : decode cX2_digest 207 = .ok (.ladd, 1) := by decide +kernel
theorem dX2_digest_208 : decode cX2_digest 208 = .ok (.ldc2_w 134, 3) := by decide +kernel
theorem dX2_digest_211 : decode cX2_digest 211 = .ok (.lmul, 1) := by decide +kernel
theorem dX2_digest_212 : decode cX2_digest 212 = .ok (.aload_n 0, 1) := by decide +kernel
theorem dX2_digest_213 : decode cX2_digest 213 = .ok (.iload 4, 2) := by decide +kernel
theorem dX2_digest_215 : decode cX2_digest 215 = .ok (.iload 5, 2) := by decide +kernel
theorem dX2_digest_217 : decode cX2_digest 217 = .ok (.invokevirtual 95, 3) := by decide +kernel
theorem dX2_digest_220 : decode cX2_digest 220 = .ok (.ifCond .eq 7, 3) := by decide +kernel
theorem dX2_digest_223 : decode cX2_digest 223 = .ok (.iconst 1, 1) := by decide +kernel
theorem dX2_digest_224 : decode cX2_digest 224 = .ok (.goto 4, 3) := by decide +kernel
theorem dX2_digest_227 : decode cX2_digest 227 = .ok (.iconst 0, 1) := by decide +kernel
theorem dX2_digest_228 : decode cX2_digest 228 = .ok (.i2l, 1) := by decide +kernel
theorem dX2_digest_229 : decode cX2_digest 229 = .ok (.ladd, 1) := by decide +kernel
theorem dX2_digest_230 : decode cX2_digest 230 = .ok (.ldc2_w 134, 3) := by decide +kernel
theorem dX2_digest_233 : decode cX2_digest 233 = .ok (.lmul, 1) := by decide +kernel
theorem dX2_digest_234 : decode cX2_digest 234 = .ok (.aload_n 0, 1) := by decide +kernel
theorem dX2_digest_235 : decode cX2_digest 235 = .ok (.iload 4, 2) := by decide +kernel
theorem dX2_digest_237 : decode cX2_digest 237 = .ok (.iload 5, 2) := by decide +kernel
theorem dX2_digest_239 : decode cX2_digest 239 = .ok (.invokevirtual 98, 3) := by decide +kernel
theorem dX2_digest_242 : decode cX2_digest 242 = .ok (.i2l, 1) := by decide +kernel
theorem dX2_digest_243 : decode cX2_digest 243 = .ok (.ladd, 1) := by decide +kernel
theorem dX2_digest_244 : decode cX2_digest 244 = .ok (.lstore_n 2, 1) := by decide +kernel
theorem dX2_digest_245 : decode cX2_digest 245 = .ok (.iinc 5 1, 3) := by decide +kernel
theorem dX2_digest_248 : decode cX2_digest 248 = .ok (.goto (-69), 3) := by decide +kernel
theorem dX2_digest_251 : decode cX2_digest 251 = .ok (.iinc 4 1, 3) := by decide +kernel
theorem dX2_digest_254 : decode cX2_digest 254 = .ok (.goto (-101), 3) := by decide +kernel
theorem dX2_digest_257 : decode cX2_digest 257 = .ok (.iconst 0, 1) := by decide +kernel
theorem dX2_digest_258 : decode cX2_digest 258 = .ok (.istore 4, 2) := by decide +kernel
theorem dX2_digest_260 : decode cX2_digest 260 = .ok (.iload 4, 2) := by decide +kernel
theorem dX2_digest_262 : decode cX2_digest 262 = .ok (.aload_n 0, 1) := by decide +kernel
theorem dX2_digest_263 : decode cX2_digest 263 = .ok (.getfield 9, 3) := by decide +kernel
theorem dX2_digest_266 : decode cX2_digest 266 = .ok (.if_icmp .ge 97, 3) := by decide +kernel
theorem dX2_digest_269 : decode cX2_digest 269 = .ok (.iconst 4, 1) := by decide +kernel
theorem dX2_digest_270 : decode cX2_digest 270 = .ok (.newarray .int, 2) := by decide +kernel
theorem dX2_digest_272 : decode cX2_digest 272 = .ok (.dup, 1) := by decide +kernel
theorem dX2_digest_273 : decode cX2_digest 273 = .ok (.iconst 0, 1) := by decide +kernel
theorem dX2_digest_274 : decode cX2_digest 274 = .ok (.aload_n 0, 1) := by decide +kernel
theorem dX2_digest_275 : decode cX2_digest 275 = .ok (.getfield 26, 3) := by decide +kernel
theorem dX2_digest_278 : decode cX2_digest 278 = .ok (.bipush 72, 2) := by decide +kernel
theorem dX2_digest_280 : decode cX2_digest 280 = .ok (.iload 4, 2) := by decide +kernel
theorem dX2_digest_282 : decode cX2_digest 282 = .ok (.iadd, 1) := by decide +kernel
theorem dX2_digest_283 : decode cX2_digest 283 = .ok (.iaload, 1) := by decide +kernel
theorem dX2_digest_284 : decode cX2_digest 284 = .ok (.iastore, 1) := by decide +kernel
theorem dX2_digest_285 : decode cX2_digest 285 = .ok (.dup, 1) := by decide +kernel
theorem dX2_digest_286 : decode cX2_digest 286 = .ok (.iconst 1, 1) := by decide +kernel
theorem dX2_digest_287 : decode cX2_digest 287 = .ok (.aload_n 0, 1) := by decide +kernel
theorem dX2_digest_288 : decode cX2_digest 288 = .ok (.iload 4, 2) := by decide +kernel
theorem dX2_digest_290 : decode cX2_digest 290 = .ok (.iconst 1, 1) := by decide +kernel
theorem dX2_digest_291 : decode cX2_digest 291 = .ok (.invokevirtual 113, 3) := by decide +kernel
theorem dX2_digest_294 : decode cX2_digest 294 = .ok (.iastore, 1) := by decide +kernel
theorem dX2_digest_295 : decode cX2_digest 295 = .ok (.dup, 1) := by decide +kernel
theorem dX2_digest_296 : decode cX2_digest 296 = .ok (.iconst 2, 1) := by decide +kernel
theorem dX2_digest_297 : decode cX2_digest 297 = .ok (.aload_n 0, 1) := by decide +kernel
theorem dX2_digest_298 : decode cX2_digest 298 = .ok (.iload 4, 2) := by decide +kernel
theorem dX2_digest_300 : decode cX2_digest 300 = .ok (.invokevirtual 116, 3) := by decide +kernel
theorem dX2_digest_303 : decode cX2_digest 303 = .ok (.iastore, 1) := by decide +kernel
theorem dX2_digest_304 : decode cX2_digest 304 = .ok (.dup, 1) := by decide +kernel
theorem dX2_digest_305 : decode cX2_digest 305 = .ok (.iconst 3, 1) := by decide +kernel
theorem dX2_digest_306 : decode cX2_digest 306 = .ok (.aload_n 0, 1) := by decide +kernel
theorem dX2_digest_307 : decode cX2_digest 307 = .ok (.iload 4, 2) := by decide +kernel
theorem dX2_digest_309 : decode cX2_digest 309 = .ok (.invokevirtual 123, 3) := by decide +kernel
theorem dX2_digest_312 : decode cX2_digest 312 = .ok (.iastore, 1) := by decide +kernel
theorem dX2_digest_313 : decode cX2_digest 313 = .ok (.astore 5, 2) := by decide +kernel
theorem dX2_digest_315 : decode cX2_digest 315 = .ok (.aload 5, 2) := by decide +kernel
theorem dX2_digest_317 : decode cX2_digest 317 = .ok (.astore 6, 2) := by decide +kernel
theorem dX2_digest_319 : decode cX2_digest 319 = .ok (.aload 6, 2) := by decide +kernel
theorem dX2_digest_321 : decode cX2_digest 321 = .ok (.arraylength, 1) := by decide +kernel
theorem dX2_digest_322 : decode cX2_digest 322 = .ok (.istore 7, 2) := by decide +kernel
theorem dX2_digest_324 : decode cX2_digest 324 = .ok (.iconst 0, 1) := by decide +kernel
theorem dX2_digest_325 : decode cX2_digest 325 = .ok (.istore 8, 2) := by decide +kernel
theorem dX2_digest_327 : decode cX2_digest 327 = .ok (.iload 8, 2) := by decide +kernel
theorem dX2_digest_329 : decode cX2_digest 329 = .ok (.iload 7, 2) := by decide +kernel
theorem dX2_digest_331 : decode cX2_digest 331 = .ok (.if_icmp .ge 26, 3) := by decide +kernel
theorem dX2_digest_334 : decode cX2_digest 334 = .ok (.aload 6, 2) := by decide +kernel
theorem dX2_digest_336 : decode cX2_digest 336 = .ok (.iload 8, 2) := by decide +kernel
theorem dX2_digest_338 : decode cX2_digest 338 = .ok (.iaload, 1) := by decide +kernel
theorem dX2_digest_339 : decode cX2_digest 339 = .ok (.istore 9, 2) := by decide +kernel
theorem dX2_digest_341 : decode cX2_digest 341 = .ok (.lload_n 2, 1) := by decide +kernel
theorem dX2_digest_342 : decode cX2_digest 342 = .ok (.ldc2_w 134, 3) := by decide +kernel
theorem dX2_digest_345 : decode cX2_digest 345 = .ok (.lmul, 1) := by decide +kernel
theorem dX2_digest_346 : decode cX2_digest 346 = .ok (.iload 9, 2) := by decide +kernel
theorem dX2_digest_348 : decode cX2_digest 348 = .ok (.i2l, 1) := by decide +kernel
theorem dX2_digest_349 : decode cX2_digest 349 = .ok (.ladd, 1) := by decide +kernel
theorem dX2_digest_350 : decode cX2_digest 350 = .ok (.lstore_n 2, 1) := by decide +kernel
theorem dX2_digest_351 : decode cX2_digest 351 = .ok (.iinc 8 1, 3) := by decide +kernel
theorem dX2_digest_354 : decode cX2_digest 354 = .ok (.goto (-27), 3) := by decide +kernel
theorem dX2_digest_357 : decode cX2_digest 357 = .ok (.iinc 4 1, 3) := by decide +kernel
theorem dX2_digest_360 : decode cX2_digest 360 = .ok (.goto (-100), 3) := by decide +kernel
theorem dX2_digest_363 : decode cX2_digest 363 = .ok (.lload_n 2, 1) := by decide +kernel
theorem dX2_digest_364 : decode cX2_digest 364 = .ok (.lreturn, 1) := by decide +kernel

theorem dX2_init_0 : decode cX2_init 0 = .ok (.aload_n 0, 1) := by decide +kernel
theorem dX2_init_1 : decode cX2_init 1 = .ok (.invokespecial 1, 3) := by decide +kernel
theorem dX2_init_4 : decode cX2_init 4 = .ok (.aload_n 0, 1) := by decide +kernel
theorem dX2_init_5 : decode cX2_init 5 = .ok (.iconst 4, 1) := by decide +kernel
theorem dX2_init_6 : decode cX2_init 6 = .ok (.iconst 5, 1) := by decide +kernel
theorem dX2_init_7 : decode cX2_init 7 = .ok (.iconst 3, 1) := by decide +kernel
theorem dX2_init_8 : decode cX2_init 8 = .ok (.multianewarray 7 3, 4) := by decide +kernel
theorem dX2_init_12 : decode cX2_init 12 = .ok (.putfield 9, 3) := by decide +kernel
theorem dX2_init_15 : decode cX2_init 15 = .ok (.aload_n 0, 1) := by decide +kernel
theorem dX2_init_16 : decode cX2_init 16 = .ok (.iconst 5, 1) := by decide +kernel
theorem dX2_init_17 : decode cX2_init 17 = .ok (.newarray .int, 2) := by decide +kernel
theorem dX2_init_19 : decode cX2_init 19 = .ok (.putfield 14, 3) := by decide +kernel
theorem dX2_init_22 : decode cX2_init 22 = .ok (.aload_n 0, 1) := by decide +kernel
theorem dX2_init_23 : decode cX2_init 23 = .ok (.iconst 2, 1) := by decide +kernel
theorem dX2_init_24 : decode cX2_init 24 = .ok (.newarray .int, 2) := by decide +kernel
theorem dX2_init_26 : decode cX2_init 26 = .ok (.dup, 1) := by decide +kernel
theorem dX2_init_27 : decode cX2_init 27 = .ok (.iconst 0, 1) := by decide +kernel
theorem dX2_init_28 : decode cX2_init 28 = .ok (.iconst 0, 1) := by decide +kernel
theorem dX2_init_29 : decode cX2_init 29 = .ok (.iastore, 1) := by decide +kernel
theorem dX2_init_30 : decode cX2_init 30 = .ok (.dup, 1) := by decide +kernel
theorem dX2_init_31 : decode cX2_init 31 = .ok (.iconst 1, 1) := by decide +kernel
theorem dX2_init_32 : decode cX2_init 32 = .ok (.iconst 4, 1) := by decide +kernel
theorem dX2_init_33 : decode cX2_init 33 = .ok (.iastore, 1) := by decide +kernel
theorem dX2_init_34 : decode cX2_init 34 = .ok (.putfield 18, 3) := by decide +kernel
theorem dX2_init_37 : decode cX2_init 37 = .ok (.aload_n 0, 1) := by decide +kernel
theorem dX2_init_38 : decode cX2_init 38 = .ok (.iconst 2, 1) := by decide +kernel
theorem dX2_init_39 : decode cX2_init 39 = .ok (.newarray .int, 2) := by decide +kernel
theorem dX2_init_41 : decode cX2_init 41 = .ok (.dup, 1) := by decide +kernel
theorem dX2_init_42 : decode cX2_init 42 = .ok (.iconst 0, 1) := by decide +kernel
theorem dX2_init_43 : decode cX2_init 43 = .ok (.iconst 0, 1) := by decide +kernel
theorem dX2_init_44 : decode cX2_init 44 = .ok (.iastore, 1) := by decide +kernel
theorem dX2_init_45 : decode cX2_init 45 = .ok (.dup, 1) := by decide +kernel
theorem dX2_init_46 : decode cX2_init 46 = .ok (.iconst 1, 1) := by decide +kernel
theorem dX2_init_47 : decode cX2_init 47 = .ok (.iconst 0, 1) := by decide +kernel
theorem dX2_init_48 : decode cX2_init 48 = .ok (.iastore, 1) := by decide +kernel
theorem dX2_init_49 : decode cX2_init 49 = .ok (.putfield 21, 3) := by decide +kernel
theorem dX2_init_52 : decode cX2_init 52 = .ok (.return_, 1) := by decide +kernel
set_option maxRecDepth 20000 in
theorem ggX2_copy_X2_init : GoodIn wsX2_copy wsX2_init := goodIn_r _ [17, 18, 19, 20, 4, 21, 11, 13, 14, 22, 23, 24, 25, 26, 27] rfl (by decide +kernel)
set_option maxRecDepth 20000 in
theorem gX2_copy_X2_init : GoodIn wsX2_copy (wsX2_init) := ggX2_copy_X2_init
theorem dX2_copy_0 : decode cX2_copy 0 = .ok (.new 10, 3) := by decide +kernel
theorem dX2_copy_3 : decode cX2_copy 3 = .ok (.dup, 1) := by decide +kernel
theorem dX2_copy_4 : decode cX2_copy 4 = .ok (.invokespecial 24, 3) := by decide +kernel
theorem dX2_copy_7 : decode cX2_copy 7 = .ok (.astore_n 1, 1) := by decide +kernel
theorem dX2_copy_8 : decode cX2_copy 8 = .ok (.aload_n 0, 1) := by decide +kernel
theorem dX2_copy_9 : decode cX2_copy 9 = .ok (.getfield 9, 3) := by decide +kernel
theorem dX2_copy_12 : decode cX2_copy 12 = .ok (.iconst 0, 1) := by decide +kernel
theorem dX2_copy_13 : decode cX2_copy 13 = .ok (.aaload, 1) := by decide +kernel
theorem dX2_copy_14 : decode cX2_copy 14 = .ok (.arraylength, 1) := by decide +kernel
theorem dX2_copy_15 : decode cX2_copy 15 = .ok (.istore_n 2, 1) := by decide +kernel
theorem dX2_copy_16 : decode cX2_copy 16 = .ok (.aload_n 1, 1) := by decide +kernel
theorem dX2_copy_17 : decode cX2_copy 17 = .ok (.aload_n 0, 1) := by decide +kernel
theorem dX2_copy_18 : decode cX2_copy 18 = .ok (.getfield 9, 3) := by decide +kernel
theorem dX2_copy_21 : decode cX2_copy 21 = .ok (.arraylength, 1) := by decide +kernel
theorem dX2_copy_22 : decode cX2_copy 22 = .ok (.iload_n 2, 1) := by decide +kernel
theorem dX2_copy_23 : decode cX2_copy 23 = .ok (.multianewarray 7 2, 4) := by decide +kernel
theorem dX2_copy_27 : decode cX2_copy 27 = .ok (.putfield 9, 3) := by decide +kernel
theorem dX2_copy_30 : decode cX2_copy 30 = .ok (.iconst 0, 1) := by decide +kernel
theorem dX2_copy_31 : decode cX2_copy 31 = .ok (.istore_n 3, 1) := by decide +kernel
theorem dX2_copy_32 : decode cX2_copy 32 = .ok (.iload_n 3, 1) := by decide +kernel
theorem dX2_copy_33 : decode cX2_copy 33 = .ok (.aload_n 0, 1) := by decide +kernel
theorem dX2_copy_34 : decode cX2_copy 34 = .ok (.getfield 9, 3) := by decide +kernel
theorem dX2_copy_37 : decode cX2_copy 37 = .ok (.arraylength, 1) := by decide +kernel
theorem dX2_copy_38 : decode cX2_copy 38 = .ok (.if_icmp .ge 48, 3) := by decide +kernel
theorem dX2_copy_41 : decode cX2_copy 41 = .ok (.iconst 0, 1) := by decide +kernel
theorem dX2_copy_42 : decode cX2_copy 42 = .ok (.istore 4, 2) := by decide +kernel
theorem dX2_copy_44 : decode cX2_copy 44 = .ok (.iload 4, 2) := by decide +kernel
theorem dX2_copy_46 : decode cX2_copy 46 = .ok (.iload_n 2, 1) := by decide +kernel
theorem dX2_copy_47 : decode cX2_copy 47 = .ok (.if_icmp .ge 33, 3) := by decide +kernel
theorem dX2_copy_50 : decode cX2_copy 50 = .ok (.aload_n 1, 1) := by decide +kernel
theorem dX2_copy_51 : decode cX2_copy 51 = .ok (.getfield 9, 3) := by decide +kernel
theorem dX2_copy_54 : decode cX2_copy 54 = .ok (.iload_n 3, 1) := by decide +kernel
theorem dX2_copy_55 : decode cX2_copy 55 = .ok (.aaload, 1) := by decide +kernel
theorem dX2_copy_56 : decode cX2_copy 56 = .ok (.iload 4, 2) := by decide +kernel
theorem dX2_copy_58 : decode cX2_copy 58 = .ok (.aload_n 0, 1) := by decide +kernel
theorem dX2_copy_59 : decode cX2_copy 59 = .ok (.getfield 9, 3) := by decide +kernel
theorem dX2_copy_62 : decode cX2_copy 62 = .ok (.iload_n 3, 1) := by decide +kernel
theorem dX2_copy_63 : decode cX2_copy 63 = .ok (.aaload, 1) := by decide +kernel
theorem dX2_copy_64 : decode cX2_copy 64 = .ok (.iload 4, 2) := by decide +kernel
theorem dX2_copy_66 : decode cX2_copy 66 = .ok (.aaload, 1) := by decide +kernel
theorem dX2_copy_67 : decode cX2_copy 67 = .ok (.invokevirtual 25, 3) := by decide +kernel
theorem dX2_copy_70 : decode cX2_copy 70 = .ok (.checkcast 26, 3) := by decide +kernel
theorem dX2_copy_73 : decode cX2_copy 73 = .ok (.aastore, 1) := by decide +kernel
theorem dX2_copy_74 : decode cX2_copy 74 = .ok (.iinc 4 1, 3) := by decide +kernel
theorem dX2_copy_77 : decode cX2_copy 77 = .ok (.goto (-33), 3) := by decide +kernel
theorem dX2_copy_80 : decode cX2_copy 80 = .ok (.iinc 3 1, 3) := by decide +kernel
theorem dX2_copy_83 : decode cX2_copy 83 = .ok (.goto (-51), 3) := by decide +kernel
theorem dX2_copy_86 : decode cX2_copy 86 = .ok (.aload_n 1, 1) := by decide +kernel
theorem dX2_copy_87 : decode cX2_copy 87 = .ok (.aload_n 0, 1) := by decide +kernel
theorem dX2_copy_88 : decode cX2_copy 88 = .ok (.getfield 14, 3) := by decide +kernel
theorem dX2_copy_91 : decode cX2_copy 91 = .ok (.invokevirtual 25, 3) := by decide +kernel
theorem dX2_copy_94 : decode cX2_copy 94 = .ok (.checkcast 26, 3) := by decide +kernel
theorem dX2_copy_97 : decode cX2_copy 97 = .ok (.putfield 14, 3) := by decide +kernel
theorem dX2_copy_100 : decode cX2_copy 100 = .ok (.aload_n 1, 1) := by decide +kernel
theorem dX2_copy_101 : decode cX2_copy 101 = .ok (.aload_n 0, 1) := by decide +kernel
theorem dX2_copy_102 : decode cX2_copy 102 = .ok (.getfield 30, 3) := by decide +kernel
theorem dX2_copy_105 : decode cX2_copy 105 = .ok (.putfield 30, 3) := by decide +kernel
theorem dX2_copy_108 : decode cX2_copy 108 = .ok (.aload_n 1, 1) := by decide +kernel
theorem dX2_copy_109 : decode cX2_copy 109 = .ok (.aload_n 0, 1) := by decide +kernel
theorem dX2_copy_110 : decode cX2_copy 110 = .ok (.getfield 18, 3) := by decide +kernel
theorem dX2_copy_113 : decode cX2_copy 113 = .ok (.invokevirtual 25, 3) := by decide +kernel
theorem dX2_copy_116 : decode cX2_copy 116 = .ok (.checkcast 26, 3) := by decide +kernel
theorem dX2_copy_119 : decode cX2_copy 119 = .ok (.putfield 18, 3) := by decide +kernel
theorem dX2_copy_122 : decode cX2_copy 122 = .ok (.aload_n 1, 1) := by decide +kernel
theorem dX2_copy_123 : decode cX2_copy 123 = .ok (.aload_n 0, 1) := by decide +kernel
theorem dX2_copy_124 : decode cX2_copy 124 = .ok (.getfield 21, 3) := by decide +kernel
theorem dX2_copy_127 : decode cX2_copy 127 = .ok (.invokevirtual 25, 3) := by decide +kernel
theorem dX2_copy_130 : decode cX2_copy 130 = .ok (.checkcast 26, 3) := by decide +kernel
theorem dX2_copy_133 : decode cX2_copy 133 = .ok (.putfield 21, 3) := by decide +kernel
theorem dX2_copy_136 : decode cX2_copy 136 = .ok (.aload_n 1, 1) := by decide +kernel
theorem dX2_copy_137 : decode cX2_copy 137 = .ok (.areturn, 1) := by decide +kernel
theorem dX2_lay_0 : decode cX2_lay 0 = .ok (.aload_n 0, 1) := by decide +kernel
theorem dX2_lay_1 : decode cX2_lay 1 = .ok (.iload_n 2, 1) := by decide +kernel
theorem dX2_lay_2 : decode cX2_lay 2 = .ok (.iload_n 1, 1) := by decide +kernel
theorem dX2_lay_3 : decode cX2_lay 3 = .ok (.iconst 3, 1) := by decide +kernel
theorem dX2_lay_4 : decode cX2_lay 4 = .ok (.multianewarray 7 3, 4) := by decide +kernel
theorem dX2_lay_8 : decode cX2_lay 8 = .ok (.putfield 9, 3) := by decide +kernel
theorem dX2_lay_11 : decode cX2_lay 11 = .ok (.aload_n 0, 1) := by decide +kernel
theorem dX2_lay_12 : decode cX2_lay 12 = .ok (.iload_n 1, 1) := by decide +kernel
theorem dX2_lay_13 : decode cX2_lay 13 = .ok (.newarray .int, 2) := by decide +kernel
theorem dX2_lay_15 : decode cX2_lay 15 = .ok (.putfield 14, 3) := by decide +kernel
theorem dX2_lay_18 : decode cX2_lay 18 = .ok (.aload_n 0, 1) := by decide +kernel
theorem dX2_lay_19 : decode cX2_lay 19 = .ok (.iconst 0, 1) := by decide +kernel
theorem dX2_lay_20 : decode cX2_lay 20 = .ok (.putfield 30, 3) := by decide +kernel
theorem dX2_lay_23 : decode cX2_lay 23 = .ok (.aload_n 0, 1) := by decide +kernel
theorem dX2_lay_24 : decode cX2_lay 24 = .ok (.iconst 2, 1) := by decide +kernel
theorem dX2_lay_25 : decode cX2_lay 25 = .ok (.newarray .int, 2) := by decide +kernel
theorem dX2_lay_27 : decode cX2_lay 27 = .ok (.dup, 1) := by decide +kernel
theorem dX2_lay_28 : decode cX2_lay 28 = .ok (.iconst 0, 1) := by decide +kernel
theorem dX2_lay_29 : decode cX2_lay 29 = .ok (.iconst 0, 1) := by decide +kernel
theorem dX2_lay_30 : decode cX2_lay 30 = .ok (.iastore, 1) := by decide +kernel
theorem dX2_lay_31 : decode cX2_lay 31 = .ok (.dup, 1) := by decide +kernel
theorem dX2_lay_32 : decode cX2_lay 32 = .ok (.iconst 1, 1) := by decide +kernel
theorem dX2_lay_33 : decode cX2_lay 33 = .ok (.iload_n 1, 1) := by decide +kernel
theorem dX2_lay_34 : decode cX2_lay 34 = .ok (.iconst 1, 1) := by decide +kernel
theorem dX2_lay_35 : decode cX2_lay 35 = .ok (.isub, 1) := by decide +kernel
theorem dX2_lay_36 : decode cX2_lay 36 = .ok (.iastore, 1) := by decide +kernel
theorem dX2_lay_37 : decode cX2_lay 37 = .ok (.putfield 18, 3) := by decide +kernel
theorem dX2_lay_40 : decode cX2_lay 40 = .ok (.return_, 1) := by decide +kernel
theorem dX2_fall_0 : decode cX2_fall 0 = .ok (.iload_n 1, 1) := by decide +kernel
theorem dX2_fall_1 : decode cX2_fall 1 = .ok (.istore_n 3, 1) := by decide +kernel
theorem dX2_fall_2 : decode cX2_fall 2 = .ok (.iconst 0, 1) := by decide +kernel
theorem dX2_fall_3 : decode cX2_fall 3 = .ok (.istore 4, 2) := by decide +kernel
theorem dX2_fall_5 : decode cX2_fall 5 = .ok (.iconst 0, 1) := by decide +kernel
theorem dX2_fall_6 : decode cX2_fall 6 = .ok (.istore 5, 2) := by decide +kernel
theorem dX2_fall_8 : decode cX2_fall 8 = .ok (.iload 5, 2) := by decide +kernel
theorem dX2_fall_10 : decode cX2_fall 10 = .ok (.iload_n 2, 1) := by decide +kernel
theorem dX2_fall_11 : decode cX2_fall 11 = .ok (.if_icmp .ge 180, 3) := by decide +kernel
theorem dX2_fall_14 : decode cX2_fall 14 = .ok (.aload_n 0, 1) := by decide +kernel
theorem dX2_fall_15 : decode cX2_fall 15 = .ok (.getfield 9, 3) := by decide +kernel
theorem dX2_fall_18 : decode cX2_fall 18 = .ok (.iload 5, 2) := by decide +kernel
theorem dX2_fall_20 : decode cX2_fall 20 = .ok (.aaload, 1) := by decide +kernel
theorem dX2_fall_21 : decode cX2_fall 21 = .ok (.iload_n 3, 1) := by decide +kernel
theorem dX2_fall_22 : decode cX2_fall 22 = .ok (.aaload, 1) := by decide +kernel
theorem dX2_fall_23 : decode cX2_fall 23 = .ok (.astore 6, 2) := by decide +kernel
theorem dX2_fall_25 : decode cX2_fall 25 = .ok (.aload 6, 2) := by decide +kernel
theorem dX2_fall_27 : decode cX2_fall 27 = .ok (.iconst 0, 1) := by decide +kernel
theorem dX2_fall_28 : decode cX2_fall 28 = .ok (.iaload, 1) := by decide +kernel
theorem dX2_fall_29 : decode cX2_fall 29 = .ok (.ifCond .ne 9, 3) := by decide +kernel
theorem dX2_fall_32 : decode cX2_fall 32 = .ok (.iconst 0, 1) := by decide +kernel
theorem dX2_fall_33 : decode cX2_fall 33 = .ok (.istore 4, 2) := by decide +kernel
theorem dX2_fall_35 : decode cX2_fall 35 = .ok (.goto 130, 3) := by decide +kernel
theorem dX2_fall_38 : decode cX2_fall 38 = .ok (.aload 6, 2) := by decide +kernel
theorem dX2_fall_40 : decode cX2_fall 40 = .ok (.iconst 0, 1) := by decide +kernel
theorem dX2_fall_41 : decode cX2_fall 41 = .ok (.iaload, 1) := by decide +kernel
theorem dX2_fall_42 : decode cX2_fall 42 = .ok (.iconst 3, 1) := by decide +kernel
theorem dX2_fall_43 : decode cX2_fall 43 = .ok (.if_icmp .ge 21, 3) := by decide +kernel
theorem dX2_fall_46 : decode cX2_fall 46 = .ok (.aload 6, 2) := by decide +kernel
theorem dX2_fall_48 : decode cX2_fall 48 = .ok (.iconst 0, 1) := by decide +kernel
theorem dX2_fall_49 : decode cX2_fall 49 = .ok (.iaload, 1) := by decide +kernel
theorem dX2_fall_50 : decode cX2_fall 50 = .ok (.iconst 1, 1) := by decide +kernel
theorem dX2_fall_51 : decode cX2_fall 51 = .ok (.if_icmp .ne 7, 3) := by decide +kernel
theorem dX2_fall_54 : decode cX2_fall 54 = .ok (.iconst (-1), 1) := by decide +kernel
theorem dX2_fall_55 : decode cX2_fall 55 = .ok (.goto 4, 3) := by decide +kernel
theorem dX2_fall_58 : decode cX2_fall 58 = .ok (.iconst 1, 1) := by decide +kernel
theorem dX2_fall_59 : decode cX2_fall 59 = .ok (.istore 4, 2) := by decide +kernel
theorem dX2_fall_61 : decode cX2_fall 61 = .ok (.goto 104, 3) := by decide +kernel
theorem dX2_fall_64 : decode cX2_fall 64 = .ok (.aload 6, 2) := by decide +kernel
theorem dX2_fall_66 : decode cX2_fall 66 = .ok (.iconst 0, 1) := by decide +kernel
theorem dX2_fall_67 : decode cX2_fall 67 = .ok (.iaload, 1) := by decide +kernel
theorem dX2_fall_68 : decode cX2_fall 68 = .ok (.iconst 3, 1) := by decide +kernel
theorem dX2_fall_69 : decode cX2_fall 69 = .ok (.if_icmp .ne 46, 3) := by decide +kernel
theorem dX2_fall_72 : decode cX2_fall 72 = .ok (.aload 6, 2) := by decide +kernel
theorem dX2_fall_74 : decode cX2_fall 74 = .ok (.iconst 2, 1) := by decide +kernel
theorem dX2_fall_75 : decode cX2_fall 75 = .ok (.iaload, 1) := by decide +kernel
theorem dX2_fall_76 : decode cX2_fall 76 = .ok (.ifCond .ne 7, 3) := by decide +kernel
theorem dX2_fall_79 : decode cX2_fall 79 = .ok (.iconst (-1), 1) := by decide +kernel
theorem dX2_fall_80 : decode cX2_fall 80 = .ok (.goto 4, 3) := by decide +kernel
theorem dX2_fall_83 : decode cX2_fall 83 = .ok (.iconst 1, 1) := by decide +kernel
theorem dX2_fall_84 : decode cX2_fall 84 = .ok (.istore 4, 2) := by decide +kernel
theorem dX2_fall_86 : decode cX2_fall 86 = .ok (.aload 6, 2) := by decide +kernel
theorem dX2_fall_88 : decode cX2_fall 88 = .ok (.iconst 2, 1) := by decide +kernel
theorem dX2_fall_89 : decode cX2_fall 89 = .ok (.aload 6, 2) := by decide +kernel
theorem dX2_fall_91 : decode cX2_fall 91 = .ok (.iconst 2, 1) := by decide +kernel
theorem dX2_fall_92 : decode cX2_fall 92 = .ok (.iaload, 1) := by decide +kernel
theorem dX2_fall_93 : decode cX2_fall 93 = .ok (.ifCond .ne 7, 3) := by decide +kernel
theorem dX2_fall_96 : decode cX2_fall 96 = .ok (.iconst 1, 1) := by decide +kernel
theorem dX2_fall_97 : decode cX2_fall 97 = .ok (.goto 4, 3) := by decide +kernel
theorem dX2_fall_100 : decode cX2_fall 100 = .ok (.iconst 0, 1) := by decide +kernel
theorem dX2_fall_101 : decode cX2_fall 101 = .ok (.iastore, 1) := by decide +kernel
theorem dX2_fall_102 : decode cX2_fall 102 = .ok (.aload_n 0, 1) := by decide +kernel
theorem dX2_fall_103 : decode cX2_fall 103 = .ok (.dup, 1) := by decide +kernel
theorem dX2_fall_104 : decode cX2_fall 104 = .ok (.getfield 34, 3) := by decide +kernel
theorem dX2_fall_107 : decode cX2_fall 107 = .ok (.iconst 1, 1) := by decide +kernel
theorem dX2_fall_108 : decode cX2_fall 108 = .ok (.iadd, 1) := by decide +kernel
theorem dX2_fall_109 : decode cX2_fall 109 = .ok (.putfield 34, 3) := by decide +kernel
theorem dX2_fall_112 : decode cX2_fall 112 = .ok (.goto 53, 3) := by decide +kernel
theorem dX2_fall_115 : decode cX2_fall 115 = .ok (.aload 6, 2) := by decide +kernel
theorem dX2_fall_117 : decode cX2_fall 117 = .ok (.iconst 0, 1) := by decide +kernel
theorem dX2_fall_118 : decode cX2_fall 118 = .ok (.iaload, 1) := by decide +kernel
theorem dX2_fall_119 : decode cX2_fall 119 = .ok (.iconst 5, 1) := by decide +kernel
theorem dX2_fall_120 : decode cX2_fall 120 = .ok (.if_icmp .ne 45, 3) := by decide +kernel
theorem dX2_fall_123 : decode cX2_fall 123 = .ok (.aload 6, 2) := by decide +kernel
theorem dX2_fall_125 : decode cX2_fall 125 = .ok (.iconst 2, 1) := by decide +kernel
theorem dX2_fall_126 : decode cX2_fall 126 = .ok (.dup2, 1) := by decide +kernel
theorem dX2_fall_127 : decode cX2_fall 127 = .ok (.iaload, 1) := by decide +kernel
theorem dX2_fall_128 : decode cX2_fall 128 = .ok (.iconst 1, 1) := by decide +kernel
theorem dX2_fall_129 : decode cX2_fall 129 = .ok (.iadd, 1) := by decide +kernel
theorem dX2_fall_130 : decode cX2_fall 130 = .ok (.iastore, 1) := by decide +kernel
theorem dX2_fall_131 : decode cX2_fall 131 = .ok (.aload 6, 2) := by decide +kernel
theorem dX2_fall_133 : decode cX2_fall 133 = .ok (.iconst 2, 1) := by decide +kernel
theorem dX2_fall_134 : decode cX2_fall 134 = .ok (.iaload, 1) := by decide +kernel
theorem dX2_fall_135 : decode cX2_fall 135 = .ok (.aload 6, 2) := by decide +kernel
theorem dX2_fall_137 : decode cX2_fall 137 = .ok (.iconst 1, 1) := by decide +kernel
theorem dX2_fall_138 : decode cX2_fall 138 = .ok (.iaload, 1) := by decide +kernel
theorem dX2_fall_139 : decode cX2_fall 139 = .ok (.if_icmp .ne 7, 3) := by decide +kernel
theorem dX2_fall_142 : decode cX2_fall 142 = .ok (.iconst 1, 1) := by decide +kernel
theorem dX2_fall_143 : decode cX2_fall 143 = .ok (.goto 4, 3) := by decide +kernel
theorem dX2_fall_146 : decode cX2_fall 146 = .ok (.iconst (-1), 1) := by decide +kernel
theorem dX2_fall_147 : decode cX2_fall 147 = .ok (.istore 4, 2) := by decide +kernel
theorem dX2_fall_149 : decode cX2_fall 149 = .ok (.aload 6, 2) := by decide +kernel
theorem dX2_fall_151 : decode cX2_fall 151 = .ok (.iconst 2, 1) := by decide +kernel
theorem dX2_fall_152 : decode cX2_fall 152 = .ok (.iaload, 1) := by decide +kernel
theorem dX2_fall_153 : decode cX2_fall 153 = .ok (.aload 6, 2) := by decide +kernel
theorem dX2_fall_155 : decode cX2_fall 155 = .ok (.iconst 1, 1) := by decide +kernel
theorem dX2_fall_156 : decode cX2_fall 156 = .ok (.iaload, 1) := by decide +kernel
theorem dX2_fall_157 : decode cX2_fall 157 = .ok (.if_icmp .ne 8, 3) := by decide +kernel
theorem dX2_fall_160 : decode cX2_fall 160 = .ok (.aload 6, 2) := by decide +kernel
theorem dX2_fall_162 : decode cX2_fall 162 = .ok (.iconst 2, 1) := by decide +kernel
theorem dX2_fall_163 : decode cX2_fall 163 = .ok (.iconst 0, 1) := by decide +kernel
theorem dX2_fall_164 : decode cX2_fall 164 = .ok (.iastore, 1) := by decide +kernel
theorem dX2_fall_165 : decode cX2_fall 165 = .ok (.iload_n 3, 1) := by decide +kernel
theorem dX2_fall_166 : decode cX2_fall 166 = .ok (.iload 4, 2) := by decide +kernel
theorem dX2_fall_168 : decode cX2_fall 168 = .ok (.iadd, 1) := by decide +kernel
theorem dX2_fall_169 : decode cX2_fall 169 = .ok (.istore_n 3, 1) := by decide +kernel
theorem dX2_fall_170 : decode cX2_fall 170 = .ok (.iload_n 3, 1) := by decide +kernel
theorem dX2_fall_171 : decode cX2_fall 171 = .ok (.ifCond .lt 12, 3) := by decide +kernel
theorem dX2_fall_174 : decode cX2_fall 174 = .ok (.iload_n 3, 1) := by decide +kernel
theorem dX2_fall_175 : decode cX2_fall 175 = .ok (.aload_n 0, 1) := by decide +kernel
theorem dX2_fall_176 : decode cX2_fall 176 = .ok (.getfield 14, 3) := by decide +kernel
theorem dX2_fall_179 : decode cX2_fall 179 = .ok (.arraylength, 1) := by decide +kernel
theorem dX2_fall_180 : decode cX2_fall 180 = .ok (.if_icmp .ne 5, 3) := by decide +kernel
theorem dX2_fall_183 : decode cX2_fall 183 = .ok (.iconst (-1), 1) := by decide +kernel
theorem dX2_fall_184 : decode cX2_fall 184 = .ok (.ireturn, 1) := by decide +kernel
theorem dX2_fall_185 : decode cX2_fall 185 = .ok (.iinc 5 1, 3) := by decide +kernel
theorem dX2_fall_188 : decode cX2_fall 188 = .ok (.goto (-180), 3) := by decide +kernel
theorem dX2_fall_191 : decode cX2_fall 191 = .ok (.iload_n 3, 1) := by decide +kernel
theorem dX2_fall_192 : decode cX2_fall 192 = .ok (.ireturn, 1) := by decide +kernel
set_option maxRecDepth 20000 in
theorem ggX2_drop_X2_fall : GoodIn wsX2_drop wsX2_fall := goodIn_r _ [8, 1, 9, 3, 10, 11, 12, 13, 14, 15] rfl (by decide +kernel)
set_option maxRecDepth 20000 in
theorem gX2_drop_X2_fall : GoodIn wsX2_drop (wsV RX2 37 RX2 yX2_fall wsX2_fall) := goodIn_app (goodIn_of _ (by decide +kernel)) ggX2_drop_X2_fall
theorem dX2_drop_0 : decode cX2_drop 0 = .ok (.aload_n 0, 1) := by decide +kernel
theorem dX2_drop_1 : decode cX2_drop 1 = .ok (.iload_n 1, 1) := by decide +kernel
theorem dX2_drop_2 : decode cX2_drop 2 = .ok (.aload_n 0, 1) := by decide +kernel
theorem dX2_drop_3 : decode cX2_drop 3 = .ok (.getfield 9, 3) := by decide +kernel
theorem dX2_drop_6 : decode cX2_drop 6 = .ok (.arraylength, 1) := by decide +kernel
theorem dX2_drop_7 : decode cX2_drop 7 = .ok (.invokevirtual 37, 3) := by decide +kernel
theorem dX2_drop_10 : decode cX2_drop 10 = .ok (.istore_n 2, 1) := by decide +kernel
theorem dX2_drop_11 : decode cX2_drop 11 = .ok (.iload_n 2, 1) := by decide +kernel
theorem dX2_drop_12 : decode cX2_drop 12 = .ok (.ifCond .ge 16, 3) := by decide +kernel
theorem dX2_drop_15 : decode cX2_drop 15 = .ok (.aload_n 0, 1) := by decide +kernel
theorem dX2_drop_16 : decode cX2_drop 16 = .ok (.dup, 1) := by decide +kernel
theorem dX2_drop_17 : decode cX2_drop 17 = .ok (.getfield 30, 3) := by decide +kernel
theorem dX2_drop_20 : decode cX2_drop 20 = .ok (.iconst 1, 1) := by decide +kernel
theorem dX2_drop_21 : decode cX2_drop 21 = .ok (.iadd, 1) := by decide +kernel
theorem dX2_drop_22 : decode cX2_drop 22 = .ok (.putfield 30, 3) := by decide +kernel
theorem dX2_drop_25 : decode cX2_drop 25 = .ok (.goto 13, 3) := by decide +kernel
theorem dX2_drop_28 : decode cX2_drop 28 = .ok (.aload_n 0, 1) := by decide +kernel
theorem dX2_drop_29 : decode cX2_drop 29 = .ok (.getfield 14, 3) := by decide +kernel
theorem dX2_drop_32 : decode cX2_drop 32 = .ok (.iload_n 2, 1) := by decide +kernel
theorem dX2_drop_33 : decode cX2_drop 33 = .ok (.dup2, 1) := by decide +kernel
theorem dX2_drop_34 : decode cX2_drop 34 = .ok (.iaload, 1) := by decide +kernel
theorem dX2_drop_35 : decode cX2_drop 35 = .ok (.iconst 1, 1) := by decide +kernel
theorem dX2_drop_36 : decode cX2_drop 36 = .ok (.iadd, 1) := by decide +kernel
theorem dX2_drop_37 : decode cX2_drop 37 = .ok (.iastore, 1) := by decide +kernel
theorem dX2_drop_38 : decode cX2_drop 38 = .ok (.iload_n 2, 1) := by decide +kernel
theorem dX2_drop_39 : decode cX2_drop 39 = .ok (.ireturn, 1) := by decide +kernel
set_option maxRecDepth 20000 in
theorem ggX2_run_X2_drop : GoodIn wsX2_run wsX2_drop := goodIn_r _ [8, 9, 10, 3, 11, 12, 13, 7, 14, 15, 16, 17, 18, 19, 20, 21] rfl (by decide +kernel)
set_option maxRecDepth 20000 in
theorem gX2_run_X2_drop : GoodIn wsX2_run (wsV RX2 41 RX2 yX2_drop wsX2_drop) := goodIn_app (goodIn_of _ (by decide +kernel)) ggX2_run_X2_drop
theorem dX2_run_0 : decode cX2_run 0 = .ok (.iconst 0, 1) := by decide +kernel
theorem dX2_run_1 : decode cX2_run 1 = .ok (.istore_n 3, 1) := by decide +kernel
theorem dX2_run_2 : decode cX2_run 2 = .ok (.iload_n 1, 1) := by decide +kernel
theorem dX2_run_3 : decode cX2_run 3 = .ok (.istore 4, 2) := by decide +kernel
theorem dX2_run_5 : decode cX2_run 5 = .ok (.iload_n 3, 1) := by decide +kernel
theorem dX2_run_6 : decode cX2_run 6 = .ok (.iload_n 2, 1) := by decide +kernel
theorem dX2_run_7 : decode cX2_run 7 = .ok (.if_icmp .ge 86, 3) := by decide +kernel
theorem dX2_run_10 : decode cX2_run 10 = .ok (.aload_n 0, 1) := by decide +kernel
theorem dX2_run_11 : decode cX2_run 11 = .ok (.getfield 21, 3) := by decide +kernel
theorem dX2_run_14 : decode cX2_run 14 = .ok (.iload 4, 2) := by decide +kernel
theorem dX2_run_16 : decode cX2_run 16 = .ok (.iaload, 1) := by decide +kernel
theorem dX2_run_17 : decode cX2_run 17 = .ok (.ifCond .le 76, 3) := by decide +kernel
theorem dX2_run_20 : decode cX2_run 20 = .ok (.aload_n 0, 1) := by decide +kernel
theorem dX2_run_21 : decode cX2_run 21 = .ok (.getfield 21, 3) := by decide +kernel
theorem dX2_run_24 : decode cX2_run 24 = .ok (.iload 4, 2) := by decide +kernel
theorem dX2_run_26 : decode cX2_run 26 = .ok (.dup2, 1) := by decide +kernel
theorem dX2_run_27 : decode cX2_run 27 = .ok (.iaload, 1) := by decide +kernel
theorem dX2_run_28 : decode cX2_run 28 = .ok (.iconst 1, 1) := by decide +kernel
theorem dX2_run_29 : decode cX2_run 29 = .ok (.isub, 1) := by decide +kernel
theorem dX2_run_30 : decode cX2_run 30 = .ok (.iastore, 1) := by decide +kernel
theorem dX2_run_31 : decode cX2_run 31 = .ok (.iinc 3 1, 3) := by decide +kernel
theorem dX2_run_34 : decode cX2_run 34 = .ok (.aload_n 0, 1) := by decide +kernel
theorem dX2_run_35 : decode cX2_run 35 = .ok (.aload_n 0, 1) := by decide +kernel
theorem dX2_run_36 : decode cX2_run 36 = .ok (.getfield 18, 3) := by decide +kernel
theorem dX2_run_39 : decode cX2_run 39 = .ok (.iload 4, 2) := by decide +kernel
theorem dX2_run_41 : decode cX2_run 41 = .ok (.iaload, 1) := by decide +kernel
theorem dX2_run_42 : decode cX2_run 42 = .ok (.invokevirtual 41, 3) := by decide +kernel
theorem dX2_run_45 : decode cX2_run 45 = .ok (.istore 5, 2) := by decide +kernel
theorem dX2_run_47 : decode cX2_run 47 = .ok (.aload_n 0, 1) := by decide +kernel
theorem dX2_run_48 : decode cX2_run 48 = .ok (.getfield 14, 3) := by decide +kernel
theorem dX2_run_51 : decode cX2_run 51 = .ok (.arraylength, 1) := by decide +kernel
theorem dX2_run_52 : decode cX2_run 52 = .ok (.iconst 1, 1) := by decide +kernel
theorem dX2_run_53 : decode cX2_run 53 = .ok (.isub, 1) := by decide +kernel
theorem dX2_run_54 : decode cX2_run 54 = .ok (.istore 6, 2) := by decide +kernel
theorem dX2_run_56 : decode cX2_run 56 = .ok (.iload 5, 2) := by decide +kernel
theorem dX2_run_58 : decode cX2_run 58 = .ok (.ifCond .lt 13, 3) := by decide +kernel
theorem dX2_run_61 : decode cX2_run 61 = .ok (.iload 5, 2) := by decide +kernel
theorem dX2_run_63 : decode cX2_run 63 = .ok (.iload 5, 2) := by decide +kernel
theorem dX2_run_65 : decode cX2_run 65 = .ok (.iadd, 1) := by decide +kernel
theorem dX2_run_66 : decode cX2_run 66 = .ok (.iload 6, 2) := by decide +kernel
theorem dX2_run_68 : decode cX2_run 68 = .ok (.if_icmp .ne 5, 3) := by decide +kernel
theorem dX2_run_71 : decode cX2_run 71 = .ok (.iload_n 3, 1) := by decide +kernel
theorem dX2_run_72 : decode cX2_run 72 = .ok (.ireturn, 1) := by decide +kernel
theorem dX2_run_73 : decode cX2_run 73 = .ok (.iload 5, 2) := by decide +kernel
theorem dX2_run_75 : decode cX2_run 75 = .ok (.iload 5, 2) := by decide +kernel
theorem dX2_run_77 : decode cX2_run 77 = .ok (.iadd, 1) := by decide +kernel
theorem dX2_run_78 : decode cX2_run 78 = .ok (.iload 6, 2) := by decide +kernel
theorem dX2_run_80 : decode cX2_run 80 = .ok (.if_icmp .ge 7, 3) := by decide +kernel
theorem dX2_run_83 : decode cX2_run 83 = .ok (.iconst 0, 1) := by decide +kernel
theorem dX2_run_84 : decode cX2_run 84 = .ok (.goto 4, 3) := by decide +kernel
theorem dX2_run_87 : decode cX2_run 87 = .ok (.iconst 1, 1) := by decide +kernel
theorem dX2_run_88 : decode cX2_run 88 = .ok (.istore 4, 2) := by decide +kernel
theorem dX2_run_90 : decode cX2_run 90 = .ok (.goto (-85), 3) := by decide +kernel
theorem dX2_run_93 : decode cX2_run 93 = .ok (.iload_n 3, 1) := by decide +kernel
theorem dX2_run_94 : decode cX2_run 94 = .ok (.ireturn, 1) := by decide +kernel
theorem dX2_hasSame_0 : decode cX2_hasSame 0 = .ok (.iconst 0, 1) := by decide +kernel
theorem dX2_hasSame_1 : decode cX2_hasSame 1 = .ok (.istore_n 2, 1) := by decide +kernel
theorem dX2_hasSame_2 : decode cX2_hasSame 2 = .ok (.iload_n 2, 1) := by decide +kernel
theorem dX2_hasSame_3 : decode cX2_hasSame 3 = .ok (.aload_n 0, 1) := by decide +kernel
theorem dX2_hasSame_4 : decode cX2_hasSame 4 = .ok (.getfield 9, 3) := by decide +kernel
theorem dX2_hasSame_7 : decode cX2_hasSame 7 = .ok (.arraylength, 1) := by decide +kernel
theorem dX2_hasSame_8 : decode cX2_hasSame 8 = .ok (.if_icmp .ge 51, 3) := by decide +kernel
theorem dX2_hasSame_11 : decode cX2_hasSame 11 = .ok (.iconst 0, 1) := by decide +kernel
theorem dX2_hasSame_12 : decode cX2_hasSame 12 = .ok (.istore_n 3, 1) := by decide +kernel
theorem dX2_hasSame_13 : decode cX2_hasSame 13 = .ok (.iload_n 3, 1) := by decide +kernel
theorem dX2_hasSame_14 : decode cX2_hasSame 14 = .ok (.aload_n 0, 1) := by decide +kernel
theorem dX2_hasSame_15 : decode cX2_hasSame 15 = .ok (.getfield 14, 3) := by decide +kernel
theorem dX2_hasSame_18 : decode cX2_hasSame 18 = .ok (.arraylength, 1) := by decide +kernel
theorem dX2_hasSame_19 : decode cX2_hasSame 19 = .ok (.if_icmp .ge 34, 3) := by decide +kernel
theorem dX2_hasSame_22 : decode cX2_hasSame 22 = .ok (.aload_n 0, 1) := by decide +kernel
theorem dX2_hasSame_23 : decode cX2_hasSame 23 = .ok (.getfield 9, 3) := by decide +kernel
theorem dX2_hasSame_26 : decode cX2_hasSame 26 = .ok (.iload_n 2, 1) := by decide +kernel
theorem dX2_hasSame_27 : decode cX2_hasSame 27 = .ok (.aaload, 1) := by decide +kernel
theorem dX2_hasSame_28 : decode cX2_hasSame 28 = .ok (.iload_n 3, 1) := by decide +kernel
theorem dX2_hasSame_29 : decode cX2_hasSame 29 = .ok (.aaload, 1) := by decide +kernel
theorem dX2_hasSame_30 : decode cX2_hasSame 30 = .ok (.iconst 2, 1) := by decide +kernel
theorem dX2_hasSame_31 : decode cX2_hasSame 31 = .ok (.iaload, 1) := by decide +kernel
theorem dX2_hasSame_32 : decode cX2_hasSame 32 = .ok (.aload_n 1, 1) := by decide +kernel
theorem dX2_hasSame_33 : decode cX2_hasSame 33 = .ok (.getfield 9, 3) := by decide +kernel
theorem dX2_hasSame_36 : decode cX2_hasSame 36 = .ok (.iload_n 2, 1) := by decide +kernel
theorem dX2_hasSame_37 : decode cX2_hasSame 37 = .ok (.aaload, 1) := by decide +kernel
theorem dX2_hasSame_38 : decode cX2_hasSame 38 = .ok (.iload_n 3, 1) := by decide +kernel
theorem dX2_hasSame_39 : decode cX2_hasSame 39 = .ok (.aaload, 1) := by decide +kernel
theorem dX2_hasSame_40 : decode cX2_hasSame 40 = .ok (.iconst 2, 1) := by decide +kernel
theorem dX2_hasSame_41 : decode cX2_hasSame 41 = .ok (.iaload, 1) := by decide +kernel
theorem dX2_hasSame_42 : decode cX2_hasSame 42 = .ok (.if_icmp .eq 5, 3) := by decide +kernel
theorem dX2_hasSame_45 : decode cX2_hasSame 45 = .ok (.iconst 0, 1) := by decide +kernel
theorem dX2_hasSame_46 : decode cX2_hasSame 46 = .ok (.ireturn, 1) := by decide +kernel
theorem dX2_hasSame_47 : decode cX2_hasSame 47 = .ok (.iinc 3 1, 3) := by decide +kernel
theorem dX2_hasSame_50 : decode cX2_hasSame 50 = .ok (.goto (-37), 3) := by decide +kernel
theorem dX2_hasSame_53 : decode cX2_hasSame 53 = .ok (.iinc 2 1, 3) := by decide +kernel
theorem dX2_hasSame_56 : decode cX2_hasSame 56 = .ok (.goto (-54), 3) := by decide +kernel
theorem dX2_hasSame_59 : decode cX2_hasSame 59 = .ok (.iconst 1, 1) := by decide +kernel
theorem dX2_hasSame_60 : decode cX2_hasSame 60 = .ok (.ireturn, 1) := by decide +kernel
set_option maxRecDepth 20000 in
theorem ggX2_isSame_X1_partAt : GoodIn wsX2_isSame wsX1_partAt := goodIn_ca (goodIn_r _ [10, 11, 12, 13, 14, 9, 15, 16, 17, 18, 19, 20, 21, 22, 23, 24, 25, 26, 27, 28, 29, 30, 31, 32, 33, 34, 35, 36, 37, 38, 39, 40, 41, 42, 43, 44, 45, 46, 47, 134, 135, 136, 137, 138, 139, 140, 141, 142, 143, 144] rfl (by decide +kernel)) (goodIn_sub (fun _ h => List.mem_cons_of_mem _ (List.mem_append_right _ h)) (by decide +kernel))
set_option maxRecDepth 20000 in
theorem gX2_isSame_X1_partAt : GoodIn wsX2_isSame (wsV RX2 45 RX1 yX1_partAt wsX1_partAt) := goodIn_app (goodIn_of _ (by decide +kernel)) ggX2_isSame_X1_partAt
set_option maxRecDepth 20000 in
theorem ggX2_isSame_X1_leadsRight : GoodIn wsX2_isSame wsX1_leadsRight := goodIn_ca (goodIn_r _ [51, 11, 12, 13, 14, 9, 15, 16, 17, 18, 19, 20, 21, 22, 23, 24, 25, 26, 27, 28, 29, 30, 31, 32, 33, 34, 35, 36, 37, 38, 39, 40, 52, 53, 54, 55, 56, 57, 42, 43, 44, 45, 46, 47, 134, 135, 136, 137, 138, 139, 140, 141, 142, 143, 144] rfl (by decide +kernel)) (goodIn_sub (fun _ h => List.mem_cons_of_mem _ (List.mem_append_right _ h)) (by decide +kernel))
set_option maxRecDepth 20000 in
theorem gX2_isSame_X1_leadsRight : GoodIn wsX2_isSame (wsV RX2 50 RX1 yX1_leadsRight wsX1_leadsRight) := goodIn_app (goodIn_of _ (by decide +kernel)) ggX2_isSame_X1_leadsRight
set_option maxRecDepth 20000 in
theorem ggX2_isSame_X1_countAt : GoodIn wsX2_isSame wsX1_countAt := goodIn_ca (goodIn_r _ [61, 11, 12, 13, 14, 9, 15, 16, 17, 18, 19, 20, 21, 22, 23, 24, 25, 26, 27, 28, 29, 30, 31, 32, 33, 34, 35, 36, 37, 38, 39, 40, 62, 63, 64, 65, 56, 57, 42, 43, 44, 45, 46, 47, 134, 135, 136, 137, 138, 139, 140, 141, 142, 143, 144] rfl (by decide +kernel)) (goodIn_sub (fun _ h => List.mem_cons_of_mem _ (List.mem_append_right _ h)) (by decide +kernel))
set_option maxRecDepth 20000 in
theorem gX2_isSame_X1_countAt : GoodIn wsX2_isSame (wsV RX2 54 RX1 yX1_countAt wsX1_countAt) := goodIn_app (goodIn_of _ (by decide +kernel)) ggX2_isSame_X1_countAt
set_option maxRecDepth 20000 in
theorem ggX2_isSame_X1_numberIn : GoodIn wsX2_isSame wsX1_numberIn := goodIn_ca (goodIn_r _ [69, 11, 16, 17, 18, 9, 19, 20, 21, 22, 23, 24, 25, 26, 27, 70, 71, 72, 73, 36, 74, 38, 39, 40, 57, 42, 43, 44, 45, 46, 47, 75, 53, 54, 55, 56, 134, 135, 136, 137, 138, 139, 140, 141, 142, 143, 144] rfl (by decide +kernel)) (goodIn_sub (fun _ h => List.mem_cons_of_mem _ (List.mem_append_right _ h)) (by decide +kernel))
set_option maxRecDepth 20000 in
theorem gX2_isSame_X1_numberIn : GoodIn wsX2_isSame (wsV RX2 57 RX1 yX1_numberIn wsX1_numberIn) := goodIn_app (goodIn_of _ (by decide +kernel)) ggX2_isSame_X1_numberIn
set_option maxRecDepth 20000 in
theorem ggX2_isSame_X1_binOf : GoodIn wsX2_isSame wsX1_binOf := goodIn_ca (goodIn_r _ [79, 11, 80, 28, 29, 30, 9, 31, 20, 21, 32, 33, 34, 25, 35, 36, 81, 46, 47, 134, 135, 136, 137, 138, 139, 140, 141, 142, 143, 144] rfl (by decide +kernel)) (goodIn_sub (fun _ h => List.mem_cons_of_mem _ (List.mem_append_right _ h)) (by decide +kernel))
set_option maxRecDepth 20000 in
theorem gX2_isSame_X1_binOf : GoodIn wsX2_isSame (wsV RX2 60 RX1 yX1_binOf wsX1_binOf) := goodIn_app (goodIn_of _ (by decide +kernel)) ggX2_isSame_X1_binOf
set_option maxRecDepth 20000 in
theorem ggX2_isSame_X1_marblesIn : GoodIn wsX2_isSame wsX1_marblesIn := goodIn_ca (goodIn_r _ [85, 11, 86, 87, 88, 9, 89, 20, 21, 81, 46, 47, 134, 135, 136, 137, 138, 139, 140, 141, 142, 143, 144] rfl (by decide +kernel)) (goodIn_sub (fun _ h => List.mem_cons_of_mem _ (List.mem_append_right _ h)) (by decide +kernel))
set_option maxRecDepth 20000 in
theorem gX2_isSame_X1_marblesIn : GoodIn wsX2_isSame (wsV RX2 63 RX1 yX1_marblesIn wsX1_marblesIn) := goodIn_app (goodIn_of _ (by decide +kernel)) ggX2_isSame_X1_marblesIn
set_option maxRecDepth 20000 in
theorem ggX2_isSame_X1_columnOf : GoodIn wsX2_isSame wsX1_columnOf := goodIn_ca (goodIn_r _ [93, 11, 94, 87, 88, 9, 89, 20, 21, 81, 46, 47, 134, 135, 136, 137, 138, 139, 140, 141, 142, 143, 144] rfl (by decide +kernel)) (goodIn_sub (fun _ h => List.mem_cons_of_mem _ (List.mem_append_right _ h)) (by decide +kernel))
set_option maxRecDepth 20000 in
theorem gX2_isSame_X1_columnOf : GoodIn wsX2_isSame (wsV RX2 66 RX1 yX1_columnOf wsX1_columnOf) := goodIn_app (goodIn_of _ (by decide +kernel)) ggX2_isSame_X1_columnOf
set_option maxRecDepth 20000 in
theorem ggX2_isSame_X1_columns : GoodIn wsX2_isSame wsX1_columns := goodIn_r _ [98, 11, 99, 134, 135, 136, 137, 138, 139, 140, 141, 142, 143, 144] rfl (by decide +kernel)
set_option maxRecDepth 20000 in
theorem gX2_isSame_X1_columns : GoodIn wsX2_isSame (wsV RX2 69 RX1 yX1_columns wsX1_columns) := goodIn_app (goodIn_of _ (by decide +kernel)) ggX2_isSame_X1_columns
set_option maxRecDepth 20000 in
theorem ggX2_isSame_X1_rows : GoodIn wsX2_isSame wsX1_rows := goodIn_r _ [103, 11, 104, 134, 135, 136, 137, 138, 139, 140, 141, 142, 143, 144] rfl (by decide +kernel)
set_option maxRecDepth 20000 in
theorem gX2_isSame_X1_rows : GoodIn wsX2_isSame (wsV RX2 73 RX1 yX1_rows wsX1_rows) := goodIn_app (goodIn_of _ (by decide +kernel)) ggX2_isSame_X1_rows
set_option maxRecDepth 20000 in
theorem ggX2_isSame_X1_lost : GoodIn wsX2_isSame wsX1_lost := goodIn_r _ [108, 11, 109, 134, 135, 136, 137, 138, 139, 140, 141, 142, 143, 144] rfl (by decide +kernel)
set_option maxRecDepth 20000 in
theorem gX2_isSame_X1_lost : GoodIn wsX2_isSame (wsV RX2 76 RX1 yX1_lost wsX1_lost) := goodIn_app (goodIn_of _ (by decide +kernel)) ggX2_isSame_X1_lost
set_option maxRecDepth 20000 in
theorem ggX2_isSame_X1_toggles : GoodIn wsX2_isSame wsX1_toggles := goodIn_r _ [113, 11, 114, 115, 116, 25, 117, 45, 134, 135, 136, 137, 138, 139, 140, 141, 142, 143, 144] rfl (by decide +kernel)
set_option maxRecDepth 20000 in
theorem gX2_isSame_X1_toggles : GoodIn wsX2_isSame (wsV RX2 78 RX1 yX1_toggles wsX1_toggles) := goodIn_app (goodIn_of _ (by decide +kernel)) ggX2_isSame_X1_toggles
set_option maxRecDepth 20000 in
theorem ggX2_isSame_X1_meanInBins : GoodIn wsX2_isSame wsX1_meanInBins := goodIn_r _ [121, 11, 122, 96, 97, 9, 98, 99, 123, 124, 125, 25, 126, 127, 134, 135, 136, 137, 138, 139, 140, 141, 142, 143, 144] rfl (by decide +kernel)
set_option maxRecDepth 20000 in
theorem gX2_isSame_X1_meanInBins : GoodIn wsX2_isSame (wsV RX2 81 RX1 yX1_meanInBins wsX1_meanInBins) := goodIn_app (goodIn_of _ (by decide +kernel)) ggX2_isSame_X1_meanInBins
theorem dX2_isSame_0 : decode cX2_isSame 0 = .ok (.iconst 0, 1) := by decide +kernel
theorem dX2_isSame_1 : decode cX2_isSame 1 = .ok (.istore_n 2, 1) := by decide +kernel
theorem dX2_isSame_2 : decode cX2_isSame 2 = .ok (.iconst 0, 1) := by decide +kernel
theorem dX2_isSame_3 : decode cX2_isSame 3 = .ok (.istore_n 3, 1) := by decide +kernel
theorem dX2_isSame_4 : decode cX2_isSame 4 = .ok (.iconst 0, 1) := by decide +kernel
theorem dX2_isSame_5 : decode cX2_isSame 5 = .ok (.istore 4, 2) := by decide +kernel
theorem dX2_isSame_7 : decode cX2_isSame 7 = .ok (.iload 4, 2) := by decide +kernel
theorem dX2_isSame_9 : decode cX2_isSame 9 = .ok (.aload_n 0, 1) := by decide +kernel
theorem dX2_isSame_10 : decode cX2_isSame 10 = .ok (.getfield 9, 3) := by decide +kernel
theorem dX2_isSame_13 : decode cX2_isSame 13 = .ok (.arraylength, 1) := by decide +kernel
theorem dX2_isSame_14 : decode cX2_isSame 14 = .ok (.if_icmp .ge 176, 3) := by decide +kernel
theorem dX2_isSame_17 : decode cX2_isSame 17 = .ok (.iconst 0, 1) := by decide +kernel
theorem dX2_isSame_18 : decode cX2_isSame 18 = .ok (.istore 5, 2) := by decide +kernel
theorem dX2_isSame_20 : decode cX2_isSame 20 = .ok (.iconst 0, 1) := by decide +kernel
theorem dX2_isSame_21 : decode cX2_isSame 21 = .ok (.istore 6, 2) := by decide +kernel
theorem dX2_isSame_23 : decode cX2_isSame 23 = .ok (.iconst 0, 1) := by decide +kernel
theorem dX2_isSame_24 : decode cX2_isSame 24 = .ok (.istore 7, 2) := by decide +kernel
theorem dX2_isSame_26 : decode cX2_isSame 26 = .ok (.iload 7, 2) := by decide +kernel
theorem dX2_isSame_28 : decode cX2_isSame 28 = .ok (.aload_n 0, 1) := by decide +kernel
theorem dX2_isSame_29 : decode cX2_isSame 29 = .ok (.getfield 14, 3) := by decide +kernel
theorem dX2_isSame_32 : decode cX2_isSame 32 = .ok (.arraylength, 1) := by decide +kernel
theorem dX2_isSame_33 : decode cX2_isSame 33 = .ok (.if_icmp .ge 133, 3) := by decide +kernel
theorem dX2_isSame_36 : decode cX2_isSame 36 = .ok (.aload_n 0, 1) := by decide +kernel
theorem dX2_isSame_37 : decode cX2_isSame 37 = .ok (.getfield 9, 3) := by decide +kernel
theorem dX2_isSame_40 : decode cX2_isSame 40 = .ok (.iload 4, 2) := by decide +kernel
theorem dX2_isSame_42 : decode cX2_isSame 42 = .ok (.aaload, 1) := by decide +kernel
theorem dX2_isSame_43 : decode cX2_isSame 43 = .ok (.iload 7, 2) := by decide +kernel
theorem dX2_isSame_45 : decode cX2_isSame 45 = .ok (.aaload, 1) := by decide +kernel
theorem dX2_isSame_46 : decode cX2_isSame 46 = .ok (.astore 8, 2) := by decide +kernel
theorem dX2_isSame_48 : decode cX2_isSame 48 = .ok (.aload 8, 2) := by decide +kernel
theorem dX2_isSame_50 : decode cX2_isSame 50 = .ok (.iconst 0, 1) := by decide +kernel
theorem dX2_isSame_51 : decode cX2_isSame 51 = .ok (.iaload, 1) := by decide +kernel
theorem dX2_isSame_52 : decode cX2_isSame 52 = .ok (.iconst 3, 1) := by decide +kernel
theorem dX2_isSame_53 : decode cX2_isSame 53 = .ok (.if_icmp .ne 15, 3) := by decide +kernel
theorem dX2_isSame_56 : decode cX2_isSame 56 = .ok (.aload 8, 2) := by decide +kernel
theorem dX2_isSame_58 : decode cX2_isSame 58 = .ok (.iconst 2, 1) := by decide +kernel
theorem dX2_isSame_59 : decode cX2_isSame 59 = .ok (.iaload, 1) := by decide +kernel
theorem dX2_isSame_60 : decode cX2_isSame 60 = .ok (.iconst 1, 1) := by decide +kernel
theorem dX2_isSame_61 : decode cX2_isSame 61 = .ok (.if_icmp .ne 7, 3) := by decide +kernel
theorem dX2_isSame_64 : decode cX2_isSame 64 = .ok (.iconst 1, 1) := by decide +kernel
theorem dX2_isSame_65 : decode cX2_isSame 65 = .ok (.goto 4, 3) := by decide +kernel
theorem dX2_isSame_68 : decode cX2_isSame 68 = .ok (.iconst 0, 1) := by decide +kernel
theorem dX2_isSame_69 : decode cX2_isSame 69 = .ok (.istore 9, 2) := by decide +kernel
theorem dX2_isSame_71 : decode cX2_isSame 71 = .ok (.iload 9, 2) := by decide +kernel
theorem dX2_isSame_73 : decode cX2_isSame 73 = .ok (.ifCond .eq 12, 3) := by decide +kernel
theorem dX2_isSame_76 : decode cX2_isSame 76 = .ok (.iload 5, 2) := by decide +kernel
theorem dX2_isSame_78 : decode cX2_isSame 78 = .ok (.iconst 1, 1) := by decide +kernel
theorem dX2_isSame_79 : decode cX2_isSame 79 = .ok (.iload 6, 2) := by decide +kernel
theorem dX2_isSame_81 : decode cX2_isSame 81 = .ok (.ishl, 1) := by decide +kernel
theorem dX2_isSame_82 : decode cX2_isSame 82 = .ok (.iadd, 1) := by decide +kernel
theorem dX2_isSame_83 : decode cX2_isSame 83 = .ok (.istore 5, 2) := by decide +kernel
theorem dX2_isSame_85 : decode cX2_isSame 85 = .ok (.iload 6, 2) := by decide +kernel
theorem dX2_isSame_87 : decode cX2_isSame 87 = .ok (.aload 8, 2) := by decide +kernel
theorem dX2_isSame_89 : decode cX2_isSame 89 = .ok (.iconst 0, 1) := by decide +kernel
theorem dX2_isSame_90 : decode cX2_isSame 90 = .ok (.iaload, 1) := by decide +kernel
theorem dX2_isSame_91 : decode cX2_isSame 91 = .ok (.iconst 3, 1) := by decide +kernel
theorem dX2_isSame_92 : decode cX2_isSame 92 = .ok (.if_icmp .ne 7, 3) := by decide +kernel
theorem dX2_isSame_95 : decode cX2_isSame 95 = .ok (.iconst 1, 1) := by decide +kernel
theorem dX2_isSame_96 : decode cX2_isSame 96 = .ok (.goto 4, 3) := by decide +kernel
theorem dX2_isSame_99 : decode cX2_isSame 99 = .ok (.iconst 0, 1) := by decide +kernel
theorem dX2_isSame_100 : decode cX2_isSame 100 = .ok (.iadd, 1) := by decide +kernel
theorem dX2_isSame_101 : decode cX2_isSame 101 = .ok (.istore 6, 2) := by decide +kernel
theorem dX2_isSame_103 : decode cX2_isSame 103 = .ok (.aload_n 1, 1) := by decide +kernel
theorem dX2_isSame_104 : decode cX2_isSame 104 = .ok (.iload 4, 2) := by decide +kernel
theorem dX2_isSame_106 : decode cX2_isSame 106 = .ok (.iload 7, 2) := by decide +kernel
theorem dX2_isSame_108 : decode cX2_isSame 108 = .ok (.invokevirtual 45, 3) := by decide +kernel
theorem dX2_isSame_111 : decode cX2_isSame 111 = .ok (.aload 8, 2) := by decide +kernel
theorem dX2_isSame_113 : decode cX2_isSame 113 = .ok (.iconst 0, 1) := by decide +kernel
theorem dX2_isSame_114 : decode cX2_isSame 114 = .ok (.iaload, 1) := by decide +kernel
theorem dX2_isSame_115 : decode cX2_isSame 115 = .ok (.if_icmp .ne 43, 3) := by decide +kernel
theorem dX2_isSame_118 : decode cX2_isSame 118 = .ok (.aload_n 1, 1) := by decide +kernel
theorem dX2_isSame_119 : decode cX2_isSame 119 = .ok (.iload 4, 2) := by decide +kernel
theorem dX2_isSame_121 : decode cX2_isSame 121 = .ok (.iload 7, 2) := by decide +kernel
theorem dX2_isSame_123 : decode cX2_isSame 123 = .ok (.invokevirtual 50, 3) := by decide +kernel
theorem dX2_isSame_126 : decode cX2_isSame 126 = .ok (.iload 9, 2) := by decide +kernel
theorem dX2_isSame_128 : decode cX2_isSame 128 = .ok (.if_icmp .ne 30, 3) := by decide +kernel
theorem dX2_isSame_131 : decode cX2_isSame 131 = .ok (.aload_n 1, 1) := by decide +kernel
theorem dX2_isSame_132 : decode cX2_isSame 132 = .ok (.iload 4, 2) := by decide +kernel
theorem dX2_isSame_134 : decode cX2_isSame 134 = .ok (.iload 7, 2) := by decide +kernel
theorem dX2_isSame_136 : decode cX2_isSame 136 = .ok (.invokevirtual 54, 3) := by decide +kernel
theorem dX2_isSame_139 : decode cX2_isSame 139 = .ok (.aload 8, 2) := by decide +kernel
theorem dX2_isSame_141 : decode cX2_isSame 141 = .ok (.iconst 0, 1) := by decide +kernel
theorem dX2_isSame_142 : decode cX2_isSame 142 = .ok (.iaload, 1) := by decide +kernel
theorem dX2_isSame_143 : decode cX2_isSame 143 = .ok (.iconst 5, 1) := by decide +kernel
theorem dX2_isSame_144 : decode cX2_isSame 144 = .ok (.if_icmp .ne 10, 3) := by decide +kernel
theorem dX2_isSame_147 : decode cX2_isSame 147 = .ok (.aload 8, 2) := by decide +kernel
theorem dX2_isSame_149 : decode cX2_isSame 149 = .ok (.iconst 2, 1) := by decide +kernel
theorem dX2_isSame_150 : decode cX2_isSame 150 = .ok (.iaload, 1) := by decide +kernel
theorem dX2_isSame_151 : decode cX2_isSame 151 = .ok (.goto 4, 3) := by decide +kernel
theorem dX2_isSame_154 : decode cX2_isSame 154 = .ok (.iconst 0, 1) := by decide +kernel
theorem dX2_isSame_155 : decode cX2_isSame 155 = .ok (.if_icmp .eq 5, 3) := by decide +kernel
theorem dX2_isSame_158 : decode cX2_isSame 158 = .ok (.iconst 0, 1) := by decide +kernel
theorem dX2_isSame_159 : decode cX2_isSame 159 = .ok (.ireturn, 1) := by decide +kernel
theorem dX2_isSame_160 : decode cX2_isSame 160 = .ok (.iinc 7 1, 3) := by decide +kernel
theorem dX2_isSame_163 : decode cX2_isSame 163 = .ok (.goto (-137), 3) := by decide +kernel
theorem dX2_isSame_166 : decode cX2_isSame 166 = .ok (.iload_n 2, 1) := by decide +kernel
theorem dX2_isSame_167 : decode cX2_isSame 167 = .ok (.iload 6, 2) := by decide +kernel
theorem dX2_isSame_169 : decode cX2_isSame 169 = .ok (.iadd, 1) := by decide +kernel
theorem dX2_isSame_170 : decode cX2_isSame 170 = .ok (.istore_n 2, 1) := by decide +kernel
theorem dX2_isSame_171 : decode cX2_isSame 171 = .ok (.aload_n 1, 1) := by decide +kernel
theorem dX2_isSame_172 : decode cX2_isSame 172 = .ok (.iload 4, 2) := by decide +kernel
theorem dX2_isSame_174 : decode cX2_isSame 174 = .ok (.invokevirtual 57, 3) := by decide +kernel
theorem dX2_isSame_177 : decode cX2_isSame 177 = .ok (.iload 5, 2) := by decide +kernel
theorem dX2_isSame_179 : decode cX2_isSame 179 = .ok (.if_icmp .eq 5, 3) := by decide +kernel
theorem dX2_isSame_182 : decode cX2_isSame 182 = .ok (.iconst 0, 1) := by decide +kernel
theorem dX2_isSame_183 : decode cX2_isSame 183 = .ok (.ireturn, 1) := by decide +kernel
theorem dX2_isSame_184 : decode cX2_isSame 184 = .ok (.iinc 4 1, 3) := by decide +kernel
theorem dX2_isSame_187 : decode cX2_isSame 187 = .ok (.goto (-180), 3) := by decide +kernel
theorem dX2_isSame_190 : decode cX2_isSame 190 = .ok (.iconst 0, 1) := by decide +kernel
theorem dX2_isSame_191 : decode cX2_isSame 191 = .ok (.istore 4, 2) := by decide +kernel
theorem dX2_isSame_193 : decode cX2_isSame 193 = .ok (.iload 4, 2) := by decide +kernel
theorem dX2_isSame_195 : decode cX2_isSame 195 = .ok (.aload_n 0, 1) := by decide +kernel
theorem dX2_isSame_196 : decode cX2_isSame 196 = .ok (.getfield 14, 3) := by decide +kernel
theorem dX2_isSame_199 : decode cX2_isSame 199 = .ok (.arraylength, 1) := by decide +kernel
theorem dX2_isSame_200 : decode cX2_isSame 200 = .ok (.if_icmp .ge 37, 3) := by decide +kernel
theorem dX2_isSame_203 : decode cX2_isSame 203 = .ok (.iload_n 3, 1) := by decide +kernel
theorem dX2_isSame_204 : decode cX2_isSame 204 = .ok (.aload_n 0, 1) := by decide +kernel
theorem dX2_isSame_205 : decode cX2_isSame 205 = .ok (.getfield 14, 3) := by decide +kernel
theorem dX2_isSame_208 : decode cX2_isSame 208 = .ok (.iload 4, 2) := by decide +kernel
theorem dX2_isSame_210 : decode cX2_isSame 210 = .ok (.iaload, 1) := by decide +kernel
theorem dX2_isSame_211 : decode cX2_isSame 211 = .ok (.iadd, 1) := by decide +kernel
theorem dX2_isSame_212 : decode cX2_isSame 212 = .ok (.istore_n 3, 1) := by decide +kernel
theorem dX2_isSame_213 : decode cX2_isSame 213 = .ok (.aload_n 1, 1) := by decide +kernel
theorem dX2_isSame_214 : decode cX2_isSame 214 = .ok (.iload 4, 2) := by decide +kernel
theorem dX2_isSame_216 : decode cX2_isSame 216 = .ok (.invokevirtual 60, 3) := by decide +kernel
theorem dX2_isSame_219 : decode cX2_isSame 219 = .ok (.aload_n 0, 1) := by decide +kernel
theorem dX2_isSame_220 : decode cX2_isSame 220 = .ok (.getfield 14, 3) := by decide +kernel
theorem dX2_isSame_223 : decode cX2_isSame 223 = .ok (.iload 4, 2) := by decide +kernel
theorem dX2_isSame_225 : decode cX2_isSame 225 = .ok (.iaload, 1) := by decide +kernel
theorem dX2_isSame_226 : decode cX2_isSame 226 = .ok (.if_icmp .eq 5, 3) := by decide +kernel
theorem dX2_isSame_229 : decode cX2_isSame 229 = .ok (.iconst 0, 1) := by decide +kernel
theorem dX2_isSame_230 : decode cX2_isSame 230 = .ok (.ireturn, 1) := by decide +kernel
theorem dX2_isSame_231 : decode cX2_isSame 231 = .ok (.iinc 4 1, 3) := by decide +kernel
theorem dX2_isSame_234 : decode cX2_isSame 234 = .ok (.goto (-41), 3) := by decide +kernel
theorem dX2_isSame_237 : decode cX2_isSame 237 = .ok (.iconst 0, 1) := by decide +kernel
theorem dX2_isSame_238 : decode cX2_isSame 238 = .ok (.istore 4, 2) := by decide +kernel
theorem dX2_isSame_240 : decode cX2_isSame 240 = .ok (.iload 4, 2) := by decide +kernel
theorem dX2_isSame_242 : decode cX2_isSame 242 = .ok (.iconst 2, 1) := by decide +kernel
theorem dX2_isSame_243 : decode cX2_isSame 243 = .ok (.if_icmp .ge 43, 3) := by decide +kernel
theorem dX2_isSame_246 : decode cX2_isSame 246 = .ok (.aload_n 1, 1) := by decide +kernel
theorem dX2_isSame_247 : decode cX2_isSame 247 = .ok (.iload 4, 2) := by decide +kernel
theorem dX2_isSame_249 : decode cX2_isSame 249 = .ok (.invokevirtual 63, 3) := by decide +kernel
theorem dX2_isSame_252 : decode cX2_isSame 252 = .ok (.aload_n 0, 1) := by decide +kernel
theorem dX2_isSame_253 : decode cX2_isSame 253 = .ok (.getfield 21, 3) := by decide +kernel
theorem dX2_isSame_256 : decode cX2_isSame 256 = .ok (.iload 4, 2) := by decide +kernel
theorem dX2_isSame_258 : decode cX2_isSame 258 = .ok (.iaload, 1) := by decide +kernel
theorem dX2_isSame_259 : decode cX2_isSame 259 = .ok (.if_icmp .ne 19, 3) := by decide +kernel
theorem dX2_isSame_262 : decode cX2_isSame 262 = .ok (.aload_n 1, 1) := by decide +kernel
theorem dX2_isSame_263 : decode cX2_isSame 263 = .ok (.iload 4, 2) := by decide +kernel
theorem dX2_isSame_265 : decode cX2_isSame 265 = .ok (.invokevirtual 66, 3) := by decide +kernel
theorem dX2_isSame_268 : decode cX2_isSame 268 = .ok (.aload_n 0, 1) := by decide +kernel
theorem dX2_isSame_269 : decode cX2_isSame 269 = .ok (.getfield 18, 3) := by decide +kernel
theorem dX2_isSame_272 : decode cX2_isSame 272 = .ok (.iload 4, 2) := by decide +kernel
theorem dX2_isSame_274 : decode cX2_isSame 274 = .ok (.iaload, 1) := by decide +kernel
theorem dX2_isSame_275 : decode cX2_isSame 275 = .ok (.if_icmp .eq 5, 3) := by decide +kernel
theorem dX2_isSame_278 : decode cX2_isSame 278 = .ok (.iconst 0, 1) := by decide +kernel
theorem dX2_isSame_279 : decode cX2_isSame 279 = .ok (.ireturn, 1) := by decide +kernel
theorem dX2_isSame_280 : decode cX2_isSame 280 = .ok (.iinc 4 1, 3) := by decide +kernel
theorem dX2_isSame_283 : decode cX2_isSame 283 = .ok (.goto (-43), 3) := by decide +kernel
theorem dX2_isSame_286 : decode cX2_isSame 286 = .ok (.aload_n 1, 1) := by decide +kernel
theorem dX2_isSame_287 : decode cX2_isSame 287 = .ok (.invokevirtual 69, 3) := by decide +kernel
theorem dX2_isSame_290 : decode cX2_isSame 290 = .ok (.aload_n 0, 1) := by decide +kernel
theorem dX2_isSame_291 : decode cX2_isSame 291 = .ok (.getfield 14, 3) := by decide +kernel
theorem dX2_isSame_294 : decode cX2_isSame 294 = .ok (.arraylength, 1) := by decide +kernel
theorem dX2_isSame_295 : decode cX2_isSame 295 = .ok (.if_icmp .ne 55, 3) := by decide +kernel
theorem dX2_isSame_298 : decode cX2_isSame 298 = .ok (.aload_n 1, 1) := by decide +kernel
theorem dX2_isSame_299 : decode cX2_isSame 299 = .ok (.invokevirtual 73, 3) := by decide +kernel
theorem dX2_isSame_302 : decode cX2_isSame 302 = .ok (.aload_n 0, 1) := by decide +kernel
theorem dX2_isSame_303 : decode cX2_isSame 303 = .ok (.getfield 9, 3) := by decide +kernel
theorem dX2_isSame_306 : decode cX2_isSame 306 = .ok (.arraylength, 1) := by decide +kernel
theorem dX2_isSame_307 : decode cX2_isSame 307 = .ok (.if_icmp .ne 43, 3) := by decide +kernel
theorem dX2_isSame_310 : decode cX2_isSame 310 = .ok (.aload_n 1, 1) := by decide +kernel
theorem dX2_isSame_311 : decode cX2_isSame 311 = .ok (.invokevirtual 76, 3) := by decide +kernel
theorem dX2_isSame_314 : decode cX2_isSame 314 = .ok (.aload_n 0, 1) := by decide +kernel
theorem dX2_isSame_315 : decode cX2_isSame 315 = .ok (.getfield 30, 3) := by decide +kernel
theorem dX2_isSame_318 : decode cX2_isSame 318 = .ok (.if_icmp .ne 32, 3) := by decide +kernel
theorem dX2_isSame_321 : decode cX2_isSame 321 = .ok (.aload_n 1, 1) := by decide +kernel
theorem dX2_isSame_322 : decode cX2_isSame 322 = .ok (.invokevirtual 78, 3) := by decide +kernel
theorem dX2_isSame_325 : decode cX2_isSame 325 = .ok (.iload_n 2, 1) := by decide +kernel
theorem dX2_isSame_326 : decode cX2_isSame 326 = .ok (.if_icmp .ne 24, 3) := by decide +kernel
theorem dX2_isSame_329 : decode cX2_isSame 329 = .ok (.aload_n 1, 1) := by decide +kernel
theorem dX2_isSame_330 : decode cX2_isSame 330 = .ok (.invokevirtual 81, 3) := by decide +kernel
theorem dX2_isSame_333 : decode cX2_isSame 333 = .ok (.iload_n 3, 1) := by decide +kernel
theorem dX2_isSame_334 : decode cX2_isSame 334 = .ok (.i2d, 1) := by decide +kernel
theorem dX2_isSame_335 : decode cX2_isSame 335 = .ok (.aload_n 0, 1) := by decide +kernel
theorem dX2_isSame_336 : decode cX2_isSame 336 = .ok (.getfield 14, 3) := by decide +kernel
theorem dX2_isSame_339 : decode cX2_isSame 339 = .ok (.arraylength, 1) := by decide +kernel
theorem dX2_isSame_340 : decode cX2_isSame 340 = .ok (.i2d, 1) := by decide +kernel
theorem dX2_isSame_341 : decode cX2_isSame 341 = .ok (.ddiv, 1) := by decide +kernel
theorem dX2_isSame_342 : decode cX2_isSame 342 = .ok (.dcmp .l, 1) := by decide +kernel
theorem dX2_isSame_343 : decode cX2_isSame 343 = .ok (.ifCond .ne 7, 3) := by decide +kernel
theorem dX2_isSame_346 : decode cX2_isSame 346 = .ok (.iconst 1, 1) := by decide +kernel
theorem dX2_isSame_347 : decode cX2_isSame 347 = .ok (.goto 4, 3) := by decide +kernel
theorem dX2_isSame_350 : decode cX2_isSame 350 = .ok (.iconst 0, 1) := by decide +kernel
theorem dX2_isSame_351 : decode cX2_isSame 351 = .ok (.ireturn, 1) := by decide +kernel

set_option maxRecDepth 20000 in
theorem ggL_lay_X1_lay : GoodIn wsL_lay wsX1_lay := goodIn_ca (goodIn_r _ [6, 7, 8, 9, 5, 10, 11, 12, 13, 14, 15, 16, 17, 18, 19, 20, 21, 22, 23, 24, 25, 26, 27, 28, 29, 30, 31, 32, 33, 34, 35, 36, 37, 38, 39, 40, 41, 42, 43, 44, 45, 46] (by decide +kernel) (by decide +kernel)) (goodIn_sub (fun _ h => List.mem_cons_of_mem _ (List.mem_append_right _ h)) (by decide +kernel))
set_option maxRecDepth 20000 in
theorem gL_lay_X1_lay : GoodIn wsL_lay (wsV RL 7 RX1 yX1_lay wsX1_lay) := goodIn_app (goodIn_of _ (by decide +kernel)) ggL_lay_X1_lay
theorem dL_lay_0 : decode cL_lay 0 = .ok (.aload_n 3, 1) := by decide +kernel
theorem dL_lay_1 : decode cL_lay 1 = .ok (.iconst 0, 1) := by decide +kernel
theorem dL_lay_2 : decode cL_lay 2 = .ok (.aload_n 0, 1) := by decide +kernel
theorem dL_lay_3 : decode cL_lay 3 = .ok (.iload_n 1, 1) := by decide +kernel
theorem dL_lay_4 : decode cL_lay 4 = .ok (.iload_n 2, 1) := by decide +kernel
theorem dL_lay_5 : decode cL_lay 5 = .ok (.invokevirtual 7, 3) := by decide +kernel
theorem dL_lay_8 : decode cL_lay 8 = .ok (.i2l, 1) := by decide +kernel
theorem dL_lay_9 : decode cL_lay 9 = .ok (.lastore, 1) := by decide +kernel
theorem dL_lay_10 : decode cL_lay 10 = .ok (.goto 7, 3) := by decide +kernel
theorem dL_lay_13 : decode cL_lay 13 = .ok (.astore 4, 2) := by decide +kernel
theorem dL_lay_15 : decode cL_lay 15 = .ok (.iconst 1, 1) := by decide +kernel
theorem dL_lay_16 : decode cL_lay 16 = .ok (.ireturn, 1) := by decide +kernel
theorem dL_lay_17 : decode cL_lay 17 = .ok (.iconst 0, 1) := by decide +kernel
theorem dL_lay_18 : decode cL_lay 18 = .ok (.ireturn, 1) := by decide +kernel
set_option maxRecDepth 20000 in
theorem ggL_put_X1_put : GoodIn wsL_put wsX1_put := goodIn_ca (goodIn_ca (goodIn_r _ [7, 8, 9, 10, 11, 6, 12, 13, 14, 15, 16, 17, 18, 19, 20, 21, 22, 23, 24, 25, 26, 27, 28, 29, 30, 31, 32, 33, 34, 35, 36, 37, 38, 39, 40, 41, 42, 43, 44, 45, 46, 47, 48, 49, 50, 51, 52, 53, 54, 55, 56, 57, 58, 59, 60, 61, 62, 63, 64, 65, 66, 67, 68] (by decide +kernel) (by decide +kernel)) (goodIn_sub (fun _ h => List.mem_cons_of_mem _ (List.mem_append_left _ (List.mem_append_right _ h))) (by decide +kernel))) (goodIn_sub (fun _ h => List.mem_cons_of_mem _ (List.mem_append_right _ h)) (by decide +kernel))
set_option maxRecDepth 20000 in
theorem gL_put_X1_put : GoodIn wsL_put (wsV RL 15 RX1 yX1_put wsX1_put) := goodIn_app (goodIn_of _ (by decide +kernel)) ggL_put_X1_put
theorem dL_put_0 : decode cL_put 0 = .ok (.aload 4, 2) := by decide +kernel
theorem dL_put_2 : decode cL_put 2 = .ok (.iconst 0, 1) := by decide +kernel
theorem dL_put_3 : decode cL_put 3 = .ok (.aload_n 0, 1) := by decide +kernel
theorem dL_put_4 : decode cL_put 4 = .ok (.iload_n 1, 1) := by decide +kernel
theorem dL_put_5 : decode cL_put 5 = .ok (.iload_n 2, 1) := by decide +kernel
theorem dL_put_6 : decode cL_put 6 = .ok (.iload_n 3, 1) := by decide +kernel
theorem dL_put_7 : decode cL_put 7 = .ok (.invokevirtual 15, 3) := by decide +kernel
theorem dL_put_10 : decode cL_put 10 = .ok (.i2l, 1) := by decide +kernel
theorem dL_put_11 : decode cL_put 11 = .ok (.lastore, 1) := by decide +kernel
theorem dL_put_12 : decode cL_put 12 = .ok (.goto 11, 3) := by decide +kernel
theorem dL_put_15 : decode cL_put 15 = .ok (.astore 5, 2) := by decide +kernel
theorem dL_put_17 : decode cL_put 17 = .ok (.iconst 1, 1) := by decide +kernel
theorem dL_put_18 : decode cL_put 18 = .ok (.ireturn, 1) := by decide +kernel
theorem dL_put_19 : decode cL_put 19 = .ok (.astore 5, 2) := by decide +kernel
theorem dL_put_21 : decode cL_put 21 = .ok (.iconst 2, 1) := by decide +kernel
theorem dL_put_22 : decode cL_put 22 = .ok (.ireturn, 1) := by decide +kernel
theorem dL_put_23 : decode cL_put 23 = .ok (.iconst 0, 1) := by decide +kernel
theorem dL_put_24 : decode cL_put 24 = .ok (.ireturn, 1) := by decide +kernel
set_option maxRecDepth 20000 in
theorem ggL_putCounter_X1_putCounter : GoodIn wsL_putCounter wsX1_putCounter := goodIn_ca (goodIn_ca (goodIn_r _ [7, 8, 9, 10, 11, 6, 12, 13, 14, 15, 16, 17, 18, 19, 20, 21, 22, 23, 24, 25, 26, 27, 28, 29, 30, 31, 32, 33, 34, 35, 36, 37, 38, 39, 40, 41, 42, 43, 44, 45, 46, 47, 48, 49, 50, 51, 52, 53, 54, 55, 56, 57, 58, 59, 60, 61, 62, 63, 64, 65, 66, 67, 68] (by decide +kernel) (by decide +kernel)) (goodIn_sub (fun _ h => List.mem_cons_of_mem _ (List.mem_append_left _ (List.mem_append_right _ h))) (by decide +kernel))) (goodIn_sub (fun _ h => List.mem_cons_of_mem _ (List.mem_append_right _ h)) (by decide +kernel))
set_option maxRecDepth 20000 in
theorem gL_putCounter_X1_putCounter : GoodIn wsL_putCounter (wsV RL 21 RX1 yX1_putCounter wsX1_putCounter) := goodIn_app (goodIn_of _ (by decide +kernel)) ggL_putCounter_X1_putCounter
theorem dL_putCounter_0 : decode cL_putCounter 0 = .ok (.aload 4, 2) := by decide +kernel
theorem dL_putCounter_2 : decode cL_putCounter 2 = .ok (.iconst 0, 1) := by decide +kernel
theorem dL_putCounter_3 : decode cL_putCounter 3 = .ok (.aload_n 0, 1) := by decide +kernel
theorem dL_putCounter_4 : decode cL_putCounter 4 = .ok (.iload_n 1, 1) := by decide +kernel
theorem dL_putCounter_5 : decode cL_putCounter 5 = .ok (.iload_n 2, 1) := by decide +kernel
theorem dL_putCounter_6 : decode cL_putCounter 6 = .ok (.iload_n 3, 1) := by decide +kernel
theorem dL_putCounter_7 : decode cL_putCounter 7 = .ok (.invokevirtual 21, 3) := by decide +kernel
theorem dL_putCounter_10 : decode cL_putCounter 10 = .ok (.i2l, 1) := by decide +kernel
theorem dL_putCounter_11 : decode cL_putCounter 11 = .ok (.lastore, 1) := by decide +kernel
theorem dL_putCounter_12 : decode cL_putCounter 12 = .ok (.goto 11, 3) := by decide +kernel
theorem dL_putCounter_15 : decode cL_putCounter 15 = .ok (.astore 5, 2) := by decide +kernel
theorem dL_putCounter_17 : decode cL_putCounter 17 = .ok (.iconst 1, 1) := by decide +kernel
theorem dL_putCounter_18 : decode cL_putCounter 18 = .ok (.ireturn, 1) := by decide +kernel
theorem dL_putCounter_19 : decode cL_putCounter 19 = .ok (.astore 5, 2) := by decide +kernel
theorem dL_putCounter_21 : decode cL_putCounter 21 = .ok (.iconst 2, 1) := by decide +kernel
theorem dL_putCounter_22 : decode cL_putCounter 22 = .ok (.ireturn, 1) := by decide +kernel
theorem dL_putCounter_23 : decode cL_putCounter 23 = .ok (.iconst 0, 1) := by decide +kernel
theorem dL_putCounter_24 : decode cL_putCounter 24 = .ok (.ireturn, 1) := by decide +kernel
set_option maxRecDepth 20000 in
theorem ggL_turn_X1_turn : GoodIn wsL_turn wsX1_turn := goodIn_ca (goodIn_ca (goodIn_r _ [7, 8, 9, 10, 11, 12, 13, 6, 14, 15, 16, 17, 18, 19, 20, 21, 22, 23, 24, 25, 26, 27, 28, 29, 30, 31, 32, 33, 34, 35, 36, 37, 38, 39, 40, 41, 42, 43, 44, 45, 46, 47, 48, 49, 50, 51, 52, 53, 54, 55, 56, 57, 58, 59, 60, 61, 62, 63, 64, 65, 66, 67, 68, 69, 70] (by decide +kernel) (by decide +kernel)) (goodIn_sub (fun _ h => List.mem_cons_of_mem _ (List.mem_append_left _ (List.mem_append_right _ h))) (by decide +kernel))) (goodIn_sub (fun _ h => List.mem_cons_of_mem _ (List.mem_append_right _ h)) (by decide +kernel))
set_option maxRecDepth 20000 in
theorem gL_turn_X1_turn : GoodIn wsL_turn (wsV RL 24 RX1 yX1_turn wsX1_turn) := goodIn_app (goodIn_of _ (by decide +kernel)) ggL_turn_X1_turn
theorem dL_turn_0 : decode cL_turn 0 = .ok (.aload_n 3, 1) := by decide +kernel
theorem dL_turn_1 : decode cL_turn 1 = .ok (.iconst 0, 1) := by decide +kernel
theorem dL_turn_2 : decode cL_turn 2 = .ok (.aload_n 0, 1) := by decide +kernel
theorem dL_turn_3 : decode cL_turn 3 = .ok (.iload_n 1, 1) := by decide +kernel
theorem dL_turn_4 : decode cL_turn 4 = .ok (.iload_n 2, 1) := by decide +kernel
theorem dL_turn_5 : decode cL_turn 5 = .ok (.invokevirtual 24, 3) := by decide +kernel
theorem dL_turn_8 : decode cL_turn 8 = .ok (.ifCond .eq 7, 3) := by decide +kernel
theorem dL_turn_11 : decode cL_turn 11 = .ok (.lconst 1, 1) := by decide +kernel
theorem dL_turn_12 : decode cL_turn 12 = .ok (.goto 4, 3) := by decide +kernel
theorem dL_turn_15 : decode cL_turn 15 = .ok (.lconst 0, 1) := by decide +kernel
theorem dL_turn_16 : decode cL_turn 16 = .ok (.lastore, 1) := by decide +kernel
theorem dL_turn_17 : decode cL_turn 17 = .ok (.goto 11, 3) := by decide +kernel
theorem dL_turn_20 : decode cL_turn 20 = .ok (.astore 4, 2) := by decide +kernel
theorem dL_turn_22 : decode cL_turn 22 = .ok (.iconst 1, 1) := by decide +kernel
theorem dL_turn_23 : decode cL_turn 23 = .ok (.ireturn, 1) := by decide +kernel
theorem dL_turn_24 : decode cL_turn 24 = .ok (.astore 4, 2) := by decide +kernel
theorem dL_turn_26 : decode cL_turn 26 = .ok (.iconst 2, 1) := by decide +kernel
theorem dL_turn_27 : decode cL_turn 27 = .ok (.ireturn, 1) := by decide +kernel
theorem dL_turn_28 : decode cL_turn 28 = .ok (.iconst 0, 1) := by decide +kernel
theorem dL_turn_29 : decode cL_turn 29 = .ok (.ireturn, 1) := by decide +kernel
set_option maxRecDepth 20000 in
theorem ggL_setHopper_X1_setHopper : GoodIn wsL_setHopper wsX1_setHopper := goodIn_ca (goodIn_ca (goodIn_r _ [7, 8, 9, 10, 6, 11, 12, 13, 14, 15, 16, 17, 18, 19, 20, 21, 22, 23, 24, 25, 26, 27, 28, 29, 30, 31, 32, 33, 34, 35, 36, 37, 38, 39, 40, 41, 42, 43, 44, 45, 46, 47, 48, 49] (by decide +kernel) (by decide +kernel)) (goodIn_sub (fun _ h => List.mem_cons_of_mem _ (List.mem_append_left _ (List.mem_append_right _ h))) (by decide +kernel))) (goodIn_sub (fun _ h => List.mem_cons_of_mem _ (List.mem_append_right _ h)) (by decide +kernel))
set_option maxRecDepth 20000 in
theorem gL_setHopper_X1_setHopper : GoodIn wsL_setHopper (wsV RL 30 RX1 yX1_setHopper wsX1_setHopper) := goodIn_app (goodIn_of _ (by decide +kernel)) ggL_setHopper_X1_setHopper
theorem dL_setHopper_0 : decode cL_setHopper 0 = .ok (.aload 4, 2) := by decide +kernel
theorem dL_setHopper_2 : decode cL_setHopper 2 = .ok (.iconst 0, 1) := by decide +kernel
theorem dL_setHopper_3 : decode cL_setHopper 3 = .ok (.aload_n 0, 1) := by decide +kernel
theorem dL_setHopper_4 : decode cL_setHopper 4 = .ok (.iload_n 1, 1) := by decide +kernel
theorem dL_setHopper_5 : decode cL_setHopper 5 = .ok (.iload_n 2, 1) := by decide +kernel
theorem dL_setHopper_6 : decode cL_setHopper 6 = .ok (.iload_n 3, 1) := by decide +kernel
theorem dL_setHopper_7 : decode cL_setHopper 7 = .ok (.invokevirtual 30, 3) := by decide +kernel
theorem dL_setHopper_10 : decode cL_setHopper 10 = .ok (.i2l, 1) := by decide +kernel
theorem dL_setHopper_11 : decode cL_setHopper 11 = .ok (.lastore, 1) := by decide +kernel
theorem dL_setHopper_12 : decode cL_setHopper 12 = .ok (.goto 11, 3) := by decide +kernel
theorem dL_setHopper_15 : decode cL_setHopper 15 = .ok (.astore 5, 2) := by decide +kernel
theorem dL_setHopper_17 : decode cL_setHopper 17 = .ok (.iconst 1, 1) := by decide +kernel
theorem dL_setHopper_18 : decode cL_setHopper 18 = .ok (.ireturn, 1) := by decide +kernel
theorem dL_setHopper_19 : decode cL_setHopper 19 = .ok (.astore 5, 2) := by decide +kernel
theorem dL_setHopper_21 : decode cL_setHopper 21 = .ok (.iconst 2, 1) := by decide +kernel
theorem dL_setHopper_22 : decode cL_setHopper 22 = .ok (.ireturn, 1) := by decide +kernel
theorem dL_setHopper_23 : decode cL_setHopper 23 = .ok (.iconst 0, 1) := by decide +kernel
theorem dL_setHopper_24 : decode cL_setHopper 24 = .ok (.ireturn, 1) := by decide +kernel
set_option maxRecDepth 20000 in
theorem ggL_drop_X1_drop : GoodIn wsL_drop wsX1_drop := goodIn_ca (goodIn_r _ [6, 7, 8, 9, 10, 5, 11, 12, 13, 14, 15, 16, 17, 18, 19, 20, 21, 22, 23, 24, 25, 26, 27, 28, 29, 30, 31, 32, 33, 34, 35, 36, 37, 38, 39, 40, 41, 42, 43, 44, 45, 46, 47, 48, 49, 50, 51, 52, 53, 54, 55, 56, 57] (by decide +kernel) (by decide +kernel)) (goodIn_sub (fun _ h => List.mem_cons_of_mem _ (List.mem_append_right _ h)) (by decide +kernel))
set_option maxRecDepth 20000 in
theorem gL_drop_X1_drop : GoodIn wsL_drop (wsV RL 33 RX1 yX1_drop wsX1_drop) := goodIn_app (goodIn_of _ (by decide +kernel)) ggL_drop_X1_drop
theorem dL_drop_0 : decode cL_drop 0 = .ok (.aload_n 2, 1) := by decide +kernel
theorem dL_drop_1 : decode cL_drop 1 = .ok (.iconst 0, 1) := by decide +kernel
theorem dL_drop_2 : decode cL_drop 2 = .ok (.aload_n 0, 1) := by decide +kernel
theorem dL_drop_3 : decode cL_drop 3 = .ok (.iload_n 1, 1) := by decide +kernel
theorem dL_drop_4 : decode cL_drop 4 = .ok (.invokevirtual 33, 3) := by decide +kernel
theorem dL_drop_7 : decode cL_drop 7 = .ok (.i2l, 1) := by decide +kernel
theorem dL_drop_8 : decode cL_drop 8 = .ok (.lastore, 1) := by decide +kernel
theorem dL_drop_9 : decode cL_drop 9 = .ok (.goto 6, 3) := by decide +kernel
theorem dL_drop_12 : decode cL_drop 12 = .ok (.astore_n 3, 1) := by decide +kernel
theorem dL_drop_13 : decode cL_drop 13 = .ok (.iconst 1, 1) := by decide +kernel
theorem dL_drop_14 : decode cL_drop 14 = .ok (.ireturn, 1) := by decide +kernel
theorem dL_drop_15 : decode cL_drop 15 = .ok (.iconst 0, 1) := by decide +kernel
theorem dL_drop_16 : decode cL_drop 16 = .ok (.ireturn, 1) := by decide +kernel
set_option maxRecDepth 20000 in
theorem ggL_run_X1_run : GoodIn wsL_run wsX1_run := goodIn_ca (goodIn_ca (goodIn_r _ [7, 8, 9, 10, 6, 11, 12, 13, 14, 15, 16, 17, 18, 19, 20, 21, 22, 23, 24, 25, 26, 27, 28, 29, 30, 31, 32, 33, 34, 35, 36, 37, 38, 39, 40, 41, 42, 43, 44, 45, 46, 47, 48, 49, 50, 51, 52, 53, 54, 55, 56, 57, 58, 59, 60, 61, 62, 63, 64, 65, 66, 67, 68, 69, 70, 71] (by decide +kernel) (by decide +kernel)) (goodIn_sub (fun _ h => List.mem_cons_of_mem _ (List.mem_append_left _ (List.mem_append_right _ h))) (by decide +kernel))) (goodIn_sub (fun _ h => List.mem_cons_of_mem _ (List.mem_append_right _ h)) (by decide +kernel))
set_option maxRecDepth 20000 in
theorem gL_run_X1_run : GoodIn wsL_run (wsV RL 37 RX1 yX1_run wsX1_run) := goodIn_app (goodIn_of _ (by decide +kernel)) ggL_run_X1_run
theorem dL_run_0 : decode cL_run 0 = .ok (.aload_n 3, 1) := by decide +kernel
theorem dL_run_1 : decode cL_run 1 = .ok (.iconst 0, 1) := by decide +kernel
theorem dL_run_2 : decode cL_run 2 = .ok (.aload_n 0, 1) := by decide +kernel
theorem dL_run_3 : decode cL_run 3 = .ok (.iload_n 1, 1) := by decide +kernel
theorem dL_run_4 : decode cL_run 4 = .ok (.iload_n 2, 1) := by decide +kernel
theorem dL_run_5 : decode cL_run 5 = .ok (.invokevirtual 37, 3) := by decide +kernel
theorem dL_run_8 : decode cL_run 8 = .ok (.i2l, 1) := by decide +kernel
theorem dL_run_9 : decode cL_run 9 = .ok (.lastore, 1) := by decide +kernel
theorem dL_run_10 : decode cL_run 10 = .ok (.goto 11, 3) := by decide +kernel
theorem dL_run_13 : decode cL_run 13 = .ok (.astore 4, 2) := by decide +kernel
theorem dL_run_15 : decode cL_run 15 = .ok (.iconst 1, 1) := by decide +kernel
theorem dL_run_16 : decode cL_run 16 = .ok (.ireturn, 1) := by decide +kernel
theorem dL_run_17 : decode cL_run 17 = .ok (.astore 4, 2) := by decide +kernel
theorem dL_run_19 : decode cL_run 19 = .ok (.iconst 2, 1) := by decide +kernel
theorem dL_run_20 : decode cL_run 20 = .ok (.ireturn, 1) := by decide +kernel
theorem dL_run_21 : decode cL_run 21 = .ok (.iconst 0, 1) := by decide +kernel
theorem dL_run_22 : decode cL_run 22 = .ok (.ireturn, 1) := by decide +kernel
set_option maxRecDepth 20000 in
theorem ggL_partAt_X1_partAt : GoodIn wsL_partAt wsX1_partAt := goodIn_ca (goodIn_r _ [6, 7, 8, 9, 10, 5, 11, 12, 13, 14, 15, 16, 17, 18, 19, 20, 21, 22, 23, 24, 25, 26, 27, 28, 29, 30, 31, 32, 33, 34, 35, 36, 37, 38, 39, 40, 41, 42, 43, 44, 45, 46, 47, 48, 49, 50, 51, 52, 53, 54] (by decide +kernel) (by decide +kernel)) (goodIn_sub (fun _ h => List.mem_cons_of_mem _ (List.mem_append_right _ h)) (by decide +kernel))
set_option maxRecDepth 20000 in
theorem gL_partAt_X1_partAt : GoodIn wsL_partAt (wsV RL 40 RX1 yX1_partAt wsX1_partAt) := goodIn_app (goodIn_of _ (by decide +kernel)) ggL_partAt_X1_partAt
theorem dL_partAt_0 : decode cL_partAt 0 = .ok (.aload_n 3, 1) := by decide +kernel
theorem dL_partAt_1 : decode cL_partAt 1 = .ok (.iconst 0, 1) := by decide +kernel
theorem dL_partAt_2 : decode cL_partAt 2 = .ok (.aload_n 0, 1) := by decide +kernel
theorem dL_partAt_3 : decode cL_partAt 3 = .ok (.iload_n 1, 1) := by decide +kernel
theorem dL_partAt_4 : decode cL_partAt 4 = .ok (.iload_n 2, 1) := by decide +kernel
theorem dL_partAt_5 : decode cL_partAt 5 = .ok (.invokevirtual 40, 3) := by decide +kernel
theorem dL_partAt_8 : decode cL_partAt 8 = .ok (.i2l, 1) := by decide +kernel
theorem dL_partAt_9 : decode cL_partAt 9 = .ok (.lastore, 1) := by decide +kernel
theorem dL_partAt_10 : decode cL_partAt 10 = .ok (.goto 7, 3) := by decide +kernel
theorem dL_partAt_13 : decode cL_partAt 13 = .ok (.astore 4, 2) := by decide +kernel
theorem dL_partAt_15 : decode cL_partAt 15 = .ok (.iconst 1, 1) := by decide +kernel
theorem dL_partAt_16 : decode cL_partAt 16 = .ok (.ireturn, 1) := by decide +kernel
theorem dL_partAt_17 : decode cL_partAt 17 = .ok (.iconst 0, 1) := by decide +kernel
theorem dL_partAt_18 : decode cL_partAt 18 = .ok (.ireturn, 1) := by decide +kernel
set_option maxRecDepth 20000 in
theorem ggL_leadsRight_X1_leadsRight : GoodIn wsL_leadsRight wsX1_leadsRight := goodIn_ca (goodIn_r _ [6, 7, 8, 9, 10, 5, 11, 12, 13, 14, 15, 16, 17, 18, 19, 20, 21, 22, 23, 24, 25, 26, 27, 28, 29, 30, 31, 32, 33, 34, 35, 36, 37, 38, 39, 40, 41, 42, 43, 44, 45, 46, 47, 48, 49, 50, 51, 52, 53, 54, 55, 56, 57, 58, 59] (by decide +kernel) (by decide +kernel)) (goodIn_sub (fun _ h => List.mem_cons_of_mem _ (List.mem_append_right _ h)) (by decide +kernel))
set_option maxRecDepth 20000 in
theorem gL_leadsRight_X1_leadsRight : GoodIn wsL_leadsRight (wsV RL 43 RX1 yX1_leadsRight wsX1_leadsRight) := goodIn_app (goodIn_of _ (by decide +kernel)) ggL_leadsRight_X1_leadsRight
theorem dL_leadsRight_0 : decode cL_leadsRight 0 = .ok (.aload_n 3, 1) := by decide +kernel
theorem dL_leadsRight_1 : decode cL_leadsRight 1 = .ok (.iconst 0, 1) := by decide +kernel
theorem dL_leadsRight_2 : decode cL_leadsRight 2 = .ok (.aload_n 0, 1) := by decide +kernel
theorem dL_leadsRight_3 : decode cL_leadsRight 3 = .ok (.iload_n 1, 1) := by decide +kernel
theorem dL_leadsRight_4 : decode cL_leadsRight 4 = .ok (.iload_n 2, 1) := by decide +kernel
theorem dL_leadsRight_5 : decode cL_leadsRight 5 = .ok (.invokevirtual 43, 3) := by decide +kernel
theorem dL_leadsRight_8 : decode cL_leadsRight 8 = .ok (.ifCond .eq 7, 3) := by decide +kernel
theorem dL_leadsRight_11 : decode cL_leadsRight 11 = .ok (.lconst 1, 1) := by decide +kernel
theorem dL_leadsRight_12 : decode cL_leadsRight 12 = .ok (.goto 4, 3) := by decide +kernel
theorem dL_leadsRight_15 : decode cL_leadsRight 15 = .ok (.lconst 0, 1) := by decide +kernel
theorem dL_leadsRight_16 : decode cL_leadsRight 16 = .ok (.lastore, 1) := by decide +kernel
theorem dL_leadsRight_17 : decode cL_leadsRight 17 = .ok (.goto 7, 3) := by decide +kernel
theorem dL_leadsRight_20 : decode cL_leadsRight 20 = .ok (.astore 4, 2) := by decide +kernel
theorem dL_leadsRight_22 : decode cL_leadsRight 22 = .ok (.iconst 1, 1) := by decide +kernel
theorem dL_leadsRight_23 : decode cL_leadsRight 23 = .ok (.ireturn, 1) := by decide +kernel
theorem dL_leadsRight_24 : decode cL_leadsRight 24 = .ok (.iconst 0, 1) := by decide +kernel
theorem dL_leadsRight_25 : decode cL_leadsRight 25 = .ok (.ireturn, 1) := by decide +kernel
set_option maxRecDepth 20000 in
theorem ggL_countAt_X1_countAt : GoodIn wsL_countAt wsX1_countAt := goodIn_ca (goodIn_r _ [6, 7, 8, 9, 10, 5, 11, 12, 13, 14, 15, 16, 17, 18, 19, 20, 21, 22, 23, 24, 25, 26, 27, 28, 29, 30, 31, 32, 33, 34, 35, 36, 37, 38, 39, 40, 41, 42, 43, 44, 45, 46, 47, 48, 49, 50, 51, 52, 53, 54, 55, 56, 57, 58, 59] (by decide +kernel) (by decide +kernel)) (goodIn_sub (fun _ h => List.mem_cons_of_mem _ (List.mem_append_right _ h)) (by decide +kernel))
set_option maxRecDepth 20000 in
theorem gL_countAt_X1_countAt : GoodIn wsL_countAt (wsV RL 46 RX1 yX1_countAt wsX1_countAt) := goodIn_app (goodIn_of _ (by decide +kernel)) ggL_countAt_X1_countAt
theorem dL_countAt_0 : decode cL_countAt 0 = .ok (.aload_n 3, 1) := by decide +kernel
theorem dL_countAt_1 : decode cL_countAt 1 = .ok (.iconst 0, 1) := by decide +kernel
theorem dL_countAt_2 : decode cL_countAt 2 = .ok (.aload_n 0, 1) := by decide +kernel
theorem dL_countAt_3 : decode cL_countAt 3 = .ok (.iload_n 1, 1) := by decide +kernel
theorem dL_countAt_4 : decode cL_countAt 4 = .ok (.iload_n 2, 1) := by decide +kernel
theorem dL_countAt_5 : decode cL_countAt 5 = .ok (.invokevirtual 46, 3) := by decide +kernel
theorem dL_countAt_8 : decode cL_countAt 8 = .ok (.i2l, 1) := by decide +kernel
theorem dL_countAt_9 : decode cL_countAt 9 = .ok (.lastore, 1) := by decide +kernel
theorem dL_countAt_10 : decode cL_countAt 10 = .ok (.goto 7, 3) := by decide +kernel
theorem dL_countAt_13 : decode cL_countAt 13 = .ok (.astore 4, 2) := by decide +kernel
theorem dL_countAt_15 : decode cL_countAt 15 = .ok (.iconst 1, 1) := by decide +kernel
theorem dL_countAt_16 : decode cL_countAt 16 = .ok (.ireturn, 1) := by decide +kernel
theorem dL_countAt_17 : decode cL_countAt 17 = .ok (.iconst 0, 1) := by decide +kernel
theorem dL_countAt_18 : decode cL_countAt 18 = .ok (.ireturn, 1) := by decide +kernel
set_option maxRecDepth 20000 in
theorem ggL_binOf_X1_binOf : GoodIn wsL_binOf wsX1_binOf := goodIn_ca (goodIn_r _ [6, 7, 8, 9, 10, 11, 5, 12, 13, 14, 15, 16, 17, 18, 19, 20, 21, 22, 23, 24, 25, 26, 27, 28, 29, 30, 31, 32, 33, 34] (by decide +kernel) (by decide +kernel)) (goodIn_sub (fun _ h => List.mem_cons_of_mem _ (List.mem_append_right _ h)) (by decide +kernel))
set_option maxRecDepth 20000 in
theorem gL_binOf_X1_binOf : GoodIn wsL_binOf (wsV RL 49 RX1 yX1_binOf wsX1_binOf) := goodIn_app (goodIn_of _ (by decide +kernel)) ggL_binOf_X1_binOf
theorem dL_binOf_0 : decode cL_binOf 0 = .ok (.aload_n 2, 1) := by decide +kernel
theorem dL_binOf_1 : decode cL_binOf 1 = .ok (.iconst 0, 1) := by decide +kernel
theorem dL_binOf_2 : decode cL_binOf 2 = .ok (.aload_n 0, 1) := by decide +kernel
theorem dL_binOf_3 : decode cL_binOf 3 = .ok (.iload_n 1, 1) := by decide +kernel
theorem dL_binOf_4 : decode cL_binOf 4 = .ok (.invokevirtual 49, 3) := by decide +kernel
theorem dL_binOf_7 : decode cL_binOf 7 = .ok (.i2l, 1) := by decide +kernel
theorem dL_binOf_8 : decode cL_binOf 8 = .ok (.lastore, 1) := by decide +kernel
theorem dL_binOf_9 : decode cL_binOf 9 = .ok (.goto 6, 3) := by decide +kernel
theorem dL_binOf_12 : decode cL_binOf 12 = .ok (.astore_n 3, 1) := by decide +kernel
theorem dL_binOf_13 : decode cL_binOf 13 = .ok (.iconst 1, 1) := by decide +kernel
theorem dL_binOf_14 : decode cL_binOf 14 = .ok (.ireturn, 1) := by decide +kernel
theorem dL_binOf_15 : decode cL_binOf 15 = .ok (.iconst 0, 1) := by decide +kernel
theorem dL_binOf_16 : decode cL_binOf 16 = .ok (.ireturn, 1) := by decide +kernel
set_option maxRecDepth 20000 in
theorem ggL_marblesIn_X1_marblesIn : GoodIn wsL_marblesIn wsX1_marblesIn := goodIn_ca (goodIn_r _ [6, 7, 8, 9, 10, 5, 11, 12, 13, 14, 15, 16, 17, 18, 19, 20, 21, 22, 23, 24, 25, 26, 27] (by decide +kernel) (by decide +kernel)) (goodIn_sub (fun _ h => List.mem_cons_of_mem _ (List.mem_append_right _ h)) (by decide +kernel))
set_option maxRecDepth 20000 in
theorem gL_marblesIn_X1_marblesIn : GoodIn wsL_marblesIn (wsV RL 52 RX1 yX1_marblesIn wsX1_marblesIn) := goodIn_app (goodIn_of _ (by decide +kernel)) ggL_marblesIn_X1_marblesIn
theorem dL_marblesIn_0 : decode cL_marblesIn 0 = .ok (.aload_n 2, 1) := by decide +kernel
theorem dL_marblesIn_1 : decode cL_marblesIn 1 = .ok (.iconst 0, 1) := by decide +kernel
theorem dL_marblesIn_2 : decode cL_marblesIn 2 = .ok (.aload_n 0, 1) := by decide +kernel
theorem dL_marblesIn_3 : decode cL_marblesIn 3 = .ok (.iload_n 1, 1) := by decide +kernel
theorem dL_marblesIn_4 : decode cL_marblesIn 4 = .ok (.invokevirtual 52, 3) := by decide +kernel
theorem dL_marblesIn_7 : decode cL_marblesIn 7 = .ok (.i2l, 1) := by decide +kernel
theorem dL_marblesIn_8 : decode cL_marblesIn 8 = .ok (.lastore, 1) := by decide +kernel
theorem dL_marblesIn_9 : decode cL_marblesIn 9 = .ok (.goto 6, 3) := by decide +kernel
theorem dL_marblesIn_12 : decode cL_marblesIn 12 = .ok (.astore_n 3, 1) := by decide +kernel
theorem dL_marblesIn_13 : decode cL_marblesIn 13 = .ok (.iconst 1, 1) := by decide +kernel
theorem dL_marblesIn_14 : decode cL_marblesIn 14 = .ok (.ireturn, 1) := by decide +kernel
theorem dL_marblesIn_15 : decode cL_marblesIn 15 = .ok (.iconst 0, 1) := by decide +kernel
theorem dL_marblesIn_16 : decode cL_marblesIn 16 = .ok (.ireturn, 1) := by decide +kernel
set_option maxRecDepth 20000 in
theorem ggL_columnOf_X1_columnOf : GoodIn wsL_columnOf wsX1_columnOf := goodIn_ca (goodIn_r _ [6, 7, 8, 9, 10, 5, 11, 12, 13, 14, 15, 16, 17, 18, 19, 20, 21, 22, 23, 24, 25, 26, 27] (by decide +kernel) (by decide +kernel)) (goodIn_sub (fun _ h => List.mem_cons_of_mem _ (List.mem_append_right _ h)) (by decide +kernel))
set_option maxRecDepth 20000 in
theorem gL_columnOf_X1_columnOf : GoodIn wsL_columnOf (wsV RL 55 RX1 yX1_columnOf wsX1_columnOf) := goodIn_app (goodIn_of _ (by decide +kernel)) ggL_columnOf_X1_columnOf
theorem dL_columnOf_0 : decode cL_columnOf 0 = .ok (.aload_n 2, 1) := by decide +kernel
theorem dL_columnOf_1 : decode cL_columnOf 1 = .ok (.iconst 0, 1) := by decide +kernel
theorem dL_columnOf_2 : decode cL_columnOf 2 = .ok (.aload_n 0, 1) := by decide +kernel
theorem dL_columnOf_3 : decode cL_columnOf 3 = .ok (.iload_n 1, 1) := by decide +kernel
theorem dL_columnOf_4 : decode cL_columnOf 4 = .ok (.invokevirtual 55, 3) := by decide +kernel
theorem dL_columnOf_7 : decode cL_columnOf 7 = .ok (.i2l, 1) := by decide +kernel
theorem dL_columnOf_8 : decode cL_columnOf 8 = .ok (.lastore, 1) := by decide +kernel
theorem dL_columnOf_9 : decode cL_columnOf 9 = .ok (.goto 6, 3) := by decide +kernel
theorem dL_columnOf_12 : decode cL_columnOf 12 = .ok (.astore_n 3, 1) := by decide +kernel
theorem dL_columnOf_13 : decode cL_columnOf 13 = .ok (.iconst 1, 1) := by decide +kernel
theorem dL_columnOf_14 : decode cL_columnOf 14 = .ok (.ireturn, 1) := by decide +kernel
theorem dL_columnOf_15 : decode cL_columnOf 15 = .ok (.iconst 0, 1) := by decide +kernel
theorem dL_columnOf_16 : decode cL_columnOf 16 = .ok (.ireturn, 1) := by decide +kernel
set_option maxRecDepth 20000 in
theorem ggL_numberIn_X1_numberIn : GoodIn wsL_numberIn wsX1_numberIn := goodIn_ca (goodIn_r _ [6, 7, 8, 9, 10, 5, 11, 12, 13, 14, 15, 16, 17, 18, 19, 20, 21, 22, 23, 24, 25, 26, 27, 28, 29, 30, 31, 32, 33, 34, 35, 36, 37, 38, 39, 40, 41, 42, 43, 44, 45, 46, 47, 48, 49, 50, 51] (by decide +kernel) (by decide +kernel)) (goodIn_sub (fun _ h => List.mem_cons_of_mem _ (List.mem_append_right _ h)) (by decide +kernel))
set_option maxRecDepth 20000 in
theorem gL_numberIn_X1_numberIn : GoodIn wsL_numberIn (wsV RL 58 RX1 yX1_numberIn wsX1_numberIn) := goodIn_app (goodIn_of _ (by decide +kernel)) ggL_numberIn_X1_numberIn
theorem dL_numberIn_0 : decode cL_numberIn 0 = .ok (.aload_n 2, 1) := by decide +kernel
theorem dL_numberIn_1 : decode cL_numberIn 1 = .ok (.iconst 0, 1) := by decide +kernel
theorem dL_numberIn_2 : decode cL_numberIn 2 = .ok (.aload_n 0, 1) := by decide +kernel
theorem dL_numberIn_3 : decode cL_numberIn 3 = .ok (.iload_n 1, 1) := by decide +kernel
theorem dL_numberIn_4 : decode cL_numberIn 4 = .ok (.invokevirtual 58, 3) := by decide +kernel
theorem dL_numberIn_7 : decode cL_numberIn 7 = .ok (.i2l, 1) := by decide +kernel
theorem dL_numberIn_8 : decode cL_numberIn 8 = .ok (.lastore, 1) := by decide +kernel
theorem dL_numberIn_9 : decode cL_numberIn 9 = .ok (.goto 6, 3) := by decide +kernel
theorem dL_numberIn_12 : decode cL_numberIn 12 = .ok (.astore_n 3, 1) := by decide +kernel
theorem dL_numberIn_13 : decode cL_numberIn 13 = .ok (.iconst 1, 1) := by decide +kernel
theorem dL_numberIn_14 : decode cL_numberIn 14 = .ok (.ireturn, 1) := by decide +kernel
theorem dL_numberIn_15 : decode cL_numberIn 15 = .ok (.iconst 0, 1) := by decide +kernel
theorem dL_numberIn_16 : decode cL_numberIn 16 = .ok (.ireturn, 1) := by decide +kernel
set_option maxRecDepth 20000 in
theorem ggL_wouldLand_X1_wouldLand : GoodIn wsL_wouldLand wsX1_wouldLand := goodIn_ca (goodIn_r _ [6, 7, 8, 9, 10, 11, 5, 12, 13, 14, 15, 16, 17, 18, 19, 20, 21, 22, 23, 24, 25, 26, 27, 28, 29, 30, 31, 32, 33, 34, 35, 36, 37, 38, 39, 40, 41, 42, 43, 44, 45, 46, 47, 48, 49, 50, 51, 52, 53, 54, 55, 56, 57, 58, 59, 60, 61, 62, 63, 64, 65, 66, 67] (by decide +kernel) (by decide +kernel)) (goodIn_sub (fun _ h => List.mem_cons_of_mem _ (List.mem_append_right _ h)) (by decide +kernel))
set_option maxRecDepth 20000 in
theorem gL_wouldLand_X1_wouldLand : GoodIn wsL_wouldLand (wsV RL 61 RX1 yX1_wouldLand wsX1_wouldLand) := goodIn_app (goodIn_of _ (by decide +kernel)) ggL_wouldLand_X1_wouldLand
theorem dL_wouldLand_0 : decode cL_wouldLand 0 = .ok (.aload_n 2, 1) := by decide +kernel
theorem dL_wouldLand_1 : decode cL_wouldLand 1 = .ok (.iconst 0, 1) := by decide +kernel
theorem dL_wouldLand_2 : decode cL_wouldLand 2 = .ok (.aload_n 0, 1) := by decide +kernel
theorem dL_wouldLand_3 : decode cL_wouldLand 3 = .ok (.iload_n 1, 1) := by decide +kernel
theorem dL_wouldLand_4 : decode cL_wouldLand 4 = .ok (.invokevirtual 61, 3) := by decide +kernel
theorem dL_wouldLand_7 : decode cL_wouldLand 7 = .ok (.i2l, 1) := by decide +kernel
theorem dL_wouldLand_8 : decode cL_wouldLand 8 = .ok (.lastore, 1) := by decide +kernel
theorem dL_wouldLand_9 : decode cL_wouldLand 9 = .ok (.goto 6, 3) := by decide +kernel
theorem dL_wouldLand_12 : decode cL_wouldLand 12 = .ok (.astore_n 3, 1) := by decide +kernel
theorem dL_wouldLand_13 : decode cL_wouldLand 13 = .ok (.iconst 1, 1) := by decide +kernel
theorem dL_wouldLand_14 : decode cL_wouldLand 14 = .ok (.ireturn, 1) := by decide +kernel
theorem dL_wouldLand_15 : decode cL_wouldLand 15 = .ok (.iconst 0, 1) := by decide +kernel
theorem dL_wouldLand_16 : decode cL_wouldLand 16 = .ok (.ireturn, 1) := by decide +kernel
set_option maxRecDepth 20000 in
theorem ggL_wouldBeIn_X1_wouldBeIn : GoodIn wsL_wouldBeIn wsX1_wouldBeIn := goodIn_ca (goodIn_r _ [6, 7, 8, 9, 10, 11, 5, 12, 13, 14, 15, 16, 17, 18, 19, 20, 21, 22, 23, 24, 25, 26, 27, 28, 29, 30, 31, 32, 33, 34, 35, 36, 37, 38, 39, 40, 41, 42, 43, 44, 45, 46, 47, 48, 49, 50, 51, 52, 53, 54, 55, 56, 57, 58, 59, 60, 61, 62, 63, 64, 65, 66, 67, 68, 69, 70, 71] (by decide +kernel) (by decide +kernel)) (goodIn_sub (fun _ h => List.mem_cons_of_mem _ (List.mem_append_right _ h)) (by decide +kernel))
set_option maxRecDepth 20000 in
theorem gL_wouldBeIn_X1_wouldBeIn : GoodIn wsL_wouldBeIn (wsV RL 64 RX1 yX1_wouldBeIn wsX1_wouldBeIn) := goodIn_app (goodIn_of _ (by decide +kernel)) ggL_wouldBeIn_X1_wouldBeIn
theorem dL_wouldBeIn_0 : decode cL_wouldBeIn 0 = .ok (.aload_n 3, 1) := by decide +kernel
theorem dL_wouldBeIn_1 : decode cL_wouldBeIn 1 = .ok (.iconst 0, 1) := by decide +kernel
theorem dL_wouldBeIn_2 : decode cL_wouldBeIn 2 = .ok (.aload_n 0, 1) := by decide +kernel
theorem dL_wouldBeIn_3 : decode cL_wouldBeIn 3 = .ok (.iload_n 1, 1) := by decide +kernel
theorem dL_wouldBeIn_4 : decode cL_wouldBeIn 4 = .ok (.iload_n 2, 1) := by decide +kernel
theorem dL_wouldBeIn_5 : decode cL_wouldBeIn 5 = .ok (.invokevirtual 64, 3) := by decide +kernel
theorem dL_wouldBeIn_8 : decode cL_wouldBeIn 8 = .ok (.i2l, 1) := by decide +kernel
theorem dL_wouldBeIn_9 : decode cL_wouldBeIn 9 = .ok (.lastore, 1) := by decide +kernel
theorem dL_wouldBeIn_10 : decode cL_wouldBeIn 10 = .ok (.goto 7, 3) := by decide +kernel
theorem dL_wouldBeIn_13 : decode cL_wouldBeIn 13 = .ok (.astore 4, 2) := by decide +kernel
theorem dL_wouldBeIn_15 : decode cL_wouldBeIn 15 = .ok (.iconst 1, 1) := by decide +kernel
theorem dL_wouldBeIn_16 : decode cL_wouldBeIn 16 = .ok (.ireturn, 1) := by decide +kernel
theorem dL_wouldBeIn_17 : decode cL_wouldBeIn 17 = .ok (.iconst 0, 1) := by decide +kernel
theorem dL_wouldBeIn_18 : decode cL_wouldBeIn 18 = .ok (.ireturn, 1) := by decide +kernel
set_option maxRecDepth 20000 in
theorem ggL_wouldTurn_X1_wouldTurn : GoodIn wsL_wouldTurn wsX1_wouldTurn := goodIn_ca (goodIn_r _ [6, 7, 8, 9, 10, 11, 5, 12, 13, 14, 15, 16, 17, 18, 19, 20, 21, 22, 23, 24, 25, 26, 27, 28, 29, 30, 31, 32, 33, 34, 35, 36, 37, 38, 39, 40, 41, 42, 43, 44, 45, 46, 47, 48, 49, 50, 51, 52, 53, 54, 55, 56, 57, 58, 59, 60, 61, 62, 63, 64, 65, 66, 67, 68, 69, 70, 71, 72, 73, 74, 75, 76, 77, 78, 79] (by decide +kernel) (by decide +kernel)) (goodIn_sub (fun _ h => List.mem_cons_of_mem _ (List.mem_append_right _ h)) (by decide +kernel))
set_option maxRecDepth 20000 in
theorem gL_wouldTurn_X1_wouldTurn : GoodIn wsL_wouldTurn (wsV RL 67 RX1 yX1_wouldTurn wsX1_wouldTurn) := goodIn_app (goodIn_of _ (by decide +kernel)) ggL_wouldTurn_X1_wouldTurn
theorem dL_wouldTurn_0 : decode cL_wouldTurn 0 = .ok (.aload_n 2, 1) := by decide +kernel
theorem dL_wouldTurn_1 : decode cL_wouldTurn 1 = .ok (.iconst 0, 1) := by decide +kernel
theorem dL_wouldTurn_2 : decode cL_wouldTurn 2 = .ok (.aload_n 0, 1) := by decide +kernel
theorem dL_wouldTurn_3 : decode cL_wouldTurn 3 = .ok (.iload_n 1, 1) := by decide +kernel
theorem dL_wouldTurn_4 : decode cL_wouldTurn 4 = .ok (.invokevirtual 67, 3) := by decide +kernel
theorem dL_wouldTurn_7 : decode cL_wouldTurn 7 = .ok (.i2l, 1) := by decide +kernel
theorem dL_wouldTurn_8 : decode cL_wouldTurn 8 = .ok (.lastore, 1) := by decide +kernel
theorem dL_wouldTurn_9 : decode cL_wouldTurn 9 = .ok (.goto 6, 3) := by decide +kernel
theorem dL_wouldTurn_12 : decode cL_wouldTurn 12 = .ok (.astore_n 3, 1) := by decide +kernel
theorem dL_wouldTurn_13 : decode cL_wouldTurn 13 = .ok (.iconst 1, 1) := by decide +kernel
theorem dL_wouldTurn_14 : decode cL_wouldTurn 14 = .ok (.ireturn, 1) := by decide +kernel
theorem dL_wouldTurn_15 : decode cL_wouldTurn 15 = .ok (.iconst 0, 1) := by decide +kernel
theorem dL_wouldTurn_16 : decode cL_wouldTurn 16 = .ok (.ireturn, 1) := by decide +kernel
set_option maxRecDepth 20000 in
theorem ggL_lastLands_X1_lastLands : GoodIn wsL_lastLands wsX1_lastLands := goodIn_ca (goodIn_ca (goodIn_r _ [7, 8, 9, 10, 11, 12, 6, 13, 14, 15, 16, 17, 18, 19, 20, 21, 22, 23, 24, 25, 26, 27, 28, 29, 30, 31, 32, 33, 34, 35, 36, 37, 38, 39, 40, 41, 42, 43, 44, 45, 46, 47, 48, 49, 50, 51, 52, 53, 54, 55, 56, 57, 58, 59, 60, 61, 62, 63, 64, 65, 66, 67, 68, 69, 70, 71, 72, 73] (by decide +kernel) (by decide +kernel)) (goodIn_sub (fun _ h => List.mem_cons_of_mem _ (List.mem_append_left _ (List.mem_append_right _ h))) (by decide +kernel))) (goodIn_sub (fun _ h => List.mem_cons_of_mem _ (List.mem_append_right _ h)) (by decide +kernel))
set_option maxRecDepth 20000 in
theorem gL_lastLands_X1_lastLands : GoodIn wsL_lastLands (wsV RL 70 RX1 yX1_lastLands wsX1_lastLands) := goodIn_app (goodIn_of _ (by decide +kernel)) ggL_lastLands_X1_lastLands
theorem dL_lastLands_0 : decode cL_lastLands 0 = .ok (.aload_n 3, 1) := by decide +kernel
theorem dL_lastLands_1 : decode cL_lastLands 1 = .ok (.iconst 0, 1) := by decide +kernel
theorem dL_lastLands_2 : decode cL_lastLands 2 = .ok (.aload_n 0, 1) := by decide +kernel
theorem dL_lastLands_3 : decode cL_lastLands 3 = .ok (.iload_n 1, 1) := by decide +kernel
theorem dL_lastLands_4 : decode cL_lastLands 4 = .ok (.iload_n 2, 1) := by decide +kernel
theorem dL_lastLands_5 : decode cL_lastLands 5 = .ok (.invokevirtual 70, 3) := by decide +kernel
theorem dL_lastLands_8 : decode cL_lastLands 8 = .ok (.i2l, 1) := by decide +kernel
theorem dL_lastLands_9 : decode cL_lastLands 9 = .ok (.lastore, 1) := by decide +kernel
theorem dL_lastLands_10 : decode cL_lastLands 10 = .ok (.goto 11, 3) := by decide +kernel
theorem dL_lastLands_13 : decode cL_lastLands 13 = .ok (.astore 4, 2) := by decide +kernel
theorem dL_lastLands_15 : decode cL_lastLands 15 = .ok (.iconst 1, 1) := by decide +kernel
theorem dL_lastLands_16 : decode cL_lastLands 16 = .ok (.ireturn, 1) := by decide +kernel
theorem dL_lastLands_17 : decode cL_lastLands 17 = .ok (.astore 4, 2) := by decide +kernel
theorem dL_lastLands_19 : decode cL_lastLands 19 = .ok (.iconst 2, 1) := by decide +kernel
theorem dL_lastLands_20 : decode cL_lastLands 20 = .ok (.ireturn, 1) := by decide +kernel
theorem dL_lastLands_21 : decode cL_lastLands 21 = .ok (.iconst 0, 1) := by decide +kernel
theorem dL_lastLands_22 : decode cL_lastLands 22 = .ok (.ireturn, 1) := by decide +kernel
set_option maxRecDepth 20000 in
theorem ggL_asBeforeIn_X1_asBeforeIn : GoodIn wsL_asBeforeIn wsX1_asBeforeIn := goodIn_ca (goodIn_r _ [6, 7, 8, 9, 10, 11, 5, 12, 13, 14, 15, 16, 17, 18, 19, 20, 21, 22, 23, 24, 25, 26, 27, 28, 29, 30, 31, 32, 33, 34, 35, 36, 37, 38, 39, 40, 41, 42, 43, 44, 45, 46, 47, 48, 49, 50, 51, 52, 53, 54, 55, 56, 57, 58, 59, 60, 61, 62, 63, 64, 65, 66, 67, 68, 69, 70, 71] (by decide +kernel) (by decide +kernel)) (goodIn_sub (fun _ h => List.mem_cons_of_mem _ (List.mem_append_right _ h)) (by decide +kernel))
set_option maxRecDepth 20000 in
theorem gL_asBeforeIn_X1_asBeforeIn : GoodIn wsL_asBeforeIn (wsV RL 73 RX1 yX1_asBeforeIn wsX1_asBeforeIn) := goodIn_app (goodIn_of _ (by decide +kernel)) ggL_asBeforeIn_X1_asBeforeIn
theorem dL_asBeforeIn_0 : decode cL_asBeforeIn 0 = .ok (.aload_n 2, 1) := by decide +kernel
theorem dL_asBeforeIn_1 : decode cL_asBeforeIn 1 = .ok (.iconst 0, 1) := by decide +kernel
theorem dL_asBeforeIn_2 : decode cL_asBeforeIn 2 = .ok (.aload_n 0, 1) := by decide +kernel
theorem dL_asBeforeIn_3 : decode cL_asBeforeIn 3 = .ok (.iload_n 1, 1) := by decide +kernel
theorem dL_asBeforeIn_4 : decode cL_asBeforeIn 4 = .ok (.invokevirtual 73, 3) := by decide +kernel
theorem dL_asBeforeIn_7 : decode cL_asBeforeIn 7 = .ok (.i2l, 1) := by decide +kernel
theorem dL_asBeforeIn_8 : decode cL_asBeforeIn 8 = .ok (.lastore, 1) := by decide +kernel
theorem dL_asBeforeIn_9 : decode cL_asBeforeIn 9 = .ok (.goto 6, 3) := by decide +kernel
theorem dL_asBeforeIn_12 : decode cL_asBeforeIn 12 = .ok (.astore_n 3, 1) := by decide +kernel
theorem dL_asBeforeIn_13 : decode cL_asBeforeIn 13 = .ok (.iconst 1, 1) := by decide +kernel
theorem dL_asBeforeIn_14 : decode cL_asBeforeIn 14 = .ok (.ireturn, 1) := by decide +kernel
theorem dL_asBeforeIn_15 : decode cL_asBeforeIn 15 = .ok (.iconst 0, 1) := by decide +kernel
theorem dL_asBeforeIn_16 : decode cL_asBeforeIn 16 = .ok (.ireturn, 1) := by decide +kernel
set_option maxRecDepth 20000 in
theorem ggL_wouldRun_X1_wouldRun : GoodIn wsL_wouldRun wsX1_wouldRun := goodIn_ca (goodIn_r _ [6, 7, 8, 9, 10, 5, 11, 12, 13, 14, 15, 16, 17, 18, 19, 20, 21, 22, 23, 24, 25, 26, 27, 28, 29, 30, 31, 32, 33, 34, 35, 36, 37, 38, 39, 40, 41, 42, 43, 44, 45, 46, 47, 48, 49, 50, 51, 52, 53, 54, 55, 56, 57, 58, 59, 60, 61, 62, 63, 64, 65, 66, 67, 68, 69, 70, 71, 72, 73] (by decide +kernel) (by decide +kernel)) (goodIn_sub (fun _ h => List.mem_cons_of_mem _ (List.mem_append_right _ h)) (by decide +kernel))
set_option maxRecDepth 20000 in
theorem gL_wouldRun_X1_wouldRun : GoodIn wsL_wouldRun (wsV RL 76 RX1 yX1_wouldRun wsX1_wouldRun) := goodIn_app (goodIn_of _ (by decide +kernel)) ggL_wouldRun_X1_wouldRun
theorem dL_wouldRun_0 : decode cL_wouldRun 0 = .ok (.aload_n 2, 1) := by decide +kernel
theorem dL_wouldRun_1 : decode cL_wouldRun 1 = .ok (.iconst 0, 1) := by decide +kernel
theorem dL_wouldRun_2 : decode cL_wouldRun 2 = .ok (.aload_n 0, 1) := by decide +kernel
theorem dL_wouldRun_3 : decode cL_wouldRun 3 = .ok (.iload_n 1, 1) := by decide +kernel
theorem dL_wouldRun_4 : decode cL_wouldRun 4 = .ok (.invokevirtual 76, 3) := by decide +kernel
theorem dL_wouldRun_7 : decode cL_wouldRun 7 = .ok (.i2l, 1) := by decide +kernel
theorem dL_wouldRun_8 : decode cL_wouldRun 8 = .ok (.lastore, 1) := by decide +kernel
theorem dL_wouldRun_9 : decode cL_wouldRun 9 = .ok (.goto 6, 3) := by decide +kernel
theorem dL_wouldRun_12 : decode cL_wouldRun 12 = .ok (.astore_n 3, 1) := by decide +kernel
theorem dL_wouldRun_13 : decode cL_wouldRun 13 = .ok (.iconst 1, 1) := by decide +kernel
theorem dL_wouldRun_14 : decode cL_wouldRun 14 = .ok (.ireturn, 1) := by decide +kernel
theorem dL_wouldRun_15 : decode cL_wouldRun 15 = .ok (.iconst 0, 1) := by decide +kernel
theorem dL_wouldRun_16 : decode cL_wouldRun 16 = .ok (.ireturn, 1) := by decide +kernel

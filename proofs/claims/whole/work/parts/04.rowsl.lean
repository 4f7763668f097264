set_option maxRecDepth 20000 in
theorem ggL_setRate_X4_setRate : GoodIn wsL_setRate wsX4_setRate := goodIn_ca (goodIn_r _ [6, 7, 8, 9, 10, 11, 12, 5, 13, 14, 15, 16, 17, 18, 19, 20, 21, 22, 23, 24, 25] (by decide +kernel) (by decide +kernel)) (goodIn_sub (fun _ h => List.mem_cons_of_mem _ (List.mem_append_right _ h)) (by decide +kernel))
set_option maxRecDepth 20000 in
theorem gL_setRate_X4_setRate : GoodIn wsL_setRate (wsV RL 7 RX4 yX4_setRate wsX4_setRate) := goodIn_app (goodIn_of _ (by decide +kernel)) ggL_setRate_X4_setRate
theorem dL_setRate_0 : decode cL_setRate 0 = .ok (.aload 4, 2) := by decide +kernel
theorem dL_setRate_2 : decode cL_setRate 2 = .ok (.iconst 0, 1) := by decide +kernel
theorem dL_setRate_3 : decode cL_setRate 3 = .ok (.aload_n 0, 1) := by decide +kernel
theorem dL_setRate_4 : decode cL_setRate 4 = .ok (.iload_n 1, 1) := by decide +kernel
theorem dL_setRate_5 : decode cL_setRate 5 = .ok (.iload_n 2, 1) := by decide +kernel
theorem dL_setRate_6 : decode cL_setRate 6 = .ok (.iload_n 3, 1) := by decide +kernel
theorem dL_setRate_7 : decode cL_setRate 7 = .ok (.invokevirtual 7, 3) := by decide +kernel
theorem dL_setRate_10 : decode cL_setRate 10 = .ok (.i2l, 1) := by decide +kernel
theorem dL_setRate_11 : decode cL_setRate 11 = .ok (.lastore, 1) := by decide +kernel
theorem dL_setRate_12 : decode cL_setRate 12 = .ok (.goto 7, 3) := by decide +kernel
theorem dL_setRate_15 : decode cL_setRate 15 = .ok (.astore 5, 2) := by decide +kernel
theorem dL_setRate_17 : decode cL_setRate 17 = .ok (.iconst 1, 1) := by decide +kernel
theorem dL_setRate_18 : decode cL_setRate 18 = .ok (.ireturn, 1) := by decide +kernel
theorem dL_setRate_19 : decode cL_setRate 19 = .ok (.iconst 0, 1) := by decide +kernel
theorem dL_setRate_20 : decode cL_setRate 20 = .ok (.ireturn, 1) := by decide +kernel
set_option maxRecDepth 20000 in
theorem ggL_setBand_X4_setBand : GoodIn wsL_setBand wsX4_setBand := goodIn_ca (goodIn_r _ [6, 7, 8, 9, 10, 11, 12, 5, 13, 14, 15, 16, 17, 18, 19, 20, 21, 22] (by decide +kernel) (by decide +kernel)) (goodIn_sub (fun _ h => List.mem_cons_of_mem _ (List.mem_append_right _ h)) (by decide +kernel))
set_option maxRecDepth 20000 in
theorem gL_setBand_X4_setBand : GoodIn wsL_setBand (wsV RL 15 RX4 yX4_setBand wsX4_setBand) := goodIn_app (goodIn_of _ (by decide +kernel)) ggL_setBand_X4_setBand
theorem dL_setBand_0 : decode cL_setBand 0 = .ok (.aload_n 0, 1) := by decide +kernel
theorem dL_setBand_1 : decode cL_setBand 1 = .ok (.iload_n 1, 1) := by decide +kernel
theorem dL_setBand_2 : decode cL_setBand 2 = .ok (.iload_n 2, 1) := by decide +kernel
theorem dL_setBand_3 : decode cL_setBand 3 = .ok (.invokevirtual 15, 3) := by decide +kernel
theorem dL_setBand_6 : decode cL_setBand 6 = .ok (.goto 6, 3) := by decide +kernel
theorem dL_setBand_9 : decode cL_setBand 9 = .ok (.astore_n 3, 1) := by decide +kernel
theorem dL_setBand_10 : decode cL_setBand 10 = .ok (.iconst 1, 1) := by decide +kernel
theorem dL_setBand_11 : decode cL_setBand 11 = .ok (.ireturn, 1) := by decide +kernel
theorem dL_setBand_12 : decode cL_setBand 12 = .ok (.iconst 0, 1) := by decide +kernel
theorem dL_setBand_13 : decode cL_setBand 13 = .ok (.ireturn, 1) := by decide +kernel
set_option maxRecDepth 20000 in
theorem ggL_setShare_X4_setShare : GoodIn wsL_setShare wsX4_setShare := goodIn_ca (goodIn_r _ [6, 7, 8, 9, 10, 11, 5, 12, 13, 14, 15, 16, 17, 18, 19, 20, 21] (by decide +kernel) (by decide +kernel)) (goodIn_sub (fun _ h => List.mem_cons_of_mem _ (List.mem_append_right _ h)) (by decide +kernel))
set_option maxRecDepth 20000 in
theorem gL_setShare_X4_setShare : GoodIn wsL_setShare (wsV RL 19 RX4 yX4_setShare wsX4_setShare) := goodIn_app (goodIn_of _ (by decide +kernel)) ggL_setShare_X4_setShare
theorem dL_setShare_0 : decode cL_setShare 0 = .ok (.aload_n 3, 1) := by decide +kernel
theorem dL_setShare_1 : decode cL_setShare 1 = .ok (.iconst 0, 1) := by decide +kernel
theorem dL_setShare_2 : decode cL_setShare 2 = .ok (.aload_n 0, 1) := by decide +kernel
theorem dL_setShare_3 : decode cL_setShare 3 = .ok (.iload_n 1, 1) := by decide +kernel
theorem dL_setShare_4 : decode cL_setShare 4 = .ok (.iload_n 2, 1) := by decide +kernel
theorem dL_setShare_5 : decode cL_setShare 5 = .ok (.invokevirtual 19, 3) := by decide +kernel
theorem dL_setShare_8 : decode cL_setShare 8 = .ok (.i2l, 1) := by decide +kernel
theorem dL_setShare_9 : decode cL_setShare 9 = .ok (.lastore, 1) := by decide +kernel
theorem dL_setShare_10 : decode cL_setShare 10 = .ok (.goto 7, 3) := by decide +kernel
theorem dL_setShare_13 : decode cL_setShare 13 = .ok (.astore 4, 2) := by decide +kernel
theorem dL_setShare_15 : decode cL_setShare 15 = .ok (.iconst 1, 1) := by decide +kernel
theorem dL_setShare_16 : decode cL_setShare 16 = .ok (.ireturn, 1) := by decide +kernel
theorem dL_setShare_17 : decode cL_setShare 17 = .ok (.iconst 0, 1) := by decide +kernel
theorem dL_setShare_18 : decode cL_setShare 18 = .ok (.ireturn, 1) := by decide +kernel
set_option maxRecDepth 20000 in
theorem ggL_setFees_X4_setFees : GoodIn wsL_setFees wsX4_setFees := goodIn_ca (goodIn_r _ [6, 7, 8, 9, 10, 11, 12, 13, 14, 5, 15, 16, 17, 18, 19, 20, 21, 22, 23, 24] (by decide +kernel) (by decide +kernel)) (goodIn_sub (fun _ h => List.mem_cons_of_mem _ (List.mem_append_right _ h)) (by decide +kernel))
set_option maxRecDepth 20000 in
theorem gL_setFees_X4_setFees : GoodIn wsL_setFees (wsV RL 23 RX4 yX4_setFees wsX4_setFees) := goodIn_app (goodIn_of _ (by decide +kernel)) ggL_setFees_X4_setFees
theorem dL_setFees_0 : decode cL_setFees 0 = .ok (.aload_n 0, 1) := by decide +kernel
theorem dL_setFees_1 : decode cL_setFees 1 = .ok (.iload_n 1, 1) := by decide +kernel
theorem dL_setFees_2 : decode cL_setFees 2 = .ok (.iload_n 2, 1) := by decide +kernel
theorem dL_setFees_3 : decode cL_setFees 3 = .ok (.invokevirtual 23, 3) := by decide +kernel
theorem dL_setFees_6 : decode cL_setFees 6 = .ok (.goto 6, 3) := by decide +kernel
theorem dL_setFees_9 : decode cL_setFees 9 = .ok (.astore_n 3, 1) := by decide +kernel
theorem dL_setFees_10 : decode cL_setFees 10 = .ok (.iconst 1, 1) := by decide +kernel
theorem dL_setFees_11 : decode cL_setFees 11 = .ok (.ireturn, 1) := by decide +kernel
theorem dL_setFees_12 : decode cL_setFees 12 = .ok (.iconst 0, 1) := by decide +kernel
theorem dL_setFees_13 : decode cL_setFees 13 = .ok (.ireturn, 1) := by decide +kernel
set_option maxRecDepth 20000 in
theorem ggL_setStudent_X4_setStudent : GoodIn wsL_setStudent wsX4_setStudent := goodIn_ca (goodIn_ca (goodIn_r _ [7, 8, 9, 10, 11, 12, 13, 14, 15, 16, 6, 17, 18, 19, 20, 21, 22, 23, 24, 25, 26, 27, 28, 29, 30, 31, 32, 33, 34, 35, 36, 37, 38, 39, 40, 41, 42, 43] (by decide +kernel) (by decide +kernel)) (goodIn_sub (fun _ h => List.mem_cons_of_mem _ (List.mem_append_left _ (List.mem_append_right _ h))) (by decide +kernel))) (goodIn_sub (fun _ h => List.mem_cons_of_mem _ (List.mem_append_right _ h)) (by decide +kernel))
set_option maxRecDepth 20000 in
theorem gL_setStudent_X4_setStudent : GoodIn wsL_setStudent (wsV RL 26 RX4 yX4_setStudent wsX4_setStudent) := goodIn_app (goodIn_of _ (by decide +kernel)) ggL_setStudent_X4_setStudent
theorem dL_setStudent_0 : decode cL_setStudent 0 = .ok (.aload_n 0, 1) := by decide +kernel
theorem dL_setStudent_1 : decode cL_setStudent 1 = .ok (.iload_n 1, 1) := by decide +kernel
theorem dL_setStudent_2 : decode cL_setStudent 2 = .ok (.iload_n 2, 1) := by decide +kernel
theorem dL_setStudent_3 : decode cL_setStudent 3 = .ok (.iload_n 3, 1) := by decide +kernel
theorem dL_setStudent_4 : decode cL_setStudent 4 = .ok (.iload 4, 2) := by decide +kernel
theorem dL_setStudent_6 : decode cL_setStudent 6 = .ok (.invokevirtual 26, 3) := by decide +kernel
theorem dL_setStudent_9 : decode cL_setStudent 9 = .ok (.goto 11, 3) := by decide +kernel
theorem dL_setStudent_12 : decode cL_setStudent 12 = .ok (.astore 5, 2) := by decide +kernel
theorem dL_setStudent_14 : decode cL_setStudent 14 = .ok (.iconst 1, 1) := by decide +kernel
theorem dL_setStudent_15 : decode cL_setStudent 15 = .ok (.ireturn, 1) := by decide +kernel
theorem dL_setStudent_16 : decode cL_setStudent 16 = .ok (.astore 5, 2) := by decide +kernel
theorem dL_setStudent_18 : decode cL_setStudent 18 = .ok (.iconst 2, 1) := by decide +kernel
theorem dL_setStudent_19 : decode cL_setStudent 19 = .ok (.ireturn, 1) := by decide +kernel
theorem dL_setStudent_20 : decode cL_setStudent 20 = .ok (.iconst 0, 1) := by decide +kernel
theorem dL_setStudent_21 : decode cL_setStudent 21 = .ok (.ireturn, 1) := by decide +kernel
set_option maxRecDepth 20000 in
theorem ggL_setSponsor_X4_setSponsor : GoodIn wsL_setSponsor wsX4_setSponsor := goodIn_ca (goodIn_ca (goodIn_r _ [7, 8, 9, 10, 11, 12, 13, 14, 15, 6, 16, 17, 18, 19, 20, 21, 22, 23, 24, 25, 26, 27, 28, 29, 30, 31, 32, 33, 34, 35, 36, 37, 38, 39, 40, 41, 42] (by decide +kernel) (by decide +kernel)) (goodIn_sub (fun _ h => List.mem_cons_of_mem _ (List.mem_append_left _ (List.mem_append_right _ h))) (by decide +kernel))) (goodIn_sub (fun _ h => List.mem_cons_of_mem _ (List.mem_append_right _ h)) (by decide +kernel))
set_option maxRecDepth 20000 in
theorem gL_setSponsor_X4_setSponsor : GoodIn wsL_setSponsor (wsV RL 32 RX4 yX4_setSponsor wsX4_setSponsor) := goodIn_app (goodIn_of _ (by decide +kernel)) ggL_setSponsor_X4_setSponsor
theorem dL_setSponsor_0 : decode cL_setSponsor 0 = .ok (.aload_n 0, 1) := by decide +kernel
theorem dL_setSponsor_1 : decode cL_setSponsor 1 = .ok (.iload_n 1, 1) := by decide +kernel
theorem dL_setSponsor_2 : decode cL_setSponsor 2 = .ok (.iload_n 2, 1) := by decide +kernel
theorem dL_setSponsor_3 : decode cL_setSponsor 3 = .ok (.iload_n 3, 1) := by decide +kernel
theorem dL_setSponsor_4 : decode cL_setSponsor 4 = .ok (.invokevirtual 32, 3) := by decide +kernel
theorem dL_setSponsor_7 : decode cL_setSponsor 7 = .ok (.goto 11, 3) := by decide +kernel
theorem dL_setSponsor_10 : decode cL_setSponsor 10 = .ok (.astore 4, 2) := by decide +kernel
theorem dL_setSponsor_12 : decode cL_setSponsor 12 = .ok (.iconst 1, 1) := by decide +kernel
theorem dL_setSponsor_13 : decode cL_setSponsor 13 = .ok (.ireturn, 1) := by decide +kernel
theorem dL_setSponsor_14 : decode cL_setSponsor 14 = .ok (.astore 4, 2) := by decide +kernel
theorem dL_setSponsor_16 : decode cL_setSponsor 16 = .ok (.iconst 2, 1) := by decide +kernel
theorem dL_setSponsor_17 : decode cL_setSponsor 17 = .ok (.ireturn, 1) := by decide +kernel
theorem dL_setSponsor_18 : decode cL_setSponsor 18 = .ok (.iconst 0, 1) := by decide +kernel
theorem dL_setSponsor_19 : decode cL_setSponsor 19 = .ok (.ireturn, 1) := by decide +kernel
set_option maxRecDepth 20000 in
theorem ggL_take_X4_take : GoodIn wsL_take wsX4_take := goodIn_ca (goodIn_ca (goodIn_ca (goodIn_r _ [8, 9, 10, 11, 12, 13, 14, 15, 16, 7, 17, 18, 19, 20, 21, 22, 23, 24, 25, 26, 27, 28, 29, 30, 31, 32, 33, 34, 35, 36, 37, 38, 39, 40, 41, 42, 43, 44, 45, 46, 47, 48, 49, 50, 51, 52, 53] (by decide +kernel) (by decide +kernel)) (goodIn_sub (fun _ h => List.mem_cons_of_mem _ (List.mem_append_left _ (List.mem_append_left _ (List.mem_append_right _ h)))) (by decide +kernel))) (goodIn_sub (fun _ h => List.mem_cons_of_mem _ (List.mem_append_left _ (List.mem_append_right _ h))) (by decide +kernel))) (goodIn_sub (fun _ h => List.mem_cons_of_mem _ (List.mem_append_right _ h)) (by decide +kernel))
set_option maxRecDepth 20000 in
theorem gL_take_X4_take : GoodIn wsL_take (wsV RL 36 RX4 yX4_take wsX4_take) := goodIn_app (goodIn_of _ (by decide +kernel)) ggL_take_X4_take
theorem dL_take_0 : decode cL_take 0 = .ok (.aload_n 3, 1) := by decide +kernel
theorem dL_take_1 : decode cL_take 1 = .ok (.iconst 0, 1) := by decide +kernel
theorem dL_take_2 : decode cL_take 2 = .ok (.aload_n 0, 1) := by decide +kernel
theorem dL_take_3 : decode cL_take 3 = .ok (.iload_n 1, 1) := by decide +kernel
theorem dL_take_4 : decode cL_take 4 = .ok (.iload_n 2, 1) := by decide +kernel
theorem dL_take_5 : decode cL_take 5 = .ok (.invokevirtual 36, 3) := by decide +kernel
theorem dL_take_8 : decode cL_take 8 = .ok (.i2l, 1) := by decide +kernel
theorem dL_take_9 : decode cL_take 9 = .ok (.lastore, 1) := by decide +kernel
theorem dL_take_10 : decode cL_take 10 = .ok (.goto 15, 3) := by decide +kernel
theorem dL_take_13 : decode cL_take 13 = .ok (.astore 4, 2) := by decide +kernel
theorem dL_take_15 : decode cL_take 15 = .ok (.iconst 1, 1) := by decide +kernel
theorem dL_take_16 : decode cL_take 16 = .ok (.ireturn, 1) := by decide +kernel
theorem dL_take_17 : decode cL_take 17 = .ok (.astore 4, 2) := by decide +kernel
theorem dL_take_19 : decode cL_take 19 = .ok (.iconst 2, 1) := by decide +kernel
theorem dL_take_20 : decode cL_take 20 = .ok (.ireturn, 1) := by decide +kernel
theorem dL_take_21 : decode cL_take 21 = .ok (.astore 4, 2) := by decide +kernel
theorem dL_take_23 : decode cL_take 23 = .ok (.iconst 3, 1) := by decide +kernel
theorem dL_take_24 : decode cL_take 24 = .ok (.ireturn, 1) := by decide +kernel
theorem dL_take_25 : decode cL_take 25 = .ok (.iconst 0, 1) := by decide +kernel
theorem dL_take_26 : decode cL_take 26 = .ok (.ireturn, 1) := by decide +kernel
set_option maxRecDepth 20000 in
theorem ggL_drop_X4_drop : GoodIn wsL_drop wsX4_drop := goodIn_ca (goodIn_ca (goodIn_r _ [7, 8, 9, 10, 11, 12, 13, 14, 15, 6, 16, 17, 18, 19, 20, 21, 22, 23, 24, 25, 26, 27, 28, 29, 30, 31, 32, 33, 34, 35, 36, 37, 38, 39, 40, 41, 42, 43, 44, 45, 46, 47, 48, 49, 50, 51, 52, 53, 54, 55, 56, 57, 58, 59, 60, 61, 62, 63, 64, 65, 66, 67, 68, 69, 70, 71, 72, 73, 74, 75, 76, 77, 78, 79, 80, 81, 82, 83, 84, 85, 86] (by decide +kernel) (by decide +kernel)) (goodIn_sub (fun _ h => List.mem_cons_of_mem _ (List.mem_append_left _ (List.mem_append_right _ h))) (by decide +kernel))) (goodIn_sub (fun _ h => List.mem_cons_of_mem _ (List.mem_append_right _ h)) (by decide +kernel))
set_option maxRecDepth 20000 in
theorem gL_drop_X4_drop : GoodIn wsL_drop (wsV RL 41 RX4 yX4_drop wsX4_drop) := goodIn_app (goodIn_of _ (by decide +kernel)) ggL_drop_X4_drop
theorem dL_drop_0 : decode cL_drop 0 = .ok (.aload_n 3, 1) := by decide +kernel
theorem dL_drop_1 : decode cL_drop 1 = .ok (.iconst 0, 1) := by decide +kernel
theorem dL_drop_2 : decode cL_drop 2 = .ok (.aload_n 0, 1) := by decide +kernel
theorem dL_drop_3 : decode cL_drop 3 = .ok (.iload_n 1, 1) := by decide +kernel
theorem dL_drop_4 : decode cL_drop 4 = .ok (.iload_n 2, 1) := by decide +kernel
theorem dL_drop_5 : decode cL_drop 5 = .ok (.invokevirtual 41, 3) := by decide +kernel
theorem dL_drop_8 : decode cL_drop 8 = .ok (.i2l, 1) := by decide +kernel
theorem dL_drop_9 : decode cL_drop 9 = .ok (.lastore, 1) := by decide +kernel
theorem dL_drop_10 : decode cL_drop 10 = .ok (.goto 11, 3) := by decide +kernel
theorem dL_drop_13 : decode cL_drop 13 = .ok (.astore 4, 2) := by decide +kernel
theorem dL_drop_15 : decode cL_drop 15 = .ok (.iconst 1, 1) := by decide +kernel
theorem dL_drop_16 : decode cL_drop 16 = .ok (.ireturn, 1) := by decide +kernel
theorem dL_drop_17 : decode cL_drop 17 = .ok (.astore 4, 2) := by decide +kernel
theorem dL_drop_19 : decode cL_drop 19 = .ok (.iconst 2, 1) := by decide +kernel
theorem dL_drop_20 : decode cL_drop 20 = .ok (.ireturn, 1) := by decide +kernel
theorem dL_drop_21 : decode cL_drop 21 = .ok (.iconst 0, 1) := by decide +kernel
theorem dL_drop_22 : decode cL_drop 22 = .ok (.ireturn, 1) := by decide +kernel
set_option maxRecDepth 20000 in
theorem ggL_charge_X4_charge : GoodIn wsL_charge wsX4_charge := goodIn_ca (goodIn_ca (goodIn_r _ [7, 8, 9, 10, 11, 12, 13, 14, 15, 6, 16, 17, 18, 19, 20, 21, 22, 23, 24, 25, 26, 27, 28, 29, 30, 31, 32, 33, 34, 35, 36, 37, 38, 39, 40, 41, 42] (by decide +kernel) (by decide +kernel)) (goodIn_sub (fun _ h => List.mem_cons_of_mem _ (List.mem_append_left _ (List.mem_append_right _ h))) (by decide +kernel))) (goodIn_sub (fun _ h => List.mem_cons_of_mem _ (List.mem_append_right _ h)) (by decide +kernel))
set_option maxRecDepth 20000 in
theorem gL_charge_X4_charge : GoodIn wsL_charge (wsV RL 44 RX4 yX4_charge wsX4_charge) := goodIn_app (goodIn_of _ (by decide +kernel)) ggL_charge_X4_charge
theorem dL_charge_0 : decode cL_charge 0 = .ok (.aload 4, 2) := by decide +kernel
theorem dL_charge_2 : decode cL_charge 2 = .ok (.iconst 0, 1) := by decide +kernel
theorem dL_charge_3 : decode cL_charge 3 = .ok (.aload_n 0, 1) := by decide +kernel
theorem dL_charge_4 : decode cL_charge 4 = .ok (.iload_n 1, 1) := by decide +kernel
theorem dL_charge_5 : decode cL_charge 5 = .ok (.iload_n 2, 1) := by decide +kernel
theorem dL_charge_6 : decode cL_charge 6 = .ok (.iload_n 3, 1) := by decide +kernel
theorem dL_charge_7 : decode cL_charge 7 = .ok (.invokevirtual 44, 3) := by decide +kernel
theorem dL_charge_10 : decode cL_charge 10 = .ok (.i2l, 1) := by decide +kernel
theorem dL_charge_11 : decode cL_charge 11 = .ok (.lastore, 1) := by decide +kernel
theorem dL_charge_12 : decode cL_charge 12 = .ok (.goto 11, 3) := by decide +kernel
theorem dL_charge_15 : decode cL_charge 15 = .ok (.astore 5, 2) := by decide +kernel
theorem dL_charge_17 : decode cL_charge 17 = .ok (.iconst 1, 1) := by decide +kernel
theorem dL_charge_18 : decode cL_charge 18 = .ok (.ireturn, 1) := by decide +kernel
theorem dL_charge_19 : decode cL_charge 19 = .ok (.astore 5, 2) := by decide +kernel
theorem dL_charge_21 : decode cL_charge 21 = .ok (.iconst 2, 1) := by decide +kernel
theorem dL_charge_22 : decode cL_charge 22 = .ok (.ireturn, 1) := by decide +kernel
theorem dL_charge_23 : decode cL_charge 23 = .ok (.iconst 0, 1) := by decide +kernel
theorem dL_charge_24 : decode cL_charge 24 = .ok (.ireturn, 1) := by decide +kernel
set_option maxRecDepth 20000 in
theorem ggL_award_X4_award : GoodIn wsL_award wsX4_award := goodIn_ca (goodIn_ca (goodIn_ca (goodIn_r _ [8, 9, 10, 11, 12, 13, 14, 15, 16, 17, 7, 18, 19, 20, 21, 22, 23, 24, 25, 26, 27, 28, 29, 30, 31, 32, 33, 34, 35, 36, 37, 38, 39, 40, 41, 42, 43, 44, 45, 46, 47, 48, 49, 50, 51, 52, 53, 54, 55, 56] (by decide +kernel) (by decide +kernel)) (goodIn_sub (fun _ h => List.mem_cons_of_mem _ (List.mem_append_left _ (List.mem_append_left _ (List.mem_append_right _ h)))) (by decide +kernel))) (goodIn_sub (fun _ h => List.mem_cons_of_mem _ (List.mem_append_left _ (List.mem_append_right _ h))) (by decide +kernel))) (goodIn_sub (fun _ h => List.mem_cons_of_mem _ (List.mem_append_right _ h)) (by decide +kernel))
set_option maxRecDepth 20000 in
theorem gL_award_X4_award : GoodIn wsL_award (wsV RL 48 RX4 yX4_award wsX4_award) := goodIn_app (goodIn_of _ (by decide +kernel)) ggL_award_X4_award
theorem dL_award_0 : decode cL_award 0 = .ok (.aload 4, 2) := by decide +kernel
theorem dL_award_2 : decode cL_award 2 = .ok (.iconst 0, 1) := by decide +kernel
theorem dL_award_3 : decode cL_award 3 = .ok (.aload_n 0, 1) := by decide +kernel
theorem dL_award_4 : decode cL_award 4 = .ok (.iload_n 1, 1) := by decide +kernel
theorem dL_award_5 : decode cL_award 5 = .ok (.iload_n 2, 1) := by decide +kernel
theorem dL_award_6 : decode cL_award 6 = .ok (.iload_n 3, 1) := by decide +kernel
theorem dL_award_7 : decode cL_award 7 = .ok (.invokevirtual 48, 3) := by decide +kernel
theorem dL_award_10 : decode cL_award 10 = .ok (.i2l, 1) := by decide +kernel
theorem dL_award_11 : decode cL_award 11 = .ok (.lastore, 1) := by decide +kernel
theorem dL_award_12 : decode cL_award 12 = .ok (.goto 15, 3) := by decide +kernel
theorem dL_award_15 : decode cL_award 15 = .ok (.astore 5, 2) := by decide +kernel
theorem dL_award_17 : decode cL_award 17 = .ok (.iconst 1, 1) := by decide +kernel
theorem dL_award_18 : decode cL_award 18 = .ok (.ireturn, 1) := by decide +kernel
theorem dL_award_19 : decode cL_award 19 = .ok (.astore 5, 2) := by decide +kernel
theorem dL_award_21 : decode cL_award 21 = .ok (.iconst 2, 1) := by decide +kernel
theorem dL_award_22 : decode cL_award 22 = .ok (.ireturn, 1) := by decide +kernel
theorem dL_award_23 : decode cL_award 23 = .ok (.astore 5, 2) := by decide +kernel
theorem dL_award_25 : decode cL_award 25 = .ok (.iconst 3, 1) := by decide +kernel
theorem dL_award_26 : decode cL_award 26 = .ok (.ireturn, 1) := by decide +kernel
theorem dL_award_27 : decode cL_award 27 = .ok (.iconst 0, 1) := by decide +kernel
theorem dL_award_28 : decode cL_award 28 = .ok (.ireturn, 1) := by decide +kernel
set_option maxRecDepth 20000 in
theorem ggL_pay_X4_pay : GoodIn wsL_pay wsX4_pay := goodIn_ca (goodIn_ca (goodIn_r _ [7, 8, 9, 10, 11, 12, 13, 14, 15, 16, 6, 17, 18, 19, 20, 21, 22, 23, 24, 25, 26, 27, 28, 29, 30, 31, 32, 33, 34, 35, 36, 37, 38, 39, 40, 41, 42, 43, 44, 45, 46, 47, 48, 49, 50, 51, 52, 53, 54, 55, 56, 57, 58, 59, 60, 61, 62, 63, 64, 65, 66, 67, 68, 69, 70, 71, 72, 73, 74, 75, 76, 77, 78, 79, 80, 81, 82, 83, 84, 85, 86, 87, 88, 89, 90, 91, 92, 93, 94, 95, 96, 97, 98, 99, 100, 101, 102, 103, 104, 105, 106, 107, 108, 109, 110, 111, 112, 113, 114] (by decide +kernel) (by decide +kernel)) (goodIn_sub (fun _ h => List.mem_cons_of_mem _ (List.mem_append_left _ (List.mem_append_right _ h))) (by decide +kernel))) (goodIn_sub (fun _ h => List.mem_cons_of_mem _ (List.mem_append_right _ h)) (by decide +kernel))
set_option maxRecDepth 20000 in
theorem gL_pay_X4_pay : GoodIn wsL_pay (wsV RL 51 RX4 yX4_pay wsX4_pay) := goodIn_app (goodIn_of _ (by decide +kernel)) ggL_pay_X4_pay
theorem dL_pay_0 : decode cL_pay 0 = .ok (.aload_n 3, 1) := by decide +kernel
theorem dL_pay_1 : decode cL_pay 1 = .ok (.iconst 0, 1) := by decide +kernel
theorem dL_pay_2 : decode cL_pay 2 = .ok (.aload_n 0, 1) := by decide +kernel
theorem dL_pay_3 : decode cL_pay 3 = .ok (.iload_n 1, 1) := by decide +kernel
theorem dL_pay_4 : decode cL_pay 4 = .ok (.iload_n 2, 1) := by decide +kernel
theorem dL_pay_5 : decode cL_pay 5 = .ok (.invokevirtual 51, 3) := by decide +kernel
theorem dL_pay_8 : decode cL_pay 8 = .ok (.i2l, 1) := by decide +kernel
theorem dL_pay_9 : decode cL_pay 9 = .ok (.lastore, 1) := by decide +kernel
theorem dL_pay_10 : decode cL_pay 10 = .ok (.goto 11, 3) := by decide +kernel
theorem dL_pay_13 : decode cL_pay 13 = .ok (.astore 4, 2) := by decide +kernel
theorem dL_pay_15 : decode cL_pay 15 = .ok (.iconst 1, 1) := by decide +kernel
theorem dL_pay_16 : decode cL_pay 16 = .ok (.ireturn, 1) := by decide +kernel
theorem dL_pay_17 : decode cL_pay 17 = .ok (.astore 4, 2) := by decide +kernel
theorem dL_pay_19 : decode cL_pay 19 = .ok (.iconst 2, 1) := by decide +kernel
theorem dL_pay_20 : decode cL_pay 20 = .ok (.ireturn, 1) := by decide +kernel
theorem dL_pay_21 : decode cL_pay 21 = .ok (.iconst 0, 1) := by decide +kernel
theorem dL_pay_22 : decode cL_pay 22 = .ok (.ireturn, 1) := by decide +kernel
set_option maxRecDepth 20000 in
theorem ggL_plan_X4_plan : GoodIn wsL_plan wsX4_plan := goodIn_ca (goodIn_ca (goodIn_ca (goodIn_r _ [8, 9, 10, 11, 12, 13, 14, 15, 16, 7, 17, 18, 19, 20, 21, 22, 23, 24, 25, 26, 27, 28, 29, 30, 31, 32, 33, 34, 35, 36, 37, 38, 39, 40, 41, 42, 43, 44, 45, 46, 47, 48, 49, 50, 51, 52, 53, 54, 55, 56, 57, 58, 59, 60, 61, 62, 63, 64, 65, 66, 67, 68, 69, 70, 71, 72, 73, 74, 75, 76, 77, 78, 79, 80, 81, 82, 83, 84, 85, 86, 87, 88, 89, 90, 91, 92, 93, 94, 95, 96, 97, 98, 99, 100, 101, 102, 103, 104, 105, 106, 107, 108, 109, 110, 111, 112, 113, 114, 115, 116, 117, 118, 119, 120, 121, 122, 123, 124, 125, 126, 127, 128] (by decide +kernel) (by decide +kernel)) (goodIn_sub (fun _ h => List.mem_cons_of_mem _ (List.mem_append_left _ (List.mem_append_left _ (List.mem_append_right _ h)))) (by decide +kernel))) (goodIn_sub (fun _ h => List.mem_cons_of_mem _ (List.mem_append_left _ (List.mem_append_right _ h))) (by decide +kernel))) (goodIn_sub (fun _ h => List.mem_cons_of_mem _ (List.mem_append_right _ h)) (by decide +kernel))
set_option maxRecDepth 20000 in
theorem gL_plan_X4_plan : GoodIn wsL_plan (wsV RL 54 RX4 yX4_plan wsX4_plan) := goodIn_app (goodIn_of _ (by decide +kernel)) ggL_plan_X4_plan
theorem dL_plan_0 : decode cL_plan 0 = .ok (.aload_n 3, 1) := by decide +kernel
theorem dL_plan_1 : decode cL_plan 1 = .ok (.iconst 0, 1) := by decide +kernel
theorem dL_plan_2 : decode cL_plan 2 = .ok (.aload_n 0, 1) := by decide +kernel
theorem dL_plan_3 : decode cL_plan 3 = .ok (.iload_n 1, 1) := by decide +kernel
theorem dL_plan_4 : decode cL_plan 4 = .ok (.iload_n 2, 1) := by decide +kernel
theorem dL_plan_5 : decode cL_plan 5 = .ok (.invokevirtual 54, 3) := by decide +kernel
theorem dL_plan_8 : decode cL_plan 8 = .ok (.i2l, 1) := by decide +kernel
theorem dL_plan_9 : decode cL_plan 9 = .ok (.lastore, 1) := by decide +kernel
theorem dL_plan_10 : decode cL_plan 10 = .ok (.goto 15, 3) := by decide +kernel
theorem dL_plan_13 : decode cL_plan 13 = .ok (.astore 4, 2) := by decide +kernel
theorem dL_plan_15 : decode cL_plan 15 = .ok (.iconst 1, 1) := by decide +kernel
theorem dL_plan_16 : decode cL_plan 16 = .ok (.ireturn, 1) := by decide +kernel
theorem dL_plan_17 : decode cL_plan 17 = .ok (.astore 4, 2) := by decide +kernel
theorem dL_plan_19 : decode cL_plan 19 = .ok (.iconst 2, 1) := by decide +kernel
theorem dL_plan_20 : decode cL_plan 20 = .ok (.ireturn, 1) := by decide +kernel
theorem dL_plan_21 : decode cL_plan 21 = .ok (.astore 4, 2) := by decide +kernel
theorem dL_plan_23 : decode cL_plan 23 = .ok (.iconst 3, 1) := by decide +kernel
theorem dL_plan_24 : decode cL_plan 24 = .ok (.ireturn, 1) := by decide +kernel
theorem dL_plan_25 : decode cL_plan 25 = .ok (.iconst 0, 1) := by decide +kernel
theorem dL_plan_26 : decode cL_plan 26 = .ok (.ireturn, 1) := by decide +kernel
set_option maxRecDepth 20000 in
theorem ggL_leave_X4_leave : GoodIn wsL_leave wsX4_leave := goodIn_ca (goodIn_r _ [6, 7, 8, 9, 10, 11, 5, 12, 13, 14, 15, 16, 17, 18, 19, 20, 21, 22, 23, 24, 25, 26, 27, 28, 29, 30, 31, 32, 33, 34, 35, 36, 37, 38, 39, 40, 41, 42, 43, 44, 45, 46, 47, 48, 49, 50, 51, 52, 53, 54, 55, 56, 57, 58, 59, 60, 61, 62, 63, 64, 65, 66, 67, 68, 69, 70, 71, 72, 73, 74, 75, 76, 77, 78, 79, 80, 81, 82, 83, 84, 85, 86, 87, 88, 89, 90, 91, 92, 93, 94, 95, 96, 97, 98, 99, 100, 101, 102] (by decide +kernel) (by decide +kernel)) (goodIn_sub (fun _ h => List.mem_cons_of_mem _ (List.mem_append_right _ h)) (by decide +kernel))
set_option maxRecDepth 20000 in
theorem gL_leave_X4_leave : GoodIn wsL_leave (wsV RL 57 RX4 yX4_leave wsX4_leave) := goodIn_app (goodIn_of _ (by decide +kernel)) ggL_leave_X4_leave
theorem dL_leave_0 : decode cL_leave 0 = .ok (.aload_n 2, 1) := by decide +kernel
theorem dL_leave_1 : decode cL_leave 1 = .ok (.iconst 0, 1) := by decide +kernel
theorem dL_leave_2 : decode cL_leave 2 = .ok (.aload_n 0, 1) := by decide +kernel
theorem dL_leave_3 : decode cL_leave 3 = .ok (.iload_n 1, 1) := by decide +kernel
theorem dL_leave_4 : decode cL_leave 4 = .ok (.invokevirtual 57, 3) := by decide +kernel
theorem dL_leave_7 : decode cL_leave 7 = .ok (.i2l, 1) := by decide +kernel
theorem dL_leave_8 : decode cL_leave 8 = .ok (.lastore, 1) := by decide +kernel
theorem dL_leave_9 : decode cL_leave 9 = .ok (.goto 6, 3) := by decide +kernel
theorem dL_leave_12 : decode cL_leave 12 = .ok (.astore_n 3, 1) := by decide +kernel
theorem dL_leave_13 : decode cL_leave 13 = .ok (.iconst 1, 1) := by decide +kernel
theorem dL_leave_14 : decode cL_leave 14 = .ok (.ireturn, 1) := by decide +kernel
theorem dL_leave_15 : decode cL_leave 15 = .ok (.iconst 0, 1) := by decide +kernel
theorem dL_leave_16 : decode cL_leave 16 = .ok (.ireturn, 1) := by decide +kernel
set_option maxRecDepth 20000 in
theorem ggL_closeWeek_X4_closeWeek : GoodIn wsL_closeWeek wsX4_closeWeek := goodIn_ca (goodIn_ca (goodIn_r _ [6, 7, 8, 9, 10, 11, 12, 13, 5, 14, 15, 16, 17, 18, 19, 20, 21, 22, 23, 24, 25, 26, 27, 28, 29, 30, 31, 32, 33, 34, 35, 36, 37, 38, 39, 40, 41, 42, 43, 44, 45, 46, 47, 48, 49, 50, 51, 52, 53, 54, 55, 56, 57, 58, 59, 60, 61, 62, 63, 64, 65, 66, 67, 68, 69, 70, 71, 72, 73, 74, 75, 76, 77, 78, 79, 80, 81, 82, 83, 84, 85, 86, 87, 88, 89, 90, 91, 92, 93, 94, 95, 96, 97, 98, 99, 100, 101, 102, 103, 104, 105, 106, 107, 108, 109, 110, 111, 112, 113, 114, 115, 116, 117, 118, 119, 120, 121, 122, 123, 124, 125, 126, 127, 128, 129, 130, 131, 132, 133, 134, 135, 136, 137, 138, 139, 140, 141, 142, 143, 144, 145, 146, 147, 148, 149, 150, 151, 152, 153, 154, 155, 156, 157, 158, 159, 160, 161, 162, 163, 164, 165, 166, 167] (by decide +kernel) (by decide +kernel)) (goodIn_sub (fun _ h => List.mem_cons_of_mem _ (List.mem_append_left _ (List.mem_append_right _ h))) (by decide +kernel))) (goodIn_sub (fun _ h => List.mem_cons_of_mem _ (List.mem_append_right _ h)) (by decide +kernel))
set_option maxRecDepth 20000 in
theorem gL_closeWeek_X4_closeWeek : GoodIn wsL_closeWeek (wsV RL 61 RX4 yX4_closeWeek wsX4_closeWeek) := goodIn_app (goodIn_of _ (by decide +kernel)) ggL_closeWeek_X4_closeWeek
theorem dL_closeWeek_0 : decode cL_closeWeek 0 = .ok (.aload_n 1, 1) := by decide +kernel
theorem dL_closeWeek_1 : decode cL_closeWeek 1 = .ok (.iconst 0, 1) := by decide +kernel
theorem dL_closeWeek_2 : decode cL_closeWeek 2 = .ok (.aload_n 0, 1) := by decide +kernel
theorem dL_closeWeek_3 : decode cL_closeWeek 3 = .ok (.invokevirtual 61, 3) := by decide +kernel
theorem dL_closeWeek_6 : decode cL_closeWeek 6 = .ok (.i2l, 1) := by decide +kernel
theorem dL_closeWeek_7 : decode cL_closeWeek 7 = .ok (.lastore, 1) := by decide +kernel
theorem dL_closeWeek_8 : decode cL_closeWeek 8 = .ok (.goto 6, 3) := by decide +kernel
theorem dL_closeWeek_11 : decode cL_closeWeek 11 = .ok (.astore_n 2, 1) := by decide +kernel
theorem dL_closeWeek_12 : decode cL_closeWeek 12 = .ok (.iconst 1, 1) := by decide +kernel
theorem dL_closeWeek_13 : decode cL_closeWeek 13 = .ok (.ireturn, 1) := by decide +kernel
theorem dL_closeWeek_14 : decode cL_closeWeek 14 = .ok (.iconst 0, 1) := by decide +kernel
theorem dL_closeWeek_15 : decode cL_closeWeek 15 = .ok (.ireturn, 1) := by decide +kernel
set_option maxRecDepth 20000 in
theorem ggL_credits_X4_credits : GoodIn wsL_credits wsX4_credits := goodIn_ca (goodIn_r _ [6, 7, 8, 9, 10, 5, 11, 12, 13, 14, 15, 16, 17, 18, 19, 20, 21, 22, 23, 24, 25, 26, 27, 28, 29, 30, 31, 32, 33, 34, 35, 36, 37, 38, 39, 40, 41, 42, 43] (by decide +kernel) (by decide +kernel)) (goodIn_sub (fun _ h => List.mem_cons_of_mem _ (List.mem_append_right _ h)) (by decide +kernel))
set_option maxRecDepth 20000 in
theorem gL_credits_X4_credits : GoodIn wsL_credits (wsV RL 65 RX4 yX4_credits wsX4_credits) := goodIn_app (goodIn_of _ (by decide +kernel)) ggL_credits_X4_credits
theorem dL_credits_0 : decode cL_credits 0 = .ok (.aload_n 2, 1) := by decide +kernel
theorem dL_credits_1 : decode cL_credits 1 = .ok (.iconst 0, 1) := by decide +kernel
theorem dL_credits_2 : decode cL_credits 2 = .ok (.aload_n 0, 1) := by decide +kernel
theorem dL_credits_3 : decode cL_credits 3 = .ok (.iload_n 1, 1) := by decide +kernel
theorem dL_credits_4 : decode cL_credits 4 = .ok (.invokevirtual 65, 3) := by decide +kernel
theorem dL_credits_7 : decode cL_credits 7 = .ok (.i2l, 1) := by decide +kernel
theorem dL_credits_8 : decode cL_credits 8 = .ok (.lastore, 1) := by decide +kernel
theorem dL_credits_9 : decode cL_credits 9 = .ok (.goto 6, 3) := by decide +kernel
theorem dL_credits_12 : decode cL_credits 12 = .ok (.astore_n 3, 1) := by decide +kernel
theorem dL_credits_13 : decode cL_credits 13 = .ok (.iconst 1, 1) := by decide +kernel
theorem dL_credits_14 : decode cL_credits 14 = .ok (.ireturn, 1) := by decide +kernel
theorem dL_credits_15 : decode cL_credits 15 = .ok (.iconst 0, 1) := by decide +kernel
theorem dL_credits_16 : decode cL_credits 16 = .ok (.ireturn, 1) := by decide +kernel
set_option maxRecDepth 20000 in
theorem ggL_charged_X4_charged : GoodIn wsL_charged wsX4_charged := goodIn_ca (goodIn_ca (goodIn_r _ [7, 8, 9, 10, 11, 12, 6, 13, 14, 15, 16, 17, 18, 19, 20, 21, 22, 23, 24, 25, 26, 27, 28, 29, 30, 31, 32, 33, 34, 35, 36, 37, 38, 39, 40, 41, 42, 43, 44, 45, 46, 47, 48, 49, 50, 51, 52, 53, 54, 55, 56, 57, 58, 59, 60, 61, 62, 63, 64, 65, 66, 67, 68, 69, 70, 71, 72] (by decide +kernel) (by decide +kernel)) (goodIn_sub (fun _ h => List.mem_cons_of_mem _ (List.mem_append_left _ (List.mem_append_right _ h))) (by decide +kernel))) (goodIn_sub (fun _ h => List.mem_cons_of_mem _ (List.mem_append_right _ h)) (by decide +kernel))
set_option maxRecDepth 20000 in
theorem gL_charged_X4_charged : GoodIn wsL_charged (wsV RL 68 RX4 yX4_charged wsX4_charged) := goodIn_app (goodIn_of _ (by decide +kernel)) ggL_charged_X4_charged
theorem dL_charged_0 : decode cL_charged 0 = .ok (.aload_n 3, 1) := by decide +kernel
theorem dL_charged_1 : decode cL_charged 1 = .ok (.iconst 0, 1) := by decide +kernel
theorem dL_charged_2 : decode cL_charged 2 = .ok (.aload_n 0, 1) := by decide +kernel
theorem dL_charged_3 : decode cL_charged 3 = .ok (.iload_n 1, 1) := by decide +kernel
theorem dL_charged_4 : decode cL_charged 4 = .ok (.iload_n 2, 1) := by decide +kernel
theorem dL_charged_5 : decode cL_charged 5 = .ok (.invokevirtual 68, 3) := by decide +kernel
theorem dL_charged_8 : decode cL_charged 8 = .ok (.i2l, 1) := by decide +kernel
theorem dL_charged_9 : decode cL_charged 9 = .ok (.lastore, 1) := by decide +kernel
theorem dL_charged_10 : decode cL_charged 10 = .ok (.goto 11, 3) := by decide +kernel
theorem dL_charged_13 : decode cL_charged 13 = .ok (.astore 4, 2) := by decide +kernel
theorem dL_charged_15 : decode cL_charged 15 = .ok (.iconst 1, 1) := by decide +kernel
theorem dL_charged_16 : decode cL_charged 16 = .ok (.ireturn, 1) := by decide +kernel
theorem dL_charged_17 : decode cL_charged 17 = .ok (.astore 4, 2) := by decide +kernel
theorem dL_charged_19 : decode cL_charged 19 = .ok (.iconst 2, 1) := by decide +kernel
theorem dL_charged_20 : decode cL_charged 20 = .ok (.ireturn, 1) := by decide +kernel
theorem dL_charged_21 : decode cL_charged 21 = .ok (.iconst 0, 1) := by decide +kernel
theorem dL_charged_22 : decode cL_charged 22 = .ok (.ireturn, 1) := by decide +kernel
set_option maxRecDepth 20000 in
theorem ggL_sponsored_X4_sponsored : GoodIn wsL_sponsored wsX4_sponsored := goodIn_ca (goodIn_r _ [6, 7, 8, 9, 5, 10, 11, 12, 13, 14, 15, 16, 17, 18, 19, 20, 21, 22, 23, 24, 25, 26, 27, 28, 29, 30, 31, 32, 33, 34, 35, 36, 37, 38, 39, 40, 41, 42, 43, 44, 45, 46, 47, 48, 49, 50, 51, 52, 53, 54, 55, 56, 57, 58, 59, 60, 61, 62, 63, 64, 65, 66, 67, 68, 69, 70, 71, 72, 73, 74, 75, 76] (by decide +kernel) (by decide +kernel)) (goodIn_sub (fun _ h => List.mem_cons_of_mem _ (List.mem_append_right _ h)) (by decide +kernel))
set_option maxRecDepth 20000 in
theorem gL_sponsored_X4_sponsored : GoodIn wsL_sponsored (wsV RL 71 RX4 yX4_sponsored wsX4_sponsored) := goodIn_app (goodIn_of _ (by decide +kernel)) ggL_sponsored_X4_sponsored
theorem dL_sponsored_0 : decode cL_sponsored 0 = .ok (.aload_n 2, 1) := by decide +kernel
theorem dL_sponsored_1 : decode cL_sponsored 1 = .ok (.iconst 0, 1) := by decide +kernel
theorem dL_sponsored_2 : decode cL_sponsored 2 = .ok (.aload_n 0, 1) := by decide +kernel
theorem dL_sponsored_3 : decode cL_sponsored 3 = .ok (.iload_n 1, 1) := by decide +kernel
theorem dL_sponsored_4 : decode cL_sponsored 4 = .ok (.invokevirtual 71, 3) := by decide +kernel
theorem dL_sponsored_7 : decode cL_sponsored 7 = .ok (.i2l, 1) := by decide +kernel
theorem dL_sponsored_8 : decode cL_sponsored 8 = .ok (.lastore, 1) := by decide +kernel
theorem dL_sponsored_9 : decode cL_sponsored 9 = .ok (.goto 6, 3) := by decide +kernel
theorem dL_sponsored_12 : decode cL_sponsored 12 = .ok (.astore_n 3, 1) := by decide +kernel
theorem dL_sponsored_13 : decode cL_sponsored 13 = .ok (.iconst 1, 1) := by decide +kernel
theorem dL_sponsored_14 : decode cL_sponsored 14 = .ok (.ireturn, 1) := by decide +kernel
theorem dL_sponsored_15 : decode cL_sponsored 15 = .ok (.iconst 0, 1) := by decide +kernel
theorem dL_sponsored_16 : decode cL_sponsored 16 = .ok (.ireturn, 1) := by decide +kernel
set_option maxRecDepth 20000 in
theorem ggL_used_X4_used : GoodIn wsL_used wsX4_used := goodIn_ca (goodIn_r _ [6, 7, 8, 9, 10, 11, 12, 13, 5, 14, 15, 16, 17, 18, 19, 20, 21, 22, 23, 24, 25, 26, 27, 28, 29, 30, 31, 32, 33, 34, 35, 36, 37, 38, 39, 40, 41, 42, 43, 44, 45, 46, 47, 48, 49, 50, 51, 52, 53, 54, 55, 56, 57, 58, 59, 60, 61, 62, 63, 64, 65, 66, 67, 68, 69, 70, 71, 72, 73, 74, 75, 76, 77, 78, 79, 80, 81, 82, 83, 84, 85, 86, 87, 88, 89, 90, 91, 92, 93, 94, 95, 96, 97, 98, 99, 100, 101, 102, 103, 104] (by decide +kernel) (by decide +kernel)) (goodIn_sub (fun _ h => List.mem_cons_of_mem _ (List.mem_append_right _ h)) (by decide +kernel))
set_option maxRecDepth 20000 in
theorem gL_used_X4_used : GoodIn wsL_used (wsV RL 74 RX4 yX4_used wsX4_used) := goodIn_app (goodIn_of _ (by decide +kernel)) ggL_used_X4_used
theorem dL_used_0 : decode cL_used 0 = .ok (.aload_n 3, 1) := by decide +kernel
theorem dL_used_1 : decode cL_used 1 = .ok (.iconst 0, 1) := by decide +kernel
theorem dL_used_2 : decode cL_used 2 = .ok (.aload_n 0, 1) := by decide +kernel
theorem dL_used_3 : decode cL_used 3 = .ok (.iload_n 1, 1) := by decide +kernel
theorem dL_used_4 : decode cL_used 4 = .ok (.iload_n 2, 1) := by decide +kernel
theorem dL_used_5 : decode cL_used 5 = .ok (.invokevirtual 74, 3) := by decide +kernel
theorem dL_used_8 : decode cL_used 8 = .ok (.i2l, 1) := by decide +kernel
theorem dL_used_9 : decode cL_used 9 = .ok (.lastore, 1) := by decide +kernel
theorem dL_used_10 : decode cL_used 10 = .ok (.goto 7, 3) := by decide +kernel
theorem dL_used_13 : decode cL_used 13 = .ok (.astore 4, 2) := by decide +kernel
theorem dL_used_15 : decode cL_used 15 = .ok (.iconst 1, 1) := by decide +kernel
theorem dL_used_16 : decode cL_used 16 = .ok (.ireturn, 1) := by decide +kernel
theorem dL_used_17 : decode cL_used 17 = .ok (.iconst 0, 1) := by decide +kernel
theorem dL_used_18 : decode cL_used 18 = .ok (.ireturn, 1) := by decide +kernel
set_option maxRecDepth 20000 in
theorem ggL_amountOf_X4_amountOf : GoodIn wsL_amountOf wsX4_amountOf := goodIn_ca (goodIn_r _ [6, 7, 8, 9, 10, 11, 12, 5, 13, 14, 15, 16, 17, 18, 19, 20, 21, 22, 23, 24, 25, 26, 27, 28, 29, 30, 31, 32, 33, 34, 35, 36, 37, 38, 39, 40, 41, 42, 43, 44, 45, 46, 47, 48, 49] (by decide +kernel) (by decide +kernel)) (goodIn_sub (fun _ h => List.mem_cons_of_mem _ (List.mem_append_right _ h)) (by decide +kernel))
set_option maxRecDepth 20000 in
theorem gL_amountOf_X4_amountOf : GoodIn wsL_amountOf (wsV RL 77 RX4 yX4_amountOf wsX4_amountOf) := goodIn_app (goodIn_of _ (by decide +kernel)) ggL_amountOf_X4_amountOf
theorem dL_amountOf_0 : decode cL_amountOf 0 = .ok (.aload_n 3, 1) := by decide +kernel
theorem dL_amountOf_1 : decode cL_amountOf 1 = .ok (.iconst 0, 1) := by decide +kernel
theorem dL_amountOf_2 : decode cL_amountOf 2 = .ok (.aload_n 0, 1) := by decide +kernel
theorem dL_amountOf_3 : decode cL_amountOf 3 = .ok (.iload_n 1, 1) := by decide +kernel
theorem dL_amountOf_4 : decode cL_amountOf 4 = .ok (.iload_n 2, 1) := by decide +kernel
theorem dL_amountOf_5 : decode cL_amountOf 5 = .ok (.invokevirtual 77, 3) := by decide +kernel
theorem dL_amountOf_8 : decode cL_amountOf 8 = .ok (.i2l, 1) := by decide +kernel
theorem dL_amountOf_9 : decode cL_amountOf 9 = .ok (.lastore, 1) := by decide +kernel
theorem dL_amountOf_10 : decode cL_amountOf 10 = .ok (.goto 7, 3) := by decide +kernel
theorem dL_amountOf_13 : decode cL_amountOf 13 = .ok (.astore 4, 2) := by decide +kernel
theorem dL_amountOf_15 : decode cL_amountOf 15 = .ok (.iconst 1, 1) := by decide +kernel
theorem dL_amountOf_16 : decode cL_amountOf 16 = .ok (.ireturn, 1) := by decide +kernel
theorem dL_amountOf_17 : decode cL_amountOf 17 = .ok (.iconst 0, 1) := by decide +kernel
theorem dL_amountOf_18 : decode cL_amountOf 18 = .ok (.ireturn, 1) := by decide +kernel
set_option maxRecDepth 20000 in
theorem ggL_paid_X4_paid : GoodIn wsL_paid wsX4_paid := goodIn_ca (goodIn_r _ [6, 7, 8, 9, 10, 5, 11, 12, 13, 14, 15, 16, 17, 18, 19, 20, 21, 22, 23, 24, 25, 26, 27, 28, 29, 30, 31, 32, 33, 34] (by decide +kernel) (by decide +kernel)) (goodIn_sub (fun _ h => List.mem_cons_of_mem _ (List.mem_append_right _ h)) (by decide +kernel))
set_option maxRecDepth 20000 in
theorem gL_paid_X4_paid : GoodIn wsL_paid (wsV RL 80 RX4 yX4_paid wsX4_paid) := goodIn_app (goodIn_of _ (by decide +kernel)) ggL_paid_X4_paid
theorem dL_paid_0 : decode cL_paid 0 = .ok (.aload_n 2, 1) := by decide +kernel
theorem dL_paid_1 : decode cL_paid 1 = .ok (.iconst 0, 1) := by decide +kernel
theorem dL_paid_2 : decode cL_paid 2 = .ok (.aload_n 0, 1) := by decide +kernel
theorem dL_paid_3 : decode cL_paid 3 = .ok (.iload_n 1, 1) := by decide +kernel
theorem dL_paid_4 : decode cL_paid 4 = .ok (.invokevirtual 80, 3) := by decide +kernel
theorem dL_paid_7 : decode cL_paid 7 = .ok (.i2l, 1) := by decide +kernel
theorem dL_paid_8 : decode cL_paid 8 = .ok (.lastore, 1) := by decide +kernel
theorem dL_paid_9 : decode cL_paid 9 = .ok (.goto 6, 3) := by decide +kernel
theorem dL_paid_12 : decode cL_paid 12 = .ok (.astore_n 3, 1) := by decide +kernel
theorem dL_paid_13 : decode cL_paid 13 = .ok (.iconst 1, 1) := by decide +kernel
theorem dL_paid_14 : decode cL_paid 14 = .ok (.ireturn, 1) := by decide +kernel
theorem dL_paid_15 : decode cL_paid 15 = .ok (.iconst 0, 1) := by decide +kernel
theorem dL_paid_16 : decode cL_paid 16 = .ok (.ireturn, 1) := by decide +kernel
set_option maxRecDepth 20000 in
theorem ggL_owed_X4_owed : GoodIn wsL_owed wsX4_owed := goodIn_ca (goodIn_r _ [6, 7, 8, 9, 5, 10, 11, 12, 13, 14, 15, 16, 17, 18, 19, 20, 21, 22, 23, 24, 25, 26, 27, 28, 29, 30, 31, 32, 33, 34, 35, 36, 37, 38, 39, 40, 41, 42, 43, 44, 45, 46, 47, 48, 49, 50, 51, 52, 53, 54, 55, 56, 57, 58, 59, 60, 61, 62, 63, 64, 65, 66, 67, 68, 69, 70, 71, 72, 73, 74, 75, 76, 77, 78, 79, 80, 81, 82, 83, 84, 85, 86, 87, 88, 89, 90, 91, 92, 93, 94, 95, 96, 97, 98, 99, 100] (by decide +kernel) (by decide +kernel)) (goodIn_sub (fun _ h => List.mem_cons_of_mem _ (List.mem_append_right _ h)) (by decide +kernel))
set_option maxRecDepth 20000 in
theorem gL_owed_X4_owed : GoodIn wsL_owed (wsV RL 83 RX4 yX4_owed wsX4_owed) := goodIn_app (goodIn_of _ (by decide +kernel)) ggL_owed_X4_owed
theorem dL_owed_0 : decode cL_owed 0 = .ok (.aload_n 2, 1) := by decide +kernel
theorem dL_owed_1 : decode cL_owed 1 = .ok (.iconst 0, 1) := by decide +kernel
theorem dL_owed_2 : decode cL_owed 2 = .ok (.aload_n 0, 1) := by decide +kernel
theorem dL_owed_3 : decode cL_owed 3 = .ok (.iload_n 1, 1) := by decide +kernel
theorem dL_owed_4 : decode cL_owed 4 = .ok (.invokevirtual 83, 3) := by decide +kernel
theorem dL_owed_7 : decode cL_owed 7 = .ok (.i2l, 1) := by decide +kernel
theorem dL_owed_8 : decode cL_owed 8 = .ok (.lastore, 1) := by decide +kernel
theorem dL_owed_9 : decode cL_owed 9 = .ok (.goto 6, 3) := by decide +kernel
theorem dL_owed_12 : decode cL_owed 12 = .ok (.astore_n 3, 1) := by decide +kernel
theorem dL_owed_13 : decode cL_owed 13 = .ok (.iconst 1, 1) := by decide +kernel
theorem dL_owed_14 : decode cL_owed 14 = .ok (.ireturn, 1) := by decide +kernel
theorem dL_owed_15 : decode cL_owed 15 = .ok (.iconst 0, 1) := by decide +kernel
theorem dL_owed_16 : decode cL_owed 16 = .ok (.ireturn, 1) := by decide +kernel
set_option maxRecDepth 20000 in
theorem ggL_hasHold_X4_hasHold : GoodIn wsL_hasHold wsX4_hasHold := goodIn_ca (goodIn_r _ [6, 7, 8, 9, 10, 5, 11, 12, 13, 14, 15, 16, 17, 18, 19, 20, 21, 22, 23, 24, 25, 26, 27, 28, 29, 30, 31, 32, 33, 34, 35, 36, 37, 38, 39, 40, 41, 42, 43, 44, 45, 46, 47, 48, 49, 50, 51, 52, 53, 54, 55, 56, 57, 58, 59, 60, 61, 62, 63, 64, 65, 66, 67, 68, 69, 70, 71, 72, 73, 74, 75, 76, 77, 78, 79, 80, 81, 82, 83, 84, 85, 86, 87, 88, 89, 90, 91, 92, 93, 94, 95, 96, 97, 98, 99, 100, 101] (by decide +kernel) (by decide +kernel)) (goodIn_sub (fun _ h => List.mem_cons_of_mem _ (List.mem_append_right _ h)) (by decide +kernel))
set_option maxRecDepth 20000 in
theorem gL_hasHold_X4_hasHold : GoodIn wsL_hasHold (wsV RL 86 RX4 yX4_hasHold wsX4_hasHold) := goodIn_app (goodIn_of _ (by decide +kernel)) ggL_hasHold_X4_hasHold
theorem dL_hasHold_0 : decode cL_hasHold 0 = .ok (.aload_n 2, 1) := by decide +kernel
theorem dL_hasHold_1 : decode cL_hasHold 1 = .ok (.iconst 0, 1) := by decide +kernel
theorem dL_hasHold_2 : decode cL_hasHold 2 = .ok (.aload_n 0, 1) := by decide +kernel
theorem dL_hasHold_3 : decode cL_hasHold 3 = .ok (.iload_n 1, 1) := by decide +kernel
theorem dL_hasHold_4 : decode cL_hasHold 4 = .ok (.invokevirtual 86, 3) := by decide +kernel
theorem dL_hasHold_7 : decode cL_hasHold 7 = .ok (.ifCond .eq 7, 3) := by decide +kernel
theorem dL_hasHold_10 : decode cL_hasHold 10 = .ok (.lconst 1, 1) := by decide +kernel
theorem dL_hasHold_11 : decode cL_hasHold 11 = .ok (.goto 4, 3) := by decide +kernel
theorem dL_hasHold_14 : decode cL_hasHold 14 = .ok (.lconst 0, 1) := by decide +kernel
theorem dL_hasHold_15 : decode cL_hasHold 15 = .ok (.lastore, 1) := by decide +kernel
theorem dL_hasHold_16 : decode cL_hasHold 16 = .ok (.goto 6, 3) := by decide +kernel
theorem dL_hasHold_19 : decode cL_hasHold 19 = .ok (.astore_n 3, 1) := by decide +kernel
theorem dL_hasHold_20 : decode cL_hasHold 20 = .ok (.iconst 1, 1) := by decide +kernel
theorem dL_hasHold_21 : decode cL_hasHold 21 = .ok (.ireturn, 1) := by decide +kernel
theorem dL_hasHold_22 : decode cL_hasHold 22 = .ok (.iconst 0, 1) := by decide +kernel
theorem dL_hasHold_23 : decode cL_hasHold 23 = .ok (.ireturn, 1) := by decide +kernel
set_option maxRecDepth 20000 in
theorem ggL_law_X4_init : GoodIn wsL_law wsX4_init := goodIn_r _ [9, 10, 11, 12, 13, 14, 15, 16, 17, 18, 19, 20, 21, 22, 23, 24, 25, 26, 27, 28, 29, 30, 31, 32, 33, 34, 35, 36, 37, 38, 39, 40, 41, 42, 43, 44, 45, 46, 47, 48, 49, 50, 51, 52, 53, 54, 55, 56, 57, 58, 59, 60, 61, 62, 63, 64, 65, 66, 67, 68, 69, 70, 71, 72, 73, 601, 602, 603, 604, 605, 606, 607, 608, 609, 639, 640, 641, 642, 643, 644, 645, 646, 647, 648, 649, 650, 651, 652, 653, 654, 655, 656, 657, 658, 659, 660, 661] (by decide +kernel) (by decide +kernel)
set_option maxRecDepth 20000 in
theorem gL_law_X4_init : GoodIn wsL_law (wsX4_init) := ggL_law_X4_init
set_option maxRecDepth 20000 in
theorem ggL_law_X5_init : GoodIn wsL_law wsX5_init := goodIn_r _ [76, 77, 11, 12, 15, 78, 79, 80, 81, 82, 83, 84, 85, 86, 87, 88, 89, 90, 91, 92, 93, 94, 95, 96, 97, 98, 99, 100, 101, 102, 103, 610, 611, 612, 613, 614, 615, 616, 617, 618, 619, 620, 621, 622, 623, 624, 625, 626, 627, 628, 629, 630, 631, 632, 633, 634, 635, 636, 637, 638] (by decide +kernel) (by decide +kernel)
set_option maxRecDepth 20000 in
theorem gL_law_X5_init : GoodIn wsL_law (wsX5_init) := ggL_law_X5_init
set_option maxRecDepth 20000 in
theorem ggL_law_L_setRate : GoodIn wsL_law wsL_setRate := goodIn_ca (goodIn_r _ [107, 108, 109, 110, 111, 2, 112, 113, 114, 16, 115, 116, 117, 118, 119, 120, 121, 601, 602, 603, 604, 605, 606, 607, 608, 609] (by decide +kernel) (by decide +kernel)) (goodIn_sub (fun _ h => List.mem_append_left _ (List.mem_append_left _ (List.mem_append_right _ h))) (by decide +kernel))
set_option maxRecDepth 20000 in
theorem gL_law_L_setRate : GoodIn wsL_law (va_wsS RL 94 yL_setRate wsL_setRate) := goodIn_app (goodIn_of _ (by decide +kernel)) ggL_law_L_setRate
set_option maxRecDepth 20000 in
theorem ggL_law_X5_setRate : GoodIn wsL_law wsX5_setRate := goodIn_r _ [125, 126, 78, 127, 128, 5, 129, 130, 131, 132, 133, 134, 135, 136, 137, 610, 611, 612, 613, 614, 615, 616, 617, 618, 619, 620, 621, 622, 623, 624, 625, 626, 627, 628, 629, 630, 631, 632, 633, 634, 635, 636, 637, 638] (by decide +kernel) (by decide +kernel)
set_option maxRecDepth 20000 in
theorem gL_law_X5_setRate : GoodIn wsL_law (wsV RL 99 RX5 yX5_setRate wsX5_setRate) := goodIn_app (goodIn_of _ (by decide +kernel)) ggL_law_X5_setRate
set_option maxRecDepth 20000 in
theorem ggL_law_X5_thrown : GoodIn wsL_law wsX5_thrown := goodIn_r _ [141, 134, 610, 611, 612, 613, 614, 615, 616, 617, 618, 619, 620, 621, 622, 623, 624, 625, 626, 627, 628, 629, 630, 631, 632, 633, 634, 635, 636, 637, 638] (by decide +kernel) (by decide +kernel)
set_option maxRecDepth 20000 in
theorem gL_law_X5_thrown : GoodIn wsL_law (wsV RL 100 RX5 yX5_thrown wsX5_thrown) := goodIn_app (goodIn_of _ (by decide +kernel)) ggL_law_X5_thrown
set_option maxRecDepth 20000 in
theorem ggL_law_L_setBand : GoodIn wsL_law wsL_setBand := goodIn_ca (goodIn_r _ [144, 108, 145, 146, 147, 2, 148, 113, 114, 18, 19, 119, 120, 121, 601, 602, 603, 604, 605, 606, 607, 608, 609] (by decide +kernel) (by decide +kernel)) (goodIn_sub (fun _ h => List.mem_append_left _ (List.mem_append_left _ (List.mem_append_right _ h))) (by decide +kernel))
set_option maxRecDepth 20000 in
theorem gL_law_L_setBand : GoodIn wsL_law (va_wsS RL 103 yL_setBand wsL_setBand) := goodIn_app (goodIn_of _ (by decide +kernel)) ggL_law_L_setBand
set_option maxRecDepth 20000 in
theorem ggL_law_X5_setBand : GoodIn wsL_law wsX5_setBand := goodIn_r _ [152, 79, 80, 127, 128, 5, 129, 130, 131, 132, 133, 134, 610, 611, 612, 613, 614, 615, 616, 617, 618, 619, 620, 621, 622, 623, 624, 625, 626, 627, 628, 629, 630, 631, 632, 633, 634, 635, 636, 637, 638] (by decide +kernel) (by decide +kernel)
set_option maxRecDepth 20000 in
theorem gL_law_X5_setBand : GoodIn wsL_law (wsV RL 106 RX5 yX5_setBand wsX5_setBand) := goodIn_app (goodIn_of _ (by decide +kernel)) ggL_law_X5_setBand
set_option maxRecDepth 20000 in
theorem ggL_law_L_setShare : GoodIn wsL_law wsL_setShare := goodIn_ca (goodIn_r _ [155, 108, 156, 157, 158, 2, 159, 113, 114, 17, 119, 120, 121, 601, 602, 603, 604, 605, 606, 607, 608, 609] (by decide +kernel) (by decide +kernel)) (goodIn_sub (fun _ h => List.mem_append_left _ (List.mem_append_left _ (List.mem_append_right _ h))) (by decide +kernel))
set_option maxRecDepth 20000 in
theorem gL_law_L_setShare : GoodIn wsL_law (va_wsS RL 107 yL_setShare wsL_setShare) := goodIn_app (goodIn_of _ (by decide +kernel)) ggL_law_L_setShare
set_option maxRecDepth 20000 in
theorem ggL_law_X5_setShare : GoodIn wsL_law wsX5_setShare := goodIn_r _ [163, 81, 127, 128, 5, 129, 130, 131, 132, 133, 134, 610, 611, 612, 613, 614, 615, 616, 617, 618, 619, 620, 621, 622, 623, 624, 625, 626, 627, 628, 629, 630, 631, 632, 633, 634, 635, 636, 637, 638] (by decide +kernel) (by decide +kernel)
set_option maxRecDepth 20000 in
theorem gL_law_X5_setShare : GoodIn wsL_law (wsV RL 110 RX5 yX5_setShare wsX5_setShare) := goodIn_app (goodIn_of _ (by decide +kernel)) ggL_law_X5_setShare
set_option maxRecDepth 20000 in
theorem ggL_law_L_setFees : GoodIn wsL_law wsL_setFees := goodIn_ca (goodIn_r _ [166, 108, 167, 168, 169, 2, 170, 113, 114, 115, 171, 20, 21, 119, 120, 121, 601, 602, 603, 604, 605, 606, 607, 608, 609] (by decide +kernel) (by decide +kernel)) (goodIn_sub (fun _ h => List.mem_append_left _ (List.mem_append_left _ (List.mem_append_right _ h))) (by decide +kernel))
set_option maxRecDepth 20000 in
theorem gL_law_L_setFees : GoodIn wsL_law (va_wsS RL 111 yL_setFees wsL_setFees) := goodIn_app (goodIn_of _ (by decide +kernel)) ggL_law_L_setFees
set_option maxRecDepth 20000 in
theorem ggL_law_X5_setFees : GoodIn wsL_law wsX5_setFees := goodIn_r _ [175, 126, 176, 82, 177, 127, 128, 5, 129, 130, 131, 132, 133, 134, 610, 611, 612, 613, 614, 615, 616, 617, 618, 619, 620, 621, 622, 623, 624, 625, 626, 627, 628, 629, 630, 631, 632, 633, 634, 635, 636, 637, 638] (by decide +kernel) (by decide +kernel)
set_option maxRecDepth 20000 in
theorem gL_law_X5_setFees : GoodIn wsL_law (wsV RL 113 RX5 yX5_setFees wsX5_setFees) := goodIn_app (goodIn_of _ (by decide +kernel)) ggL_law_X5_setFees
set_option maxRecDepth 20000 in
theorem ggL_law_L_setStudent : GoodIn wsL_law wsL_setStudent := goodIn_ca (goodIn_ca (goodIn_r _ [180, 181, 108, 182, 183, 184, 2, 185, 113, 114, 171, 186, 187, 188, 189, 190, 191, 192, 193, 194, 14, 119, 120, 121, 639, 640, 641, 642, 643, 644, 645, 646, 647, 648, 649, 601, 602, 603, 604, 605, 606, 607, 608, 609] (by decide +kernel) (by decide +kernel)) (goodIn_sub (fun _ h => List.mem_append_left _ (List.mem_append_left _ (List.mem_append_right _ h))) (by decide +kernel))) (goodIn_sub (fun _ h => List.mem_append_left _ (List.mem_append_right _ h)) (by decide +kernel))
set_option maxRecDepth 20000 in
theorem gL_law_L_setStudent : GoodIn wsL_law (va_wsS RL 114 yL_setStudent wsL_setStudent) := goodIn_app (goodIn_of _ (by decide +kernel)) ggL_law_L_setStudent
set_option maxRecDepth 20000 in
theorem ggL_law_X5_setStudent : GoodIn wsL_law wsX5_setStudent := goodIn_r _ [198, 176, 83, 85, 86, 199, 200, 5, 201, 127, 128, 129, 130, 131, 132, 133, 134, 610, 611, 612, 613, 614, 615, 616, 617, 618, 619, 620, 621, 622, 623, 624, 625, 626, 627, 628, 629, 630, 631, 632, 633, 634, 635, 636, 637, 638] (by decide +kernel) (by decide +kernel)
set_option maxRecDepth 20000 in
theorem gL_law_X5_setStudent : GoodIn wsL_law (wsV RL 117 RX5 yX5_setStudent wsX5_setStudent) := goodIn_app (goodIn_of _ (by decide +kernel)) ggL_law_X5_setStudent
set_option maxRecDepth 20000 in
theorem ggL_law_L_setSponsor : GoodIn wsL_law wsL_setSponsor := goodIn_ca (goodIn_ca (goodIn_r _ [204, 181, 108, 205, 206, 207, 2, 208, 113, 114, 171, 209, 210, 189, 190, 191, 192, 193, 194, 14, 119, 120, 121, 639, 640, 641, 642, 643, 644, 645, 646, 647, 648, 649, 601, 602, 603, 604, 605, 606, 607, 608, 609] (by decide +kernel) (by decide +kernel)) (goodIn_sub (fun _ h => List.mem_append_left _ (List.mem_append_left _ (List.mem_append_right _ h))) (by decide +kernel))) (goodIn_sub (fun _ h => List.mem_append_left _ (List.mem_append_right _ h)) (by decide +kernel))
set_option maxRecDepth 20000 in
theorem gL_law_L_setSponsor : GoodIn wsL_law (va_wsS RL 118 yL_setSponsor wsL_setSponsor) := goodIn_app (goodIn_of _ (by decide +kernel)) ggL_law_L_setSponsor
set_option maxRecDepth 20000 in
theorem ggL_law_X5_setSponsor : GoodIn wsL_law wsX5_setSponsor := goodIn_r _ [214, 176, 87, 88, 199, 200, 5, 201, 127, 128, 129, 130, 131, 132, 133, 134, 610, 611, 612, 613, 614, 615, 616, 617, 618, 619, 620, 621, 622, 623, 624, 625, 626, 627, 628, 629, 630, 631, 632, 633, 634, 635, 636, 637, 638] (by decide +kernel) (by decide +kernel)
set_option maxRecDepth 20000 in
theorem gL_law_X5_setSponsor : GoodIn wsL_law (wsV RL 121 RX5 yX5_setSponsor wsX5_setSponsor) := goodIn_app (goodIn_of _ (by decide +kernel)) ggL_law_X5_setSponsor
set_option maxRecDepth 20000 in
theorem ggL_law_L_take : GoodIn wsL_law wsL_take := goodIn_ca (goodIn_ca (goodIn_ca (goodIn_r _ [217, 181, 108, 218, 219, 220, 221, 2, 222, 113, 114, 223, 224, 225, 189, 190, 191, 192, 193, 194, 14, 119, 120, 121, 226, 227, 228, 31, 229, 53, 52, 639, 640, 641, 642, 643, 644, 645, 646, 647, 648, 649, 601, 602, 603, 604, 605, 606, 607, 608, 609, 650, 651, 652] (by decide +kernel) (by decide +kernel)) (goodIn_sub (fun _ h => List.mem_append_left _ (List.mem_append_left _ (List.mem_append_right _ h))) (by decide +kernel))) (goodIn_sub (fun _ h => List.mem_append_right _ h) (by decide +kernel))) (goodIn_sub (fun _ h => List.mem_append_left _ (List.mem_append_right _ h)) (by decide +kernel))
set_option maxRecDepth 20000 in
theorem gL_law_L_take : GoodIn wsL_law (va_wsS RL 122 yL_take wsL_take) := goodIn_app (goodIn_of _ (by decide +kernel)) ggL_law_L_take
set_option maxRecDepth 20000 in
theorem ggL_law_X5_take : GoodIn wsL_law wsX5_take := goodIn_r _ [233, 89, 90, 91, 199, 200, 5, 201, 127, 128, 129, 130, 131, 132, 133, 134, 610, 611, 612, 613, 614, 615, 616, 617, 618, 619, 620, 621, 622, 623, 624, 625, 626, 627, 628, 629, 630, 631, 632, 633, 634, 635, 636, 637, 638] (by decide +kernel) (by decide +kernel)
set_option maxRecDepth 20000 in
theorem gL_law_X5_take : GoodIn wsL_law (wsV RL 124 RX5 yX5_take wsX5_take) := goodIn_app (goodIn_of _ (by decide +kernel)) ggL_law_X5_take
set_option maxRecDepth 20000 in
theorem ggL_law_L_drop : GoodIn wsL_law wsL_drop := goodIn_ca (goodIn_ca (goodIn_r _ [236, 181, 218, 237, 238, 239, 2, 240, 193, 194, 223, 224, 225, 189, 190, 191, 192, 14, 241, 242, 243, 31, 244, 53, 245, 246, 247, 248, 52, 249, 250, 251, 252, 186, 187, 253, 116, 117, 118, 254, 255, 256, 257, 16, 258, 259, 260, 261, 262, 263, 264, 265, 18, 19, 266, 267, 268, 269, 270, 271, 272, 273, 22, 17, 639, 640, 641, 642, 643, 644, 645, 646, 647, 648, 649, 601, 602, 603, 604, 605, 606, 607, 608, 609, 650, 651, 652] (by decide +kernel) (by decide +kernel)) (goodIn_sub (fun _ h => List.mem_append_left _ (List.mem_append_right _ h)) (by decide +kernel))) (goodIn_sub (fun _ h => List.mem_append_right _ h) (by decide +kernel))
set_option maxRecDepth 20000 in
theorem gL_law_L_drop : GoodIn wsL_law (va_wsS RL 125 yL_drop wsL_drop) := goodIn_app (goodIn_of _ (by decide +kernel)) ggL_law_L_drop
set_option maxRecDepth 20000 in
theorem ggL_law_X5_drop : GoodIn wsL_law wsX5_drop := goodIn_r _ [277, 89, 91, 199, 200, 5, 201, 127, 128, 129, 130, 131, 132, 133, 134, 278, 279, 280, 281, 81, 282, 283, 92, 284, 285, 286, 287, 90, 288, 289, 290, 291, 79, 80, 78, 83, 85, 135, 136, 137, 610, 611, 612, 613, 614, 615, 616, 617, 618, 619, 620, 621, 622, 623, 624, 625, 626, 627, 628, 629, 630, 631, 632, 633, 634, 635, 636, 637, 638] (by decide +kernel) (by decide +kernel)
set_option maxRecDepth 20000 in
theorem gL_law_X5_drop : GoodIn wsL_law (wsV RL 127 RX5 yX5_drop wsX5_drop) := goodIn_app (goodIn_of _ (by decide +kernel)) ggL_law_X5_drop
set_option maxRecDepth 20000 in
theorem ggL_law_L_charge : GoodIn wsL_law wsL_charge := goodIn_ca (goodIn_ca (goodIn_r _ [294, 181, 108, 295, 296, 297, 2, 298, 113, 114, 171, 299, 300, 189, 190, 191, 192, 193, 194, 14, 119, 120, 121, 639, 640, 641, 642, 643, 644, 645, 646, 647, 648, 649, 601, 602, 603, 604, 605, 606, 607, 608, 609] (by decide +kernel) (by decide +kernel)) (goodIn_sub (fun _ h => List.mem_append_left _ (List.mem_append_left _ (List.mem_append_right _ h))) (by decide +kernel))) (goodIn_sub (fun _ h => List.mem_append_left _ (List.mem_append_right _ h)) (by decide +kernel))
set_option maxRecDepth 20000 in
theorem gL_law_L_charge : GoodIn wsL_law (va_wsS RL 128 yL_charge wsL_charge) := goodIn_app (goodIn_of _ (by decide +kernel)) ggL_law_L_charge
set_option maxRecDepth 20000 in
theorem ggL_law_X5_charge : GoodIn wsL_law wsX5_charge := goodIn_r _ [304, 176, 93, 94, 199, 200, 5, 201, 127, 128, 129, 130, 131, 132, 133, 134, 305, 306, 307, 308, 92, 284, 285, 286, 287, 89, 91, 90, 288, 289, 290, 291, 79, 80, 78, 83, 85, 135, 136, 137, 610, 611, 612, 613, 614, 615, 616, 617, 618, 619, 620, 621, 622, 623, 624, 625, 626, 627, 628, 629, 630, 631, 632, 633, 634, 635, 636, 637, 638] (by decide +kernel) (by decide +kernel)
set_option maxRecDepth 20000 in
theorem gL_law_X5_charge : GoodIn wsL_law (wsV RL 131 RX5 yX5_charge wsX5_charge) := goodIn_app (goodIn_of _ (by decide +kernel)) ggL_law_X5_charge
set_option maxRecDepth 20000 in
theorem ggL_law_L_award : GoodIn wsL_law wsL_award := goodIn_ca (goodIn_ca (goodIn_ca (goodIn_r _ [311, 181, 108, 218, 312, 313, 314, 2, 315, 113, 114, 223, 224, 171, 316, 189, 190, 191, 192, 193, 194, 14, 119, 120, 121, 317, 318, 319, 35, 320, 61, 58, 59, 639, 640, 641, 642, 643, 644, 645, 646, 647, 648, 649, 601, 602, 603, 604, 605, 606, 607, 608, 609, 653, 654, 655, 656] (by decide +kernel) (by decide +kernel)) (goodIn_sub (fun _ h => List.mem_append_left _ (List.mem_append_left _ (List.mem_append_right _ h))) (by decide +kernel))) (goodIn_sub (fun _ h => List.mem_append_right _ h) (by decide +kernel))) (goodIn_sub (fun _ h => List.mem_append_left _ (List.mem_append_right _ h)) (by decide +kernel))
set_option maxRecDepth 20000 in
theorem gL_law_L_award : GoodIn wsL_law (va_wsS RL 132 yL_award wsL_award) := goodIn_app (goodIn_of _ (by decide +kernel)) ggL_law_L_award
set_option maxRecDepth 20000 in
theorem ggL_law_X5_award : GoodIn wsL_law wsX5_award := goodIn_r _ [324, 176, 95, 96, 97, 127, 128, 5, 129, 199, 200, 201, 130, 131, 132, 133, 134, 610, 611, 612, 613, 614, 615, 616, 617, 618, 619, 620, 621, 622, 623, 624, 625, 626, 627, 628, 629, 630, 631, 632, 633, 634, 635, 636, 637, 638] (by decide +kernel) (by decide +kernel)
set_option maxRecDepth 20000 in
theorem gL_law_X5_award : GoodIn wsL_law (wsV RL 134 RX5 yX5_award wsX5_award) := goodIn_app (goodIn_of _ (by decide +kernel)) ggL_law_X5_award
set_option maxRecDepth 20000 in
theorem ggL_law_L_pay : GoodIn wsL_law wsL_pay := goodIn_ca (goodIn_ca (goodIn_r _ [327, 181, 108, 328, 329, 330, 2, 331, 113, 114, 171, 332, 333, 334, 189, 190, 191, 192, 193, 194, 14, 119, 120, 121, 335, 336, 337, 338, 316, 188, 339, 340, 341, 342, 343, 344, 345, 346, 186, 187, 225, 253, 299, 300, 116, 117, 118, 254, 255, 256, 257, 16, 258, 259, 260, 31, 261, 52, 262, 263, 264, 265, 18, 19, 347, 348, 349, 350, 209, 210, 351, 352, 353, 354, 355, 356, 357, 35, 358, 58, 359, 60, 59, 639, 640, 641, 642, 643, 644, 645, 646, 647, 648, 649, 657, 658, 659, 660, 661, 601, 602, 603, 604, 605, 606, 607, 608, 609, 650, 651, 652, 653, 654, 655, 656] (by decide +kernel) (by decide +kernel)) (goodIn_sub (fun _ h => List.mem_append_left _ (List.mem_append_left _ (List.mem_append_right _ h))) (by decide +kernel))) (goodIn_sub (fun _ h => List.mem_append_left _ (List.mem_append_right _ h)) (by decide +kernel))
set_option maxRecDepth 20000 in
theorem gL_law_L_pay : GoodIn wsL_law (va_wsS RL 135 yL_pay wsL_pay) := goodIn_app (goodIn_of _ (by decide +kernel)) ggL_law_L_pay
set_option maxRecDepth 20000 in
theorem ggL_law_X5_pay : GoodIn wsL_law wsX5_pay := goodIn_r _ [363, 176, 98, 103, 199, 200, 5, 201, 127, 128, 129, 130, 131, 132, 133, 134, 364, 365, 366, 367, 368, 369, 370, 371, 305, 306, 307, 308, 92, 93, 94, 284, 285, 286, 287, 89, 91, 90, 288, 289, 290, 291, 79, 80, 78, 83, 85, 135, 136, 137, 372, 373, 374, 375, 87, 88, 376, 377, 378, 379, 380, 381, 382, 86, 95, 96, 97, 610, 611, 612, 613, 614, 615, 616, 617, 618, 619, 620, 621, 622, 623, 624, 625, 626, 627, 628, 629, 630, 631, 632, 633, 634, 635, 636, 637, 638] (by decide +kernel) (by decide +kernel)
set_option maxRecDepth 20000 in
theorem gL_law_X5_pay : GoodIn wsL_law (wsV RL 137 RX5 yX5_pay wsX5_pay) := goodIn_app (goodIn_of _ (by decide +kernel)) ggL_law_X5_pay
set_option maxRecDepth 20000 in
theorem ggL_law_L_plan : GoodIn wsL_law wsL_plan := goodIn_ca (goodIn_ca (goodIn_ca (goodIn_r _ [385, 181, 108, 218, 386, 387, 388, 2, 389, 113, 114, 223, 224, 333, 189, 190, 191, 192, 193, 194, 14, 335, 336, 337, 338, 316, 188, 332, 339, 340, 341, 342, 343, 344, 345, 346, 186, 187, 225, 253, 299, 300, 116, 117, 118, 254, 255, 256, 257, 16, 258, 259, 260, 31, 261, 52, 262, 263, 264, 265, 18, 19, 347, 348, 349, 350, 209, 210, 351, 352, 353, 354, 355, 356, 357, 35, 358, 58, 359, 60, 59, 390, 391, 392, 393, 23, 22, 394, 395, 396, 39, 397, 65, 66, 67, 68, 69, 639, 640, 641, 642, 643, 644, 645, 646, 647, 648, 649, 601, 602, 603, 604, 605, 606, 607, 608, 609, 650, 651, 652, 653, 654, 655, 656, 657, 658, 659, 660, 661] (by decide +kernel) (by decide +kernel)) (goodIn_sub (fun _ h => List.mem_append_left _ (List.mem_append_left _ (List.mem_append_right _ h))) (by decide +kernel))) (goodIn_sub (fun _ h => List.mem_append_right _ h) (by decide +kernel))) (goodIn_sub (fun _ h => List.mem_append_left _ (List.mem_append_right _ h)) (by decide +kernel))
set_option maxRecDepth 20000 in
theorem gL_law_L_plan : GoodIn wsL_law (va_wsS RL 138 yL_plan wsL_plan) := goodIn_app (goodIn_of _ (by decide +kernel)) ggL_law_L_plan
set_option maxRecDepth 20000 in
theorem ggL_law_X5_plan : GoodIn wsL_law wsX5_plan := goodIn_r _ [401, 99, 100, 101, 102, 402, 282, 103, 199, 200, 5, 201, 127, 128, 129, 364, 365, 366, 367, 98, 368, 369, 370, 371, 305, 306, 307, 308, 92, 93, 94, 284, 285, 286, 287, 89, 91, 90, 288, 289, 290, 291, 79, 80, 78, 83, 85, 135, 136, 137, 372, 373, 374, 375, 87, 88, 376, 377, 378, 379, 380, 381, 382, 86, 95, 96, 97, 130, 131, 132, 133, 134, 610, 611, 612, 613, 614, 615, 616, 617, 618, 619, 620, 621, 622, 623, 624, 625, 626, 627, 628, 629, 630, 631, 632, 633, 634, 635, 636, 637, 638] (by decide +kernel) (by decide +kernel)
set_option maxRecDepth 20000 in
theorem gL_law_X5_plan : GoodIn wsL_law (wsV RL 140 RX5 yX5_plan wsX5_plan) := goodIn_app (goodIn_of _ (by decide +kernel)) ggL_law_X5_plan
set_option maxRecDepth 20000 in
theorem ggL_law_L_leave : GoodIn wsL_law wsL_leave := goodIn_ca (goodIn_r _ [405, 181, 406, 407, 408, 2, 409, 225, 316, 189, 190, 191, 192, 193, 194, 14, 245, 246, 247, 31, 248, 52, 249, 250, 251, 252, 186, 187, 253, 116, 117, 118, 254, 255, 256, 257, 16, 258, 259, 260, 261, 262, 263, 264, 265, 18, 19, 266, 267, 268, 269, 270, 271, 272, 273, 22, 17, 410, 411, 412, 35, 413, 59, 414, 415, 416, 417, 418, 419, 420, 421, 58, 359, 352, 353, 354, 639, 640, 641, 642, 643, 644, 645, 646, 647, 648, 649, 601, 602, 603, 604, 605, 606, 607, 608, 609, 650, 651, 652, 653, 654, 655, 656] (by decide +kernel) (by decide +kernel)) (goodIn_sub (fun _ h => List.mem_append_left _ (List.mem_append_right _ h)) (by decide +kernel))
set_option maxRecDepth 20000 in
theorem gL_law_L_leave : GoodIn wsL_law (va_wsS RL 141 yL_leave wsL_leave) := goodIn_app (goodIn_of _ (by decide +kernel)) ggL_law_L_leave
set_option maxRecDepth 20000 in
theorem ggL_law_X5_leave : GoodIn wsL_law wsX5_leave := goodIn_r _ [425, 89, 91, 95, 97, 282, 96, 199, 200, 5, 201, 127, 128, 129, 130, 131, 132, 133, 134, 278, 279, 280, 281, 81, 283, 92, 284, 285, 286, 287, 90, 288, 289, 290, 291, 79, 80, 78, 83, 85, 135, 136, 137, 376, 377, 378, 610, 611, 612, 613, 614, 615, 616, 617, 618, 619, 620, 621, 622, 623, 624, 625, 626, 627, 628, 629, 630, 631, 632, 633, 634, 635, 636, 637, 638] (by decide +kernel) (by decide +kernel)
set_option maxRecDepth 20000 in
theorem gL_law_X5_leave : GoodIn wsL_law (wsV RL 144 RX5 yX5_leave wsX5_leave) := goodIn_app (goodIn_of _ (by decide +kernel)) ggL_law_X5_leave
set_option maxRecDepth 20000 in
theorem ggL_law_L_closeWeek : GoodIn wsL_law wsL_closeWeek := goodIn_ca (goodIn_ca (goodIn_r _ [428, 218, 429, 430, 431, 2, 432, 223, 224, 22, 23, 433, 434, 435, 436, 189, 190, 191, 192, 193, 194, 14, 335, 336, 337, 338, 316, 188, 332, 339, 340, 341, 342, 343, 344, 345, 346, 186, 187, 225, 253, 299, 300, 116, 117, 118, 254, 255, 256, 257, 16, 258, 259, 260, 31, 261, 52, 262, 263, 264, 265, 18, 19, 347, 348, 349, 350, 209, 210, 351, 352, 353, 354, 355, 356, 357, 35, 358, 58, 359, 60, 59, 437, 438, 439, 440, 441, 442, 25, 443, 32, 36, 46, 47, 45, 444, 445, 446, 44, 48, 447, 448, 449, 450, 53, 54, 451, 71, 72, 73, 452, 453, 454, 455, 61, 456, 457, 458, 459, 460, 333, 20, 390, 391, 392, 393, 461, 462, 463, 39, 464, 65, 66, 69, 67, 68, 601, 602, 603, 604, 605, 606, 607, 608, 609, 639, 640, 641, 642, 643, 644, 645, 646, 647, 648, 649, 650, 651, 652, 653, 654, 655, 656, 657, 658, 659, 660, 661] (by decide +kernel) (by decide +kernel)) (goodIn_sub (fun _ h => List.mem_append_right _ h) (by decide +kernel))) (goodIn_sub (fun _ h => List.mem_append_left _ (List.mem_append_right _ h)) (by decide +kernel))
set_option maxRecDepth 20000 in
theorem gL_law_L_closeWeek : GoodIn wsL_law (va_wsS RL 145 yL_closeWeek wsL_closeWeek) := goodIn_app (goodIn_of _ (by decide +kernel)) ggL_law_L_closeWeek
set_option maxRecDepth 20000 in
theorem ggL_law_X5_closeWeek : GoodIn wsL_law wsX5_closeWeek := goodIn_r _ [468, 282, 402, 130, 131, 132, 5, 133, 134, 469, 470, 471, 472, 89, 95, 87, 88, 92, 94, 93, 98, 473, 474, 475, 476, 364, 365, 366, 367, 368, 369, 370, 371, 305, 306, 307, 308, 284, 285, 286, 287, 91, 90, 288, 289, 290, 291, 79, 80, 78, 83, 85, 135, 136, 137, 372, 373, 374, 375, 376, 377, 378, 379, 380, 381, 382, 86, 96, 97, 477, 478, 479, 480, 102, 99, 103, 100, 101, 82, 127, 128, 129, 610, 611, 612, 613, 614, 615, 616, 617, 618, 619, 620, 621, 622, 623, 624, 625, 626, 627, 628, 629, 630, 631, 632, 633, 634, 635, 636, 637, 638] (by decide +kernel) (by decide +kernel)
set_option maxRecDepth 20000 in
theorem gL_law_X5_closeWeek : GoodIn wsL_law (wsV RL 148 RX5 yX5_closeWeek wsX5_closeWeek) := goodIn_app (goodIn_of _ (by decide +kernel)) ggL_law_X5_closeWeek
set_option maxRecDepth 20000 in
theorem ggL_law_X4_week : GoodIn wsL_law wsX4_week := goodIn_r _ [484, 22, 601, 602, 603, 604, 605, 606, 607, 608, 609] (by decide +kernel) (by decide +kernel)
set_option maxRecDepth 20000 in
theorem gL_law_X4_week : GoodIn wsL_law (wsV RL 149 RX4 yX4_week wsX4_week) := goodIn_app (goodIn_of _ (by decide +kernel)) ggL_law_X4_week
set_option maxRecDepth 20000 in
theorem ggL_law_X5_week : GoodIn wsL_law wsX5_week := goodIn_r _ [488, 134, 282, 610, 611, 612, 613, 614, 615, 616, 617, 618, 619, 620, 621, 622, 623, 624, 625, 626, 627, 628, 629, 630, 631, 632, 633, 634, 635, 636, 637, 638] (by decide +kernel) (by decide +kernel)
set_option maxRecDepth 20000 in
theorem gL_law_X5_week : GoodIn wsL_law (wsV RL 152 RX5 yX5_week wsX5_week) := goodIn_app (goodIn_of _ (by decide +kernel)) ggL_law_X5_week
set_option maxRecDepth 20000 in
theorem ggL_law_X4_term : GoodIn wsL_law wsX4_term := goodIn_r _ [492, 23, 601, 602, 603, 604, 605, 606, 607, 608, 609] (by decide +kernel) (by decide +kernel)
set_option maxRecDepth 20000 in
theorem gL_law_X4_term : GoodIn wsL_law (wsV RL 153 RX4 yX4_term wsX4_term) := goodIn_app (goodIn_of _ (by decide +kernel)) ggL_law_X4_term
set_option maxRecDepth 20000 in
theorem ggL_law_X5_term : GoodIn wsL_law wsX5_term := goodIn_r _ [496, 134, 402, 610, 611, 612, 613, 614, 615, 616, 617, 618, 619, 620, 621, 622, 623, 624, 625, 626, 627, 628, 629, 630, 631, 632, 633, 634, 635, 636, 637, 638] (by decide +kernel) (by decide +kernel)
set_option maxRecDepth 20000 in
theorem gL_law_X5_term : GoodIn wsL_law (wsV RL 156 RX5 yX5_term wsX5_term) := goodIn_app (goodIn_of _ (by decide +kernel)) ggL_law_X5_term
set_option maxRecDepth 20000 in
theorem ggL_law_L_credits : GoodIn wsL_law wsL_credits := goodIn_ca (goodIn_r _ [499, 181, 500, 501, 502, 2, 503, 225, 189, 190, 191, 192, 193, 194, 14, 258, 259, 260, 31, 261, 52, 639, 640, 641, 642, 643, 644, 645, 646, 647, 648, 649, 601, 602, 603, 604, 605, 606, 607, 608, 609, 650, 651, 652] (by decide +kernel) (by decide +kernel)) (goodIn_sub (fun _ h => List.mem_append_left _ (List.mem_append_right _ h)) (by decide +kernel))
set_option maxRecDepth 20000 in
theorem gL_law_L_credits : GoodIn wsL_law (va_wsS RL 157 yL_credits wsL_credits) := goodIn_app (goodIn_of _ (by decide +kernel)) ggL_law_L_credits
set_option maxRecDepth 20000 in
theorem ggL_law_X5_credits : GoodIn wsL_law wsX5_credits := goodIn_r _ [507, 199, 200, 5, 201, 127, 128, 129, 130, 131, 132, 133, 134, 284, 285, 286, 287, 89, 91, 90, 610, 611, 612, 613, 614, 615, 616, 617, 618, 619, 620, 621, 622, 623, 624, 625, 626, 627, 628, 629, 630, 631, 632, 633, 634, 635, 636, 637, 638] (by decide +kernel) (by decide +kernel)
set_option maxRecDepth 20000 in
theorem gL_law_X5_credits : GoodIn wsL_law (wsV RL 159 RX5 yX5_credits wsX5_credits) := goodIn_app (goodIn_of _ (by decide +kernel)) ggL_law_X5_credits
set_option maxRecDepth 20000 in
theorem ggL_law_L_charged : GoodIn wsL_law wsL_charged := goodIn_ca (goodIn_ca (goodIn_r _ [510, 181, 108, 511, 512, 513, 2, 514, 113, 114, 189, 190, 191, 192, 193, 194, 14, 119, 120, 121, 343, 344, 345, 346, 186, 187, 225, 253, 299, 300, 116, 117, 118, 254, 255, 256, 257, 16, 258, 259, 260, 31, 261, 52, 262, 263, 264, 265, 18, 19, 601, 602, 603, 604, 605, 606, 607, 608, 609, 639, 640, 641, 642, 643, 644, 645, 646, 647, 648, 649, 650, 651, 652] (by decide +kernel) (by decide +kernel)) (goodIn_sub (fun _ h => List.mem_append_left _ (List.mem_append_left _ (List.mem_append_right _ h))) (by decide +kernel))) (goodIn_sub (fun _ h => List.mem_append_left _ (List.mem_append_right _ h)) (by decide +kernel))
set_option maxRecDepth 20000 in
theorem gL_law_L_charged : GoodIn wsL_law (va_wsS RL 160 yL_charged wsL_charged) := goodIn_app (goodIn_of _ (by decide +kernel)) ggL_law_L_charged
set_option maxRecDepth 20000 in
theorem ggL_law_X5_charged : GoodIn wsL_law wsX5_charged := goodIn_r _ [518, 199, 200, 5, 201, 127, 128, 129, 130, 131, 132, 133, 134, 305, 306, 307, 308, 92, 93, 94, 284, 285, 286, 287, 89, 91, 90, 288, 289, 290, 291, 79, 80, 78, 83, 85, 135, 136, 137, 610, 611, 612, 613, 614, 615, 616, 617, 618, 619, 620, 621, 622, 623, 624, 625, 626, 627, 628, 629, 630, 631, 632, 633, 634, 635, 636, 637, 638] (by decide +kernel) (by decide +kernel)
set_option maxRecDepth 20000 in
theorem gL_law_X5_charged : GoodIn wsL_law (wsV RL 162 RX5 yX5_charged wsX5_charged) := goodIn_app (goodIn_of _ (by decide +kernel)) ggL_law_X5_charged
set_option maxRecDepth 20000 in
theorem ggL_law_L_sponsored : GoodIn wsL_law wsL_sponsored := goodIn_ca (goodIn_r _ [521, 181, 522, 523, 524, 2, 525, 189, 190, 191, 192, 193, 194, 14, 347, 348, 349, 350, 209, 210, 351, 352, 353, 354, 343, 344, 345, 346, 186, 187, 225, 253, 299, 300, 116, 117, 118, 254, 255, 256, 257, 16, 258, 259, 260, 31, 261, 52, 262, 263, 264, 265, 18, 19, 601, 602, 603, 604, 605, 606, 607, 608, 609, 639, 640, 641, 642, 643, 644, 645, 646, 647, 648, 649, 650, 651, 652] (by decide +kernel) (by decide +kernel)) (goodIn_sub (fun _ h => List.mem_append_left _ (List.mem_append_right _ h)) (by decide +kernel))
set_option maxRecDepth 20000 in
theorem gL_law_L_sponsored : GoodIn wsL_law (va_wsS RL 163 yL_sponsored wsL_sponsored) := goodIn_app (goodIn_of _ (by decide +kernel)) ggL_law_L_sponsored
set_option maxRecDepth 20000 in
theorem ggL_law_X5_sponsored : GoodIn wsL_law wsX5_sponsored := goodIn_r _ [529, 199, 200, 5, 201, 127, 128, 129, 130, 131, 132, 133, 134, 372, 373, 374, 375, 87, 88, 305, 306, 307, 308, 92, 93, 94, 284, 285, 286, 287, 89, 91, 90, 288, 289, 290, 291, 79, 80, 78, 83, 85, 135, 136, 137, 376, 377, 378, 610, 611, 612, 613, 614, 615, 616, 617, 618, 619, 620, 621, 622, 623, 624, 625, 626, 627, 628, 629, 630, 631, 632, 633, 634, 635, 636, 637, 638] (by decide +kernel) (by decide +kernel)
set_option maxRecDepth 20000 in
theorem gL_law_X5_sponsored : GoodIn wsL_law (wsV RL 165 RX5 yX5_sponsored wsX5_sponsored) := goodIn_app (goodIn_of _ (by decide +kernel)) ggL_law_X5_sponsored
set_option maxRecDepth 20000 in
theorem ggL_law_L_used : GoodIn wsL_law wsL_used := goodIn_ca (goodIn_r _ [532, 181, 533, 534, 535, 2, 536, 193, 194, 316, 188, 189, 190, 191, 192, 14, 537, 538, 539, 35, 540, 61, 339, 340, 341, 342, 343, 344, 345, 346, 186, 187, 225, 253, 299, 300, 116, 117, 118, 254, 255, 256, 257, 16, 258, 259, 260, 31, 261, 52, 262, 263, 264, 265, 18, 19, 347, 348, 349, 350, 209, 210, 351, 352, 353, 354, 355, 356, 357, 358, 58, 359, 60, 59, 541, 542, 543, 544, 639, 640, 641, 642, 643, 644, 645, 646, 647, 648, 649, 601, 602, 603, 604, 605, 606, 607, 608, 609, 653, 654, 655, 656, 650, 651, 652] (by decide +kernel) (by decide +kernel)) (goodIn_sub (fun _ h => List.mem_append_left _ (List.mem_append_right _ h)) (by decide +kernel))
set_option maxRecDepth 20000 in
theorem gL_law_L_used : GoodIn wsL_law (va_wsS RL 166 yL_used wsL_used) := goodIn_app (goodIn_of _ (by decide +kernel)) ggL_law_L_used
set_option maxRecDepth 20000 in
theorem ggL_law_X5_used : GoodIn wsL_law wsX5_used := goodIn_r _ [548, 549, 550, 551, 5, 552, 95, 199, 200, 201, 127, 128, 129, 130, 131, 132, 133, 134, 379, 380, 381, 382, 86, 96, 97, 368, 369, 370, 371, 305, 306, 307, 308, 92, 93, 94, 284, 285, 286, 287, 89, 91, 90, 288, 289, 290, 291, 79, 80, 78, 83, 85, 135, 136, 137, 372, 373, 374, 375, 87, 88, 376, 377, 378, 610, 611, 612, 613, 614, 615, 616, 617, 618, 619, 620, 621, 622, 623, 624, 625, 626, 627, 628, 629, 630, 631, 632, 633, 634, 635, 636, 637, 638] (by decide +kernel) (by decide +kernel)
set_option maxRecDepth 20000 in
theorem gL_law_X5_used : GoodIn wsL_law (wsV RL 168 RX5 yX5_used wsX5_used) := goodIn_app (goodIn_of _ (by decide +kernel)) ggL_law_X5_used
set_option maxRecDepth 20000 in
theorem ggL_law_L_amountOf : GoodIn wsL_law wsL_amountOf := goodIn_ca (goodIn_r _ [555, 181, 556, 557, 558, 2, 559, 193, 194, 316, 189, 190, 191, 192, 14, 537, 538, 539, 35, 540, 61, 560, 561, 562, 563, 59, 639, 640, 641, 642, 643, 644, 645, 646, 647, 648, 649, 601, 602, 603, 604, 605, 606, 607, 608, 609, 653, 654, 655, 656] (by decide +kernel) (by decide +kernel)) (goodIn_sub (fun _ h => List.mem_append_left _ (List.mem_append_right _ h)) (by decide +kernel))
set_option maxRecDepth 20000 in
theorem gL_law_L_amountOf : GoodIn wsL_law (va_wsS RL 169 yL_amountOf wsL_amountOf) := goodIn_app (goodIn_of _ (by decide +kernel)) ggL_law_L_amountOf
set_option maxRecDepth 20000 in
theorem ggL_law_X5_amountOf : GoodIn wsL_law wsX5_amountOf := goodIn_r _ [567, 97, 549, 550, 551, 5, 552, 95, 199, 200, 201, 127, 128, 129, 130, 131, 132, 133, 134, 610, 611, 612, 613, 614, 615, 616, 617, 618, 619, 620, 621, 622, 623, 624, 625, 626, 627, 628, 629, 630, 631, 632, 633, 634, 635, 636, 637, 638] (by decide +kernel) (by decide +kernel)
set_option maxRecDepth 20000 in
theorem gL_law_X5_amountOf : GoodIn wsL_law (wsV RL 171 RX5 yX5_amountOf wsX5_amountOf) := goodIn_app (goodIn_of _ (by decide +kernel)) ggL_law_X5_amountOf
set_option maxRecDepth 20000 in
theorem ggL_law_L_paid : GoodIn wsL_law wsL_paid := goodIn_ca (goodIn_r _ [570, 181, 571, 572, 573, 2, 574, 332, 189, 190, 191, 192, 193, 194, 14, 639, 640, 641, 642, 643, 644, 645, 646, 647, 648, 649, 601, 602, 603, 604, 605, 606, 607, 608, 609] (by decide +kernel) (by decide +kernel)) (goodIn_sub (fun _ h => List.mem_append_left _ (List.mem_append_right _ h)) (by decide +kernel))
set_option maxRecDepth 20000 in
theorem gL_law_L_paid : GoodIn wsL_law (va_wsS RL 172 yL_paid wsL_paid) := goodIn_app (goodIn_of _ (by decide +kernel)) ggL_law_L_paid
set_option maxRecDepth 20000 in
theorem ggL_law_X5_paid : GoodIn wsL_law wsX5_paid := goodIn_r _ [578, 98, 199, 200, 5, 201, 127, 128, 129, 130, 131, 132, 133, 134, 610, 611, 612, 613, 614, 615, 616, 617, 618, 619, 620, 621, 622, 623, 624, 625, 626, 627, 628, 629, 630, 631, 632, 633, 634, 635, 636, 637, 638] (by decide +kernel) (by decide +kernel)
set_option maxRecDepth 20000 in
theorem gL_law_X5_paid : GoodIn wsL_law (wsV RL 174 RX5 yX5_paid wsX5_paid) := goodIn_app (goodIn_of _ (by decide +kernel)) ggL_law_X5_paid
set_option maxRecDepth 20000 in
theorem ggL_law_L_owed : GoodIn wsL_law wsL_owed := goodIn_ca (goodIn_r _ [581, 181, 582, 583, 584, 2, 585, 189, 190, 191, 192, 193, 194, 14, 335, 336, 337, 338, 316, 188, 332, 339, 340, 341, 342, 343, 344, 345, 346, 186, 187, 225, 253, 299, 300, 116, 117, 118, 254, 255, 256, 257, 16, 258, 259, 260, 31, 261, 52, 262, 263, 264, 265, 18, 19, 347, 348, 349, 350, 209, 210, 351, 352, 353, 354, 355, 356, 357, 35, 358, 58, 359, 60, 59, 601, 602, 603, 604, 605, 606, 607, 608, 609, 639, 640, 641, 642, 643, 644, 645, 646, 647, 648, 649, 650, 651, 652, 653, 654, 655, 656] (by decide +kernel) (by decide +kernel)) (goodIn_sub (fun _ h => List.mem_append_left _ (List.mem_append_right _ h)) (by decide +kernel))
set_option maxRecDepth 20000 in
theorem gL_law_L_owed : GoodIn wsL_law (va_wsS RL 175 yL_owed wsL_owed) := goodIn_app (goodIn_of _ (by decide +kernel)) ggL_law_L_owed
set_option maxRecDepth 20000 in
theorem ggL_law_X5_owed : GoodIn wsL_law wsX5_owed := goodIn_r _ [589, 199, 200, 5, 201, 127, 128, 129, 130, 131, 132, 133, 134, 364, 365, 366, 367, 98, 368, 369, 370, 371, 305, 306, 307, 308, 92, 93, 94, 284, 285, 286, 287, 89, 91, 90, 288, 289, 290, 291, 79, 80, 78, 83, 85, 135, 136, 137, 372, 373, 374, 375, 87, 88, 376, 377, 378, 379, 380, 381, 382, 86, 95, 96, 97, 610, 611, 612, 613, 614, 615, 616, 617, 618, 619, 620, 621, 622, 623, 624, 625, 626, 627, 628, 629, 630, 631, 632, 633, 634, 635, 636, 637, 638] (by decide +kernel) (by decide +kernel)
set_option maxRecDepth 20000 in
theorem gL_law_X5_owed : GoodIn wsL_law (wsV RL 177 RX5 yX5_owed wsX5_owed) := goodIn_app (goodIn_of _ (by decide +kernel)) ggL_law_X5_owed
set_option maxRecDepth 20000 in
theorem ggL_law_L_hasHold : GoodIn wsL_law wsL_hasHold := goodIn_ca (goodIn_r _ [592, 181, 593, 594, 595, 2, 596, 21, 189, 190, 191, 192, 193, 194, 14, 335, 336, 337, 338, 316, 188, 332, 339, 340, 341, 342, 343, 344, 345, 346, 186, 187, 225, 253, 299, 300, 116, 117, 118, 254, 255, 256, 257, 16, 258, 259, 260, 31, 261, 52, 262, 263, 264, 265, 18, 19, 347, 348, 349, 350, 209, 210, 351, 352, 353, 354, 355, 356, 357, 35, 358, 58, 359, 60, 59, 601, 602, 603, 604, 605, 606, 607, 608, 609, 639, 640, 641, 642, 643, 644, 645, 646, 647, 648, 649, 650, 651, 652, 653, 654, 655, 656] (by decide +kernel) (by decide +kernel)) (goodIn_sub (fun _ h => List.mem_append_left _ (List.mem_append_right _ h)) (by decide +kernel))
set_option maxRecDepth 20000 in
theorem gL_law_L_hasHold : GoodIn wsL_law (va_wsS RL 178 yL_hasHold wsL_hasHold) := goodIn_app (goodIn_of _ (by decide +kernel)) ggL_law_L_hasHold
set_option maxRecDepth 20000 in
theorem ggL_law_X5_hasHold : GoodIn wsL_law wsX5_hasHold := goodIn_r _ [600, 177, 199, 200, 5, 201, 127, 128, 129, 130, 131, 132, 133, 134, 364, 365, 366, 367, 98, 368, 369, 370, 371, 305, 306, 307, 308, 92, 93, 94, 284, 285, 286, 287, 89, 91, 90, 288, 289, 290, 291, 79, 80, 78, 83, 85, 135, 136, 137, 372, 373, 374, 375, 87, 88, 376, 377, 378, 379, 380, 381, 382, 86, 95, 96, 97, 610, 611, 612, 613, 614, 615, 616, 617, 618, 619, 620, 621, 622, 623, 624, 625, 626, 627, 628, 629, 630, 631, 632, 633, 634, 635, 636, 637, 638] (by decide +kernel) (by decide +kernel)
set_option maxRecDepth 20000 in
theorem gL_law_X5_hasHold : GoodIn wsL_law (wsV RL 180 RX5 yX5_hasHold wsX5_hasHold) := goodIn_app (goodIn_of _ (by decide +kernel)) ggL_law_X5_hasHold

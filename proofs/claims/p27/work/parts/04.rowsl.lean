theorem dL_cell_0 : decode cL_cell 0 = .ok (.iload_n 1, 1) := by decide +kernel
theorem dL_cell_1 : decode cL_cell 1 = .ok (.aload_n 0, 1) := by decide +kernel
theorem dL_cell_2 : decode cL_cell 2 = .ok (.arraylength, 1) := by decide +kernel
theorem dL_cell_3 : decode cL_cell 3 = .ok (.if_icmp .ge 9, 3) := by decide +kernel
theorem dL_cell_6 : decode cL_cell 6 = .ok (.aload_n 0, 1) := by decide +kernel
theorem dL_cell_7 : decode cL_cell 7 = .ok (.iload_n 1, 1) := by decide +kernel
theorem dL_cell_8 : decode cL_cell 8 = .ok (.iaload, 1) := by decide +kernel
theorem dL_cell_9 : decode cL_cell 9 = .ok (.goto 18, 3) := by decide +kernel
theorem dL_cell_12 : decode cL_cell 12 = .ok (.sipush 7919, 3) := by decide +kernel
theorem dL_cell_15 : decode cL_cell 15 = .ok (.iload_n 1, 1) := by decide +kernel
theorem dL_cell_16 : decode cL_cell 16 = .ok (.sipush 659, 3) := by decide +kernel
theorem dL_cell_19 : decode cL_cell 19 = .ok (.iadd, 1) := by decide +kernel
theorem dL_cell_20 : decode cL_cell 20 = .ok (.imul, 1) := by decide +kernel
theorem dL_cell_21 : decode cL_cell 21 = .ok (.iload_n 1, 1) := by decide +kernel
theorem dL_cell_22 : decode cL_cell 22 = .ok (.sipush 3019, 3) := by decide +kernel
theorem dL_cell_25 : decode cL_cell 25 = .ok (.iadd, 1) := by decide +kernel
theorem dL_cell_26 : decode cL_cell 26 = .ok (.imul, 1) := by decide +kernel
theorem dL_cell_27 : decode cL_cell 27 = .ok (.ireturn, 1) := by decide +kernel
theorem dL_low_0 : decode cL_low 0 = .ok (.iload_n 0, 1) := by decide +kernel
theorem dL_low_1 : decode cL_low 1 = .ok (.ldc 7, 2) := by decide +kernel
theorem dL_low_3 : decode cL_low 3 = .ok (.iand, 1) := by decide +kernel
theorem dL_low_4 : decode cL_low 4 = .ok (.iload_n 1, 1) := by decide +kernel
theorem dL_low_5 : decode cL_low 5 = .ok (.irem, 1) := by decide +kernel
theorem dL_low_6 : decode cL_low 6 = .ok (.ireturn, 1) := by decide +kernel
set_option maxRecDepth 20000 in
theorem ggL_does_X4_setRate : GoodIn wsL_does wsX4_setRate := goodIn_ca (goodIn_r _ [9, 10, 11, 12, 13, 14, 15, 8, 16, 17, 18, 19, 249, 250, 251, 252, 253, 254, 255, 256, 257] (by decide +kernel) (by decide +kernel)) (goodIn_sub (fun _ h => List.mem_cons_of_mem _ (List.mem_append_left _ (List.mem_append_left _ (List.mem_append_right _ h)))) (by decide +kernel))
set_option maxRecDepth 20000 in
theorem gL_does_X4_setRate : GoodIn wsL_does (wsV RL 8 RX4 yX4_setRate wsX4_setRate) := goodIn_app (goodIn_of _ (by decide +kernel)) ggL_does_X4_setRate
set_option maxRecDepth 20000 in
theorem ggL_does_L_sets : GoodIn wsL_does wsL_sets := goodIn_ca (goodIn_ca (goodIn_r _ [23, 24, 25, 26, 8, 27, 10, 11, 28, 29, 17, 18, 19, 30, 31, 32, 33, 13, 34, 35, 36, 37, 38, 39, 40, 41, 42, 43, 44, 45, 46, 47, 48, 49, 50, 51, 52, 53, 54, 55, 56, 249, 250, 251, 252, 253, 254, 255, 256, 257, 258, 259, 260, 261, 262, 263, 264, 265, 266, 267, 268] (by decide +kernel) (by decide +kernel)) (goodIn_sub (fun _ h => List.mem_cons_of_mem _ (List.mem_append_left _ (List.mem_append_left _ (List.mem_append_right _ h)))) (by decide +kernel))) (goodIn_sub (fun _ h => List.mem_cons_of_mem _ (List.mem_append_left _ (List.mem_append_right _ h))) (by decide +kernel))
set_option maxRecDepth 20000 in
theorem gL_does_L_sets : GoodIn wsL_does (va_wsS RL 14 yL_sets wsL_sets) := goodIn_app (goodIn_of _ (by decide +kernel)) ggL_does_L_sets
set_option maxRecDepth 20000 in
theorem ggL_does_X4_setShare : GoodIn wsL_does wsX4_setShare := goodIn_ca (goodIn_r _ [60, 10, 11, 61, 17, 18, 8, 19, 249, 250, 251, 252, 253, 254, 255, 256, 257] (by decide +kernel) (by decide +kernel)) (goodIn_sub (fun _ h => List.mem_cons_of_mem _ (List.mem_append_left _ (List.mem_append_left _ (List.mem_append_right _ h)))) (by decide +kernel))
set_option maxRecDepth 20000 in
theorem gL_does_X4_setShare : GoodIn wsL_does (wsV RL 20 RX4 yX4_setShare wsX4_setShare) := goodIn_app (goodIn_of _ (by decide +kernel)) ggL_does_X4_setShare
set_option maxRecDepth 20000 in
theorem ggL_does_X4_take : GoodIn wsL_does wsX4_take := goodIn_ca (goodIn_ca (goodIn_ca (goodIn_r _ [65, 10, 11, 66, 67, 68, 44, 45, 46, 8, 47, 48, 49, 50, 17, 18, 19, 69, 70, 71, 72, 73, 74, 75, 258, 259, 260, 261, 262, 263, 264, 265, 266, 267, 268, 249, 250, 251, 252, 253, 254, 255, 256, 257, 269, 270, 271] (by decide +kernel) (by decide +kernel)) (goodIn_sub (fun _ h => List.mem_cons_of_mem _ (List.mem_append_left _ (List.mem_append_left _ (List.mem_append_right _ h)))) (by decide +kernel))) (goodIn_sub (fun _ h => List.mem_cons_of_mem _ (List.mem_append_right _ h)) (by decide +kernel))) (goodIn_sub (fun _ h => List.mem_cons_of_mem _ (List.mem_append_left _ (List.mem_append_right _ h))) (by decide +kernel))
set_option maxRecDepth 20000 in
theorem gL_does_X4_take : GoodIn wsL_does (wsV RL 24 RX4 yX4_take wsX4_take) := goodIn_app (goodIn_of _ (by decide +kernel)) ggL_does_X4_take
set_option maxRecDepth 20000 in
theorem ggL_does_X4_drop : GoodIn wsL_does wsX4_drop := goodIn_ca (goodIn_ca (goodIn_r _ [79, 48, 49, 66, 67, 68, 44, 45, 46, 8, 47, 50, 80, 81, 82, 72, 83, 74, 84, 85, 86, 87, 75, 88, 89, 90, 91, 41, 42, 92, 14, 15, 16, 93, 94, 95, 96, 12, 97, 98, 99, 100, 101, 102, 103, 104, 28, 29, 105, 106, 107, 108, 109, 110, 111, 112, 113, 61, 258, 259, 260, 261, 262, 263, 264, 265, 266, 267, 268, 249, 250, 251, 252, 253, 254, 255, 256, 257, 269, 270, 271] (by decide +kernel) (by decide +kernel)) (goodIn_sub (fun _ h => List.mem_cons_of_mem _ (List.mem_append_left _ (List.mem_append_right _ h))) (by decide +kernel))) (goodIn_sub (fun _ h => List.mem_cons_of_mem _ (List.mem_append_right _ h)) (by decide +kernel))
set_option maxRecDepth 20000 in
theorem gL_does_X4_drop : GoodIn wsL_does (wsV RL 27 RX4 yX4_drop wsX4_drop) := goodIn_app (goodIn_of _ (by decide +kernel)) ggL_does_X4_drop
set_option maxRecDepth 20000 in
theorem ggL_does_X4_charge : GoodIn wsL_does wsX4_charge := goodIn_ca (goodIn_ca (goodIn_r _ [117, 10, 11, 34, 118, 119, 44, 45, 46, 8, 47, 48, 49, 50, 17, 18, 19, 258, 259, 260, 261, 262, 263, 264, 265, 266, 267, 268, 249, 250, 251, 252, 253, 254, 255, 256, 257] (by decide +kernel) (by decide +kernel)) (goodIn_sub (fun _ h => List.mem_cons_of_mem _ (List.mem_append_left _ (List.mem_append_left _ (List.mem_append_right _ h)))) (by decide +kernel))) (goodIn_sub (fun _ h => List.mem_cons_of_mem _ (List.mem_append_left _ (List.mem_append_right _ h))) (by decide +kernel))
set_option maxRecDepth 20000 in
theorem gL_does_X4_charge : GoodIn wsL_does (wsV RL 30 RX4 yX4_charge wsX4_charge) := goodIn_app (goodIn_of _ (by decide +kernel)) ggL_does_X4_charge
set_option maxRecDepth 20000 in
theorem ggL_does_X4_award : GoodIn wsL_does wsX4_award := goodIn_ca (goodIn_ca (goodIn_ca (goodIn_r _ [123, 10, 11, 66, 67, 34, 124, 44, 45, 46, 8, 47, 48, 49, 50, 17, 18, 19, 125, 126, 127, 128, 129, 130, 131, 132, 258, 259, 260, 261, 262, 263, 264, 265, 266, 267, 268, 249, 250, 251, 252, 253, 254, 255, 256, 257, 272, 273, 274, 275] (by decide +kernel) (by decide +kernel)) (goodIn_sub (fun _ h => List.mem_cons_of_mem _ (List.mem_append_left _ (List.mem_append_left _ (List.mem_append_right _ h)))) (by decide +kernel))) (goodIn_sub (fun _ h => List.mem_cons_of_mem _ (List.mem_append_right _ h)) (by decide +kernel))) (goodIn_sub (fun _ h => List.mem_cons_of_mem _ (List.mem_append_left _ (List.mem_append_right _ h))) (by decide +kernel))
set_option maxRecDepth 20000 in
theorem gL_does_X4_award : GoodIn wsL_does (wsV RL 34 RX4 yX4_award wsX4_award) := goodIn_app (goodIn_of _ (by decide +kernel)) ggL_does_X4_award
set_option maxRecDepth 20000 in
theorem ggL_does_X4_pay : GoodIn wsL_does wsX4_pay := goodIn_ca (goodIn_ca (goodIn_r _ [136, 10, 11, 34, 137, 138, 139, 44, 45, 46, 8, 47, 48, 49, 50, 17, 18, 19, 140, 141, 142, 143, 124, 43, 144, 145, 146, 147, 148, 149, 150, 151, 41, 42, 68, 92, 118, 119, 14, 15, 16, 93, 94, 95, 96, 12, 97, 98, 99, 72, 100, 75, 101, 102, 103, 104, 28, 29, 152, 153, 154, 155, 55, 56, 156, 157, 158, 159, 160, 161, 162, 128, 163, 131, 164, 165, 132, 258, 259, 260, 261, 262, 263, 264, 265, 266, 267, 268, 276, 277, 278, 279, 280, 249, 250, 251, 252, 253, 254, 255, 256, 257, 269, 270, 271, 272, 273, 274, 275] (by decide +kernel) (by decide +kernel)) (goodIn_sub (fun _ h => List.mem_cons_of_mem _ (List.mem_append_left _ (List.mem_append_left _ (List.mem_append_right _ h)))) (by decide +kernel))) (goodIn_sub (fun _ h => List.mem_cons_of_mem _ (List.mem_append_left _ (List.mem_append_right _ h))) (by decide +kernel))
set_option maxRecDepth 20000 in
theorem gL_does_X4_pay : GoodIn wsL_does (wsV RL 37 RX4 yX4_pay wsX4_pay) := goodIn_app (goodIn_of _ (by decide +kernel)) ggL_does_X4_pay
set_option maxRecDepth 20000 in
theorem ggL_does_X4_plan : GoodIn wsL_does wsX4_plan := goodIn_ca (goodIn_ca (goodIn_ca (goodIn_r _ [169, 10, 11, 66, 67, 138, 44, 45, 46, 8, 47, 48, 49, 50, 140, 141, 142, 143, 124, 43, 137, 144, 145, 146, 147, 148, 149, 150, 151, 41, 42, 68, 92, 118, 119, 14, 15, 16, 93, 94, 95, 96, 12, 97, 98, 99, 72, 100, 75, 101, 102, 103, 104, 28, 29, 152, 153, 154, 155, 55, 56, 156, 157, 158, 159, 160, 161, 162, 128, 163, 131, 164, 165, 132, 170, 171, 172, 173, 174, 113, 175, 176, 177, 178, 179, 180, 181, 182, 183, 184, 258, 259, 260, 261, 262, 263, 264, 265, 266, 267, 268, 249, 250, 251, 252, 253, 254, 255, 256, 257, 269, 270, 271, 272, 273, 274, 275, 276, 277, 278, 279, 280] (by decide +kernel) (by decide +kernel)) (goodIn_sub (fun _ h => List.mem_cons_of_mem _ (List.mem_append_left _ (List.mem_append_left _ (List.mem_append_right _ h)))) (by decide +kernel))) (goodIn_sub (fun _ h => List.mem_cons_of_mem _ (List.mem_append_right _ h)) (by decide +kernel))) (goodIn_sub (fun _ h => List.mem_cons_of_mem _ (List.mem_append_left _ (List.mem_append_right _ h))) (by decide +kernel))
set_option maxRecDepth 20000 in
theorem gL_does_X4_plan : GoodIn wsL_does (wsV RL 40 RX4 yX4_plan wsX4_plan) := goodIn_app (goodIn_of _ (by decide +kernel)) ggL_does_X4_plan
set_option maxRecDepth 20000 in
theorem ggL_does_X4_leave : GoodIn wsL_does wsX4_leave := goodIn_ca (goodIn_r _ [188, 68, 124, 44, 45, 46, 8, 47, 48, 49, 50, 84, 85, 86, 72, 87, 75, 88, 89, 90, 91, 41, 42, 92, 14, 15, 16, 93, 94, 95, 96, 12, 97, 98, 99, 100, 101, 102, 103, 104, 28, 29, 105, 106, 107, 108, 109, 110, 111, 112, 113, 61, 189, 190, 191, 128, 192, 132, 193, 194, 195, 196, 197, 198, 199, 200, 131, 164, 157, 158, 159, 258, 259, 260, 261, 262, 263, 264, 265, 266, 267, 268, 249, 250, 251, 252, 253, 254, 255, 256, 257, 269, 270, 271, 272, 273, 274, 275] (by decide +kernel) (by decide +kernel)) (goodIn_sub (fun _ h => List.mem_cons_of_mem _ (List.mem_append_left _ (List.mem_append_right _ h))) (by decide +kernel))
set_option maxRecDepth 20000 in
theorem gL_does_X4_leave : GoodIn wsL_does (wsV RL 43 RX4 yX4_leave wsX4_leave) := goodIn_app (goodIn_of _ (by decide +kernel)) ggL_does_X4_leave
set_option maxRecDepth 20000 in
theorem ggL_does_X4_closeWeek : GoodIn wsL_does wsX4_closeWeek := goodIn_ca (goodIn_ca (goodIn_r _ [204, 66, 67, 113, 174, 205, 206, 207, 8, 208, 44, 45, 46, 47, 48, 49, 50, 140, 141, 142, 143, 124, 43, 137, 144, 145, 146, 147, 148, 149, 150, 151, 41, 42, 68, 92, 118, 119, 14, 15, 16, 93, 94, 95, 96, 12, 97, 98, 99, 72, 100, 75, 101, 102, 103, 104, 28, 29, 152, 153, 154, 155, 55, 56, 156, 157, 158, 159, 160, 161, 162, 128, 163, 131, 164, 165, 132, 209, 210, 211, 212, 213, 214, 215, 216, 217, 218, 219, 220, 221, 222, 223, 224, 225, 226, 227, 228, 229, 230, 74, 231, 232, 233, 234, 235, 236, 237, 238, 239, 130, 240, 241, 242, 243, 244, 138, 35, 170, 171, 172, 173, 245, 246, 247, 178, 248, 180, 181, 184, 182, 183, 249, 250, 251, 252, 253, 254, 255, 256, 257, 258, 259, 260, 261, 262, 263, 264, 265, 266, 267, 268, 269, 270, 271, 272, 273, 274, 275, 276, 277, 278, 279, 280] (by decide +kernel) (by decide +kernel)) (goodIn_sub (fun _ h => List.mem_cons_of_mem _ (List.mem_append_right _ h)) (by decide +kernel))) (goodIn_sub (fun _ h => List.mem_cons_of_mem _ (List.mem_append_left _ (List.mem_append_right _ h))) (by decide +kernel))
set_option maxRecDepth 20000 in
theorem gL_does_X4_closeWeek : GoodIn wsL_does (wsV RL 47 RX4 yX4_closeWeek wsX4_closeWeek) := goodIn_app (goodIn_of _ (by decide +kernel)) ggL_does_X4_closeWeek
theorem dL_does_0 : decode cL_does 0 = .ok (.iload_n 1, 1) := by decide +kernel
theorem dL_does_1 : decode cL_does 1 = .ok (.ifCond .ne 23, 3) := by decide +kernel
theorem dL_does_4 : decode cL_does 4 = .ok (.aload_n 0, 1) := by decide +kernel
theorem dL_does_5 : decode cL_does 5 = .ok (.iload_n 2, 1) := by decide +kernel
theorem dL_does_6 : decode cL_does 6 = .ok (.iload_n 3, 1) := by decide +kernel
theorem dL_does_7 : decode cL_does 7 = .ok (.iconst 1, 1) := by decide +kernel
theorem dL_does_8 : decode cL_does 8 = .ok (.if_icmp .ne 7, 3) := by decide +kernel
theorem dL_does_11 : decode cL_does 11 = .ok (.iconst 1, 1) := by decide +kernel
theorem dL_does_12 : decode cL_does 12 = .ok (.goto 4, 3) := by decide +kernel
theorem dL_does_15 : decode cL_does 15 = .ok (.iconst 0, 1) := by decide +kernel
theorem dL_does_16 : decode cL_does 16 = .ok (.iload 4, 2) := by decide +kernel
theorem dL_does_18 : decode cL_does 18 = .ok (.invokevirtual 8, 3) := by decide +kernel
theorem dL_does_21 : decode cL_does 21 = .ok (.goto 155, 3) := by decide +kernel
theorem dL_does_24 : decode cL_does 24 = .ok (.iload_n 1, 1) := by decide +kernel
theorem dL_does_25 : decode cL_does 25 = .ok (.iconst 1, 1) := by decide +kernel
theorem dL_does_26 : decode cL_does 26 = .ok (.if_icmp .eq 13, 3) := by decide +kernel
theorem dL_does_29 : decode cL_does 29 = .ok (.iload_n 1, 1) := by decide +kernel
theorem dL_does_30 : decode cL_does 30 = .ok (.iconst 3, 1) := by decide +kernel
theorem dL_does_31 : decode cL_does 31 = .ok (.if_icmp .eq 8, 3) := by decide +kernel
theorem dL_does_34 : decode cL_does 34 = .ok (.iload_n 1, 1) := by decide +kernel
theorem dL_does_35 : decode cL_does 35 = .ok (.iconst 4, 1) := by decide +kernel
theorem dL_does_36 : decode cL_does 36 = .ok (.if_icmp .ne 15, 3) := by decide +kernel
theorem dL_does_39 : decode cL_does 39 = .ok (.aload_n 0, 1) := by decide +kernel
theorem dL_does_40 : decode cL_does 40 = .ok (.iload_n 1, 1) := by decide +kernel
theorem dL_does_41 : decode cL_does 41 = .ok (.iload_n 2, 1) := by decide +kernel
theorem dL_does_42 : decode cL_does 42 = .ok (.iload_n 3, 1) := by decide +kernel
theorem dL_does_43 : decode cL_does 43 = .ok (.iload 4, 2) := by decide +kernel
theorem dL_does_45 : decode cL_does 45 = .ok (.invokestatic 14, 3) := by decide +kernel
theorem dL_does_48 : decode cL_does 48 = .ok (.goto 128, 3) := by decide +kernel
theorem dL_does_51 : decode cL_does 51 = .ok (.iload_n 1, 1) := by decide +kernel
theorem dL_does_52 : decode cL_does 52 = .ok (.iconst 2, 1) := by decide +kernel
theorem dL_does_53 : decode cL_does 53 = .ok (.if_icmp .ne 12, 3) := by decide +kernel
theorem dL_does_56 : decode cL_does 56 = .ok (.aload_n 0, 1) := by decide +kernel
theorem dL_does_57 : decode cL_does 57 = .ok (.iload_n 2, 1) := by decide +kernel
theorem dL_does_58 : decode cL_does 58 = .ok (.iload_n 3, 1) := by decide +kernel
theorem dL_does_59 : decode cL_does 59 = .ok (.invokevirtual 20, 3) := by decide +kernel
theorem dL_does_62 : decode cL_does 62 = .ok (.goto 114, 3) := by decide +kernel
theorem dL_does_65 : decode cL_does 65 = .ok (.iload_n 1, 1) := by decide +kernel
theorem dL_does_66 : decode cL_does 66 = .ok (.iconst 5, 1) := by decide +kernel
theorem dL_does_67 : decode cL_does 67 = .ok (.if_icmp .ne 12, 3) := by decide +kernel
theorem dL_does_70 : decode cL_does 70 = .ok (.aload_n 0, 1) := by decide +kernel
theorem dL_does_71 : decode cL_does 71 = .ok (.iload_n 2, 1) := by decide +kernel
theorem dL_does_72 : decode cL_does 72 = .ok (.iload_n 3, 1) := by decide +kernel
theorem dL_does_73 : decode cL_does 73 = .ok (.invokevirtual 24, 3) := by decide +kernel
theorem dL_does_76 : decode cL_does 76 = .ok (.goto 100, 3) := by decide +kernel
theorem dL_does_79 : decode cL_does 79 = .ok (.iload_n 1, 1) := by decide +kernel
theorem dL_does_80 : decode cL_does 80 = .ok (.bipush 6, 2) := by decide +kernel
theorem dL_does_82 : decode cL_does 82 = .ok (.if_icmp .ne 12, 3) := by decide +kernel
theorem dL_does_85 : decode cL_does 85 = .ok (.aload_n 0, 1) := by decide +kernel
theorem dL_does_86 : decode cL_does 86 = .ok (.iload_n 2, 1) := by decide +kernel
theorem dL_does_87 : decode cL_does 87 = .ok (.iload_n 3, 1) := by decide +kernel
theorem dL_does_88 : decode cL_does 88 = .ok (.invokevirtual 27, 3) := by decide +kernel
theorem dL_does_91 : decode cL_does 91 = .ok (.goto 85, 3) := by decide +kernel
theorem dL_does_94 : decode cL_does 94 = .ok (.iload_n 1, 1) := by decide +kernel
theorem dL_does_95 : decode cL_does 95 = .ok (.bipush 7, 2) := by decide +kernel
theorem dL_does_97 : decode cL_does 97 = .ok (.if_icmp .ne 14, 3) := by decide +kernel
theorem dL_does_100 : decode cL_does 100 = .ok (.aload_n 0, 1) := by decide +kernel
theorem dL_does_101 : decode cL_does 101 = .ok (.iload_n 2, 1) := by decide +kernel
theorem dL_does_102 : decode cL_does 102 = .ok (.iload_n 3, 1) := by decide +kernel
theorem dL_does_103 : decode cL_does 103 = .ok (.iload 4, 2) := by decide +kernel
theorem dL_does_105 : decode cL_does 105 = .ok (.invokevirtual 30, 3) := by decide +kernel
theorem dL_does_108 : decode cL_does 108 = .ok (.goto 68, 3) := by decide +kernel
theorem dL_does_111 : decode cL_does 111 = .ok (.iload_n 1, 1) := by decide +kernel
theorem dL_does_112 : decode cL_does 112 = .ok (.bipush 8, 2) := by decide +kernel
theorem dL_does_114 : decode cL_does 114 = .ok (.if_icmp .ne 14, 3) := by decide +kernel
theorem dL_does_117 : decode cL_does 117 = .ok (.aload_n 0, 1) := by decide +kernel
theorem dL_does_118 : decode cL_does 118 = .ok (.iload_n 2, 1) := by decide +kernel
theorem dL_does_119 : decode cL_does 119 = .ok (.iload_n 3, 1) := by decide +kernel
theorem dL_does_120 : decode cL_does 120 = .ok (.iload 4, 2) := by decide +kernel
theorem dL_does_122 : decode cL_does 122 = .ok (.invokevirtual 34, 3) := by decide +kernel
theorem dL_does_125 : decode cL_does 125 = .ok (.goto 51, 3) := by decide +kernel
theorem dL_does_128 : decode cL_does 128 = .ok (.iload_n 1, 1) := by decide +kernel
theorem dL_does_129 : decode cL_does 129 = .ok (.bipush 9, 2) := by decide +kernel
theorem dL_does_131 : decode cL_does 131 = .ok (.if_icmp .ne 12, 3) := by decide +kernel
theorem dL_does_134 : decode cL_does 134 = .ok (.aload_n 0, 1) := by decide +kernel
theorem dL_does_135 : decode cL_does 135 = .ok (.iload_n 2, 1) := by decide +kernel
theorem dL_does_136 : decode cL_does 136 = .ok (.iload_n 3, 1) := by decide +kernel
theorem dL_does_137 : decode cL_does 137 = .ok (.invokevirtual 37, 3) := by decide +kernel
theorem dL_does_140 : decode cL_does 140 = .ok (.goto 36, 3) := by decide +kernel
theorem dL_does_143 : decode cL_does 143 = .ok (.iload_n 1, 1) := by decide +kernel
theorem dL_does_144 : decode cL_does 144 = .ok (.bipush 10, 2) := by decide +kernel
theorem dL_does_146 : decode cL_does 146 = .ok (.if_icmp .ne 12, 3) := by decide +kernel
theorem dL_does_149 : decode cL_does 149 = .ok (.aload_n 0, 1) := by decide +kernel
theorem dL_does_150 : decode cL_does 150 = .ok (.iload_n 2, 1) := by decide +kernel
theorem dL_does_151 : decode cL_does 151 = .ok (.iload_n 3, 1) := by decide +kernel
theorem dL_does_152 : decode cL_does 152 = .ok (.invokevirtual 40, 3) := by decide +kernel
theorem dL_does_155 : decode cL_does 155 = .ok (.goto 21, 3) := by decide +kernel
theorem dL_does_158 : decode cL_does 158 = .ok (.iload_n 1, 1) := by decide +kernel
theorem dL_does_159 : decode cL_does 159 = .ok (.bipush 11, 2) := by decide +kernel
theorem dL_does_161 : decode cL_does 161 = .ok (.if_icmp .ne 11, 3) := by decide +kernel
theorem dL_does_164 : decode cL_does 164 = .ok (.aload_n 0, 1) := by decide +kernel
theorem dL_does_165 : decode cL_does 165 = .ok (.iload_n 2, 1) := by decide +kernel
theorem dL_does_166 : decode cL_does 166 = .ok (.invokevirtual 43, 3) := by decide +kernel
theorem dL_does_169 : decode cL_does 169 = .ok (.goto 7, 3) := by decide +kernel
theorem dL_does_172 : decode cL_does 172 = .ok (.aload_n 0, 1) := by decide +kernel
theorem dL_does_173 : decode cL_does 173 = .ok (.invokevirtual 47, 3) := by decide +kernel
theorem dL_does_176 : decode cL_does 176 = .ok (.ireturn, 1) := by decide +kernel
theorem dL_does_177 : decode cL_does 177 = .ok (.astore 5, 2) := by decide +kernel
theorem dL_does_179 : decode cL_does 179 = .ok (.ldc 53, 2) := by decide +kernel
theorem dL_does_181 : decode cL_does 181 = .ok (.ireturn, 1) := by decide +kernel
theorem dL_does_182 : decode cL_does 182 = .ok (.astore 5, 2) := by decide +kernel
theorem dL_does_184 : decode cL_does 184 = .ok (.ldc 53, 2) := by decide +kernel
theorem dL_does_186 : decode cL_does 186 = .ok (.ireturn, 1) := by decide +kernel
theorem dL_does_187 : decode cL_does 187 = .ok (.astore 5, 2) := by decide +kernel
theorem dL_does_189 : decode cL_does 189 = .ok (.ldc 53, 2) := by decide +kernel
theorem dL_does_191 : decode cL_does 191 = .ok (.ireturn, 1) := by decide +kernel
set_option maxRecDepth 20000 in
theorem ggL_sets_X4_setBand : GoodIn wsL_sets wsX4_setBand := goodIn_ca (goodIn_r _ [5, 6, 7, 8, 9, 10, 11, 4, 12, 41, 42, 43, 44, 45, 46, 47, 48, 49] (by decide +kernel) (by decide +kernel)) (goodIn_sub (fun _ h => List.mem_cons_of_mem _ (List.mem_append_left _ (List.mem_append_right _ h))) (by decide +kernel))
set_option maxRecDepth 20000 in
theorem gL_sets_X4_setBand : GoodIn wsL_sets (wsV RL 58 RX4 yX4_setBand wsX4_setBand) := goodIn_app (goodIn_of _ (by decide +kernel)) ggL_sets_X4_setBand
set_option maxRecDepth 20000 in
theorem ggL_sets_X4_setFees : GoodIn wsL_sets wsX4_setFees := goodIn_ca (goodIn_r _ [16, 6, 7, 17, 18, 19, 20, 10, 11, 4, 12, 41, 42, 43, 44, 45, 46, 47, 48, 49] (by decide +kernel) (by decide +kernel)) (goodIn_sub (fun _ h => List.mem_cons_of_mem _ (List.mem_append_left _ (List.mem_append_right _ h))) (by decide +kernel))
set_option maxRecDepth 20000 in
theorem gL_sets_X4_setFees : GoodIn wsL_sets (wsV RL 62 RX4 yX4_setFees wsX4_setFees) := goodIn_app (goodIn_of _ (by decide +kernel)) ggL_sets_X4_setFees
set_option maxRecDepth 20000 in
theorem ggL_sets_X4_setStudent : GoodIn wsL_sets wsX4_setStudent := goodIn_ca (goodIn_ca (goodIn_r _ [24, 6, 7, 18, 25, 26, 27, 28, 29, 30, 4, 31, 32, 33, 34, 10, 11, 12, 50, 51, 52, 53, 54, 55, 56, 57, 58, 59, 60, 41, 42, 43, 44, 45, 46, 47, 48, 49] (by decide +kernel) (by decide +kernel)) (goodIn_sub (fun _ h => List.mem_cons_of_mem _ (List.mem_append_left _ (List.mem_append_right _ h))) (by decide +kernel))) (goodIn_sub (fun _ h => List.mem_cons_of_mem _ (List.mem_append_right _ h)) (by decide +kernel))
set_option maxRecDepth 20000 in
theorem gL_sets_X4_setStudent : GoodIn wsL_sets (wsV RL 65 RX4 yX4_setStudent wsX4_setStudent) := goodIn_app (goodIn_of _ (by decide +kernel)) ggL_sets_X4_setStudent
set_option maxRecDepth 20000 in
theorem ggL_sets_X4_setSponsor : GoodIn wsL_sets wsX4_setSponsor := goodIn_ca (goodIn_ca (goodIn_r _ [38, 6, 7, 18, 39, 40, 28, 29, 30, 4, 31, 32, 33, 34, 10, 11, 12, 50, 51, 52, 53, 54, 55, 56, 57, 58, 59, 60, 41, 42, 43, 44, 45, 46, 47, 48, 49] (by decide +kernel) (by decide +kernel)) (goodIn_sub (fun _ h => List.mem_cons_of_mem _ (List.mem_append_left _ (List.mem_append_right _ h))) (by decide +kernel))) (goodIn_sub (fun _ h => List.mem_cons_of_mem _ (List.mem_append_right _ h)) (by decide +kernel))
set_option maxRecDepth 20000 in
theorem gL_sets_X4_setSponsor : GoodIn wsL_sets (wsV RL 69 RX4 yX4_setSponsor wsX4_setSponsor) := goodIn_app (goodIn_of _ (by decide +kernel)) ggL_sets_X4_setSponsor
theorem dL_sets_0 : decode cL_sets 0 = .ok (.iload_n 1, 1) := by decide +kernel
theorem dL_sets_1 : decode cL_sets 1 = .ok (.iconst 1, 1) := by decide +kernel
theorem dL_sets_2 : decode cL_sets 2 = .ok (.if_icmp .ne 12, 3) := by decide +kernel
theorem dL_sets_5 : decode cL_sets 5 = .ok (.aload_n 0, 1) := by decide +kernel
theorem dL_sets_6 : decode cL_sets 6 = .ok (.iload_n 2, 1) := by decide +kernel
theorem dL_sets_7 : decode cL_sets 7 = .ok (.iload_n 3, 1) := by decide +kernel
theorem dL_sets_8 : decode cL_sets 8 = .ok (.invokevirtual 58, 3) := by decide +kernel
theorem dL_sets_11 : decode cL_sets 11 = .ok (.goto 56, 3) := by decide +kernel
theorem dL_sets_14 : decode cL_sets 14 = .ok (.iload_n 1, 1) := by decide +kernel
theorem dL_sets_15 : decode cL_sets 15 = .ok (.iconst 3, 1) := by decide +kernel
theorem dL_sets_16 : decode cL_sets 16 = .ok (.if_icmp .ne 12, 3) := by decide +kernel
theorem dL_sets_19 : decode cL_sets 19 = .ok (.aload_n 0, 1) := by decide +kernel
theorem dL_sets_20 : decode cL_sets 20 = .ok (.iload_n 2, 1) := by decide +kernel
theorem dL_sets_21 : decode cL_sets 21 = .ok (.iload_n 3, 1) := by decide +kernel
theorem dL_sets_22 : decode cL_sets 22 = .ok (.invokevirtual 62, 3) := by decide +kernel
theorem dL_sets_25 : decode cL_sets 25 = .ok (.goto 42, 3) := by decide +kernel
theorem dL_sets_28 : decode cL_sets 28 = .ok (.iload 4, 2) := by decide +kernel
theorem dL_sets_30 : decode cL_sets 30 = .ok (.ifCond .ge 29, 3) := by decide +kernel
theorem dL_sets_33 : decode cL_sets 33 = .ok (.aload_n 0, 1) := by decide +kernel
theorem dL_sets_34 : decode cL_sets 34 = .ok (.iload_n 2, 1) := by decide +kernel
theorem dL_sets_35 : decode cL_sets 35 = .ok (.iload_n 3, 1) := by decide +kernel
theorem dL_sets_36 : decode cL_sets 36 = .ok (.iconst 1, 1) := by decide +kernel
theorem dL_sets_37 : decode cL_sets 37 = .ok (.iand, 1) := by decide +kernel
theorem dL_sets_38 : decode cL_sets 38 = .ok (.iload_n 3, 1) := by decide +kernel
theorem dL_sets_39 : decode cL_sets 39 = .ok (.iconst 2, 1) := by decide +kernel
theorem dL_sets_40 : decode cL_sets 40 = .ok (.iand, 1) := by decide +kernel
theorem dL_sets_41 : decode cL_sets 41 = .ok (.ifCond .ne 7, 3) := by decide +kernel
theorem dL_sets_44 : decode cL_sets 44 = .ok (.iconst 1, 1) := by decide +kernel
theorem dL_sets_45 : decode cL_sets 45 = .ok (.goto 4, 3) := by decide +kernel
theorem dL_sets_48 : decode cL_sets 48 = .ok (.iconst 0, 1) := by decide +kernel
theorem dL_sets_49 : decode cL_sets 49 = .ok (.iconst (-1), 1) := by decide +kernel
theorem dL_sets_50 : decode cL_sets 50 = .ok (.iload 4, 2) := by decide +kernel
theorem dL_sets_52 : decode cL_sets 52 = .ok (.isub, 1) := by decide +kernel
theorem dL_sets_53 : decode cL_sets 53 = .ok (.invokevirtual 65, 3) := by decide +kernel
theorem dL_sets_56 : decode cL_sets 56 = .ok (.goto 11, 3) := by decide +kernel
theorem dL_sets_59 : decode cL_sets 59 = .ok (.aload_n 0, 1) := by decide +kernel
theorem dL_sets_60 : decode cL_sets 60 = .ok (.iload_n 2, 1) := by decide +kernel
theorem dL_sets_61 : decode cL_sets 61 = .ok (.iload_n 3, 1) := by decide +kernel
theorem dL_sets_62 : decode cL_sets 62 = .ok (.iload 4, 2) := by decide +kernel
theorem dL_sets_64 : decode cL_sets 64 = .ok (.invokevirtual 69, 3) := by decide +kernel
theorem dL_sets_67 : decode cL_sets 67 = .ok (.iconst 0, 1) := by decide +kernel
theorem dL_sets_68 : decode cL_sets 68 = .ok (.ireturn, 1) := by decide +kernel
set_option maxRecDepth 20000 in
theorem ggL_used_X4_used : GoodIn wsL_used wsX4_used := goodIn_ca (goodIn_r _ [7, 8, 9, 10, 11, 12, 13, 14, 6, 15, 16, 17, 18, 19, 20, 21, 22, 23, 24, 25, 26, 27, 28, 29, 30, 31, 32, 33, 34, 35, 36, 37, 38, 39, 40, 41, 42, 43, 44, 45, 46, 47, 48, 49, 50, 51, 52, 53, 54, 55, 56, 57, 58, 59, 60, 61, 62, 63, 64, 65, 66, 67, 68, 69, 70, 71, 72, 73, 74, 75, 76, 77, 78, 79, 80, 81, 82, 83, 84, 85, 86, 87, 88, 89, 90, 91, 92, 93, 94, 95, 96, 97, 98, 99, 100, 101, 102, 103, 104, 105] (by decide +kernel) (by decide +kernel)) (goodIn_sub (fun _ h => List.mem_cons_of_mem _ (List.mem_append_right _ h)) (by decide +kernel))
set_option maxRecDepth 20000 in
theorem gL_used_X4_used : GoodIn wsL_used (wsV RL 73 RX4 yX4_used wsX4_used) := goodIn_app (goodIn_of _ (by decide +kernel)) ggL_used_X4_used
theorem dL_used_0 : decode cL_used 0 = .ok (.aload_n 0, 1) := by decide +kernel
theorem dL_used_1 : decode cL_used 1 = .ok (.iload_n 1, 1) := by decide +kernel
theorem dL_used_2 : decode cL_used 2 = .ok (.iload_n 2, 1) := by decide +kernel
theorem dL_used_3 : decode cL_used 3 = .ok (.invokevirtual 73, 3) := by decide +kernel
theorem dL_used_6 : decode cL_used 6 = .ok (.ireturn, 1) := by decide +kernel
theorem dL_used_7 : decode cL_used 7 = .ok (.astore_n 3, 1) := by decide +kernel
theorem dL_used_8 : decode cL_used 8 = .ok (.ldc 53, 2) := by decide +kernel
theorem dL_used_10 : decode cL_used 10 = .ok (.ireturn, 1) := by decide +kernel
set_option maxRecDepth 20000 in
theorem ggL_act_L_low : GoodIn wsL_act wsL_low := goodIn_r _ [10, 11] (by decide +kernel) (by decide +kernel)
set_option maxRecDepth 20000 in
theorem gL_act_L_low : GoodIn wsL_act (va_wsS RL 76 yL_low wsL_low) := goodIn_app (goodIn_of _ (by decide +kernel)) ggL_act_L_low
set_option maxRecDepth 20000 in
theorem ggL_act_L_does : GoodIn wsL_act wsL_does := goodIn_ca (goodIn_ca (goodIn_ca (goodIn_r _ [14, 15, 16, 17, 18, 19, 20, 21, 22, 23, 24, 25, 26, 27, 28, 29, 30, 31, 32, 33, 34, 35, 9, 36, 37, 38, 39, 40, 41, 42, 43, 44, 45, 46, 47, 48, 49, 50, 51, 52, 53, 54, 55, 56, 57, 58, 59, 60, 61, 62, 63, 64, 65, 66, 67, 68, 69, 70, 71, 72, 73, 74, 75, 76, 77, 78, 79, 80, 81, 82, 83, 84, 85, 86, 87, 88, 89, 90, 91, 92, 93, 94, 95, 96, 97, 98, 99, 100, 101, 102, 103, 104, 105, 106, 107, 108, 109, 110, 111, 112, 113, 114, 115, 116, 117, 118, 119, 120, 121, 122, 123, 124, 125, 126, 127, 128, 129, 130, 131, 132, 133, 134, 135, 136, 137, 138, 139, 140, 141, 142, 143, 144, 145, 146, 147, 148, 149, 150, 151, 152, 153, 154, 155, 156, 157, 158, 159, 160, 161, 162, 163, 164, 165, 166, 167, 168, 169, 170, 171, 172, 173, 174, 175, 176, 177, 178, 179, 180, 181, 182, 183, 184, 185, 186, 187, 188, 189, 190, 191, 192, 193, 194, 195, 196, 197, 198, 199, 200, 201, 202, 203, 204, 205, 206, 207, 208, 209, 210, 211, 212, 213, 214, 215, 216, 217, 218, 219, 220, 221, 222, 223, 224, 225, 226, 227, 228, 229, 230, 231, 232, 233, 234, 235, 236, 237, 238, 239, 240, 241, 242, 243, 244, 245, 246, 247, 248, 249, 250, 251, 252, 253, 254, 255, 256, 257, 258, 259, 260, 261, 262, 263, 264, 265, 266, 267, 268, 269, 270, 271, 272, 273, 274, 275, 276, 277, 278, 279, 280, 281, 282, 283, 284, 285, 286, 287, 288, 289, 290, 291, 292, 293] (by decide +kernel) (by decide +kernel)) (goodIn_sub (fun _ h => List.mem_cons_of_mem _ (List.mem_append_left _ (List.mem_append_left _ (List.mem_append_right _ h)))) (by decide +kernel))) (goodIn_sub (fun _ h => List.mem_cons_of_mem _ (List.mem_append_left _ (List.mem_append_right _ h))) (by decide +kernel))) (goodIn_sub (fun _ h => List.mem_cons_of_mem _ (List.mem_append_right _ h)) (by decide +kernel))
set_option maxRecDepth 20000 in
theorem gL_act_L_does : GoodIn wsL_act (va_wsS RL 84 yL_does wsL_does) := goodIn_app (goodIn_of _ (by decide +kernel)) ggL_act_L_does
theorem dL_act_0 : decode cL_act 0 = .ok (.iload_n 1, 1) := by decide +kernel
theorem dL_act_1 : decode cL_act 1 = .ok (.bipush 24, 2) := by decide +kernel
theorem dL_act_3 : decode cL_act 3 = .ok (.ishr, 1) := by decide +kernel
theorem dL_act_4 : decode cL_act 4 = .ok (.bipush 8, 2) := by decide +kernel
theorem dL_act_6 : decode cL_act 6 = .ok (.invokestatic 76, 3) := by decide +kernel
theorem dL_act_9 : decode cL_act 9 = .ok (.ifCond .ne 7, 3) := by decide +kernel
theorem dL_act_12 : decode cL_act 12 = .ok (.iconst 1, 1) := by decide +kernel
theorem dL_act_13 : decode cL_act 13 = .ok (.goto 4, 3) := by decide +kernel
theorem dL_act_16 : decode cL_act 16 = .ok (.iconst 0, 1) := by decide +kernel
theorem dL_act_17 : decode cL_act 17 = .ok (.istore_n 2, 1) := by decide +kernel
theorem dL_act_18 : decode cL_act 18 = .ok (.iload_n 1, 1) := by decide +kernel
theorem dL_act_19 : decode cL_act 19 = .ok (.bipush 36, 2) := by decide +kernel
theorem dL_act_21 : decode cL_act 21 = .ok (.invokestatic 76, 3) := by decide +kernel
theorem dL_act_24 : decode cL_act 24 = .ok (.istore_n 3, 1) := by decide +kernel
theorem dL_act_25 : decode cL_act 25 = .ok (.iload_n 2, 1) := by decide +kernel
theorem dL_act_26 : decode cL_act 26 = .ok (.ifCond .eq 17, 3) := by decide +kernel
theorem dL_act_29 : decode cL_act 29 = .ok (.iload_n 1, 1) := by decide +kernel
theorem dL_act_30 : decode cL_act 30 = .ok (.bipush 6, 2) := by decide +kernel
theorem dL_act_32 : decode cL_act 32 = .ok (.ishr, 1) := by decide +kernel
theorem dL_act_33 : decode cL_act 33 = .ok (.bipush 7, 2) := by decide +kernel
theorem dL_act_35 : decode cL_act 35 = .ok (.invokestatic 76, 3) := by decide +kernel
theorem dL_act_38 : decode cL_act 38 = .ok (.iconst 1, 1) := by decide +kernel
theorem dL_act_39 : decode cL_act 39 = .ok (.isub, 1) := by decide +kernel
theorem dL_act_40 : decode cL_act 40 = .ok (.goto 9, 3) := by decide +kernel
theorem dL_act_43 : decode cL_act 43 = .ok (.iload_n 1, 1) := by decide +kernel
theorem dL_act_44 : decode cL_act 44 = .ok (.bipush 6, 2) := by decide +kernel
theorem dL_act_46 : decode cL_act 46 = .ok (.ishr, 1) := by decide +kernel
theorem dL_act_47 : decode cL_act 47 = .ok (.iconst 3, 1) := by decide +kernel
theorem dL_act_48 : decode cL_act 48 = .ok (.iand, 1) := by decide +kernel
theorem dL_act_49 : decode cL_act 49 = .ok (.istore 4, 2) := by decide +kernel
theorem dL_act_51 : decode cL_act 51 = .ok (.iload_n 2, 1) := by decide +kernel
theorem dL_act_52 : decode cL_act 52 = .ok (.ifCond .eq 15, 3) := by decide +kernel
theorem dL_act_55 : decode cL_act 55 = .ok (.iload_n 1, 1) := by decide +kernel
theorem dL_act_56 : decode cL_act 56 = .ok (.bipush 9, 2) := by decide +kernel
theorem dL_act_58 : decode cL_act 58 = .ok (.ishr, 1) := by decide +kernel
theorem dL_act_59 : decode cL_act 59 = .ok (.ldc 79, 2) := by decide +kernel
theorem dL_act_61 : decode cL_act 61 = .ok (.invokestatic 76, 3) := by decide +kernel
theorem dL_act_64 : decode cL_act 64 = .ok (.goto 28, 3) := by decide +kernel
theorem dL_act_67 : decode cL_act 67 = .ok (.iconst 1, 1) := by decide +kernel
theorem dL_act_68 : decode cL_act 68 = .ok (.iload_n 1, 1) := by decide +kernel
theorem dL_act_69 : decode cL_act 69 = .ok (.bipush 9, 2) := by decide +kernel
theorem dL_act_71 : decode cL_act 71 = .ok (.ishr, 1) := by decide +kernel
theorem dL_act_72 : decode cL_act 72 = .ok (.iload_n 1, 1) := by decide +kernel
theorem dL_act_73 : decode cL_act 73 = .ok (.bipush 21, 2) := by decide +kernel
theorem dL_act_75 : decode cL_act 75 = .ok (.ishr, 1) := by decide +kernel
theorem dL_act_76 : decode cL_act 76 = .ok (.iconst 1, 1) := by decide +kernel
theorem dL_act_77 : decode cL_act 77 = .ok (.iand, 1) := by decide +kernel
theorem dL_act_78 : decode cL_act 78 = .ok (.ifCond .ne 8, 3) := by decide +kernel
theorem dL_act_81 : decode cL_act 81 = .ok (.ldc 80, 2) := by decide +kernel
theorem dL_act_83 : decode cL_act 83 = .ok (.goto 5, 3) := by decide +kernel
theorem dL_act_86 : decode cL_act 86 = .ok (.ldc 81, 2) := by decide +kernel
theorem dL_act_88 : decode cL_act 88 = .ok (.invokestatic 76, 3) := by decide +kernel
theorem dL_act_91 : decode cL_act 91 = .ok (.iadd, 1) := by decide +kernel
theorem dL_act_92 : decode cL_act 92 = .ok (.istore 5, 2) := by decide +kernel
theorem dL_act_94 : decode cL_act 94 = .ok (.iload_n 3, 1) := by decide +kernel
theorem dL_act_95 : decode cL_act 95 = .ok (.iconst 3, 1) := by decide +kernel
theorem dL_act_96 : decode cL_act 96 = .ok (.if_icmp .ge 151, 3) := by decide +kernel
theorem dL_act_99 : decode cL_act 99 = .ok (.iload_n 3, 1) := by decide +kernel
theorem dL_act_100 : decode cL_act 100 = .ok (.ifCond .ne 22, 3) := by decide +kernel
theorem dL_act_103 : decode cL_act 103 = .ok (.iload_n 1, 1) := by decide +kernel
theorem dL_act_104 : decode cL_act 104 = .ok (.bipush 6, 2) := by decide +kernel
theorem dL_act_106 : decode cL_act 106 = .ok (.ishr, 1) := by decide +kernel
theorem dL_act_107 : decode cL_act 107 = .ok (.iload_n 2, 1) := by decide +kernel
theorem dL_act_108 : decode cL_act 108 = .ok (.ifCond .eq 7, 3) := by decide +kernel
theorem dL_act_111 : decode cL_act 111 = .ok (.iconst 3, 1) := by decide +kernel
theorem dL_act_112 : decode cL_act 112 = .ok (.goto 4, 3) := by decide +kernel
theorem dL_act_115 : decode cL_act 115 = .ok (.iconst 2, 1) := by decide +kernel
theorem dL_act_116 : decode cL_act 116 = .ok (.invokestatic 76, 3) := by decide +kernel
theorem dL_act_119 : decode cL_act 119 = .ok (.goto 49, 3) := by decide +kernel
theorem dL_act_122 : decode cL_act 122 = .ok (.iload_n 3, 1) := by decide +kernel
theorem dL_act_123 : decode cL_act 123 = .ok (.iconst 1, 1) := by decide +kernel
theorem dL_act_124 : decode cL_act 124 = .ok (.if_icmp .ne 26, 3) := by decide +kernel
theorem dL_act_127 : decode cL_act 127 = .ok (.iconst 1, 1) := by decide +kernel
theorem dL_act_128 : decode cL_act 128 = .ok (.iload_n 1, 1) := by decide +kernel
theorem dL_act_129 : decode cL_act 129 = .ok (.bipush 6, 2) := by decide +kernel
theorem dL_act_131 : decode cL_act 131 = .ok (.ishr, 1) := by decide +kernel
theorem dL_act_132 : decode cL_act 132 = .ok (.iload_n 2, 1) := by decide +kernel
theorem dL_act_133 : decode cL_act 133 = .ok (.ifCond .eq 8, 3) := by decide +kernel
theorem dL_act_136 : decode cL_act 136 = .ok (.bipush 35, 2) := by decide +kernel
theorem dL_act_138 : decode cL_act 138 = .ok (.goto 5, 3) := by decide +kernel
theorem dL_act_141 : decode cL_act 141 = .ok (.bipush 15, 2) := by decide +kernel
theorem dL_act_143 : decode cL_act 143 = .ok (.invokestatic 76, 3) := by decide +kernel
theorem dL_act_146 : decode cL_act 146 = .ok (.iadd, 1) := by decide +kernel
theorem dL_act_147 : decode cL_act 147 = .ok (.goto 21, 3) := by decide +kernel
theorem dL_act_150 : decode cL_act 150 = .ok (.iload_n 1, 1) := by decide +kernel
theorem dL_act_151 : decode cL_act 151 = .ok (.bipush 6, 2) := by decide +kernel
theorem dL_act_153 : decode cL_act 153 = .ok (.ishr, 1) := by decide +kernel
theorem dL_act_154 : decode cL_act 154 = .ok (.iload_n 2, 1) := by decide +kernel
theorem dL_act_155 : decode cL_act 155 = .ok (.ifCond .eq 8, 3) := by decide +kernel
theorem dL_act_158 : decode cL_act 158 = .ok (.bipush 18, 2) := by decide +kernel
theorem dL_act_160 : decode cL_act 160 = .ok (.goto 5, 3) := by decide +kernel
theorem dL_act_163 : decode cL_act 163 = .ok (.bipush 16, 2) := by decide +kernel
theorem dL_act_165 : decode cL_act 165 = .ok (.invokestatic 76, 3) := by decide +kernel
theorem dL_act_168 : decode cL_act 168 = .ok (.istore 6, 2) := by decide +kernel
theorem dL_act_170 : decode cL_act 170 = .ok (.aload_n 0, 1) := by decide +kernel
theorem dL_act_171 : decode cL_act 171 = .ok (.iload_n 3, 1) := by decide +kernel
theorem dL_act_172 : decode cL_act 172 = .ok (.iload 6, 2) := by decide +kernel
theorem dL_act_174 : decode cL_act 174 = .ok (.iload_n 3, 1) := by decide +kernel
theorem dL_act_175 : decode cL_act 175 = .ok (.ifCond .ne 12, 3) := by decide +kernel
theorem dL_act_178 : decode cL_act 178 = .ok (.iload_n 1, 1) := by decide +kernel
theorem dL_act_179 : decode cL_act 179 = .ok (.bipush 8, 2) := by decide +kernel
theorem dL_act_181 : decode cL_act 181 = .ok (.ishr, 1) := by decide +kernel
theorem dL_act_182 : decode cL_act 182 = .ok (.iconst 1, 1) := by decide +kernel
theorem dL_act_183 : decode cL_act 183 = .ok (.iand, 1) := by decide +kernel
theorem dL_act_184 : decode cL_act 184 = .ok (.goto 41, 3) := by decide +kernel
theorem dL_act_187 : decode cL_act 187 = .ok (.iload_n 3, 1) := by decide +kernel
theorem dL_act_188 : decode cL_act 188 = .ok (.iconst 1, 1) := by decide +kernel
theorem dL_act_189 : decode cL_act 189 = .ok (.if_icmp .ne 18, 3) := by decide +kernel
theorem dL_act_192 : decode cL_act 192 = .ok (.bipush 15, 2) := by decide +kernel
theorem dL_act_194 : decode cL_act 194 = .ok (.iload_n 1, 1) := by decide +kernel
theorem dL_act_195 : decode cL_act 195 = .ok (.bipush 9, 2) := by decide +kernel
theorem dL_act_197 : decode cL_act 197 = .ok (.ishr, 1) := by decide +kernel
theorem dL_act_198 : decode cL_act 198 = .ok (.bipush 16, 2) := by decide +kernel
theorem dL_act_200 : decode cL_act 200 = .ok (.invokestatic 76, 3) := by decide +kernel
theorem dL_act_203 : decode cL_act 203 = .ok (.iadd, 1) := by decide +kernel
theorem dL_act_204 : decode cL_act 204 = .ok (.goto 21, 3) := by decide +kernel
theorem dL_act_207 : decode cL_act 207 = .ok (.iload_n 1, 1) := by decide +kernel
theorem dL_act_208 : decode cL_act 208 = .ok (.bipush 9, 2) := by decide +kernel
theorem dL_act_210 : decode cL_act 210 = .ok (.ishr, 1) := by decide +kernel
theorem dL_act_211 : decode cL_act 211 = .ok (.iload_n 2, 1) := by decide +kernel
theorem dL_act_212 : decode cL_act 212 = .ok (.ifCond .eq 8, 3) := by decide +kernel
theorem dL_act_215 : decode cL_act 215 = .ok (.bipush 110, 2) := by decide +kernel
theorem dL_act_217 : decode cL_act 217 = .ok (.goto 5, 3) := by decide +kernel
theorem dL_act_220 : decode cL_act 220 = .ok (.bipush 101, 2) := by decide +kernel
theorem dL_act_222 : decode cL_act 222 = .ok (.invokestatic 76, 3) := by decide +kernel
theorem dL_act_225 : decode cL_act 225 = .ok (.iload_n 1, 1) := by decide +kernel
theorem dL_act_226 : decode cL_act 226 = .ok (.bipush 11, 2) := by decide +kernel
theorem dL_act_228 : decode cL_act 228 = .ok (.ishr, 1) := by decide +kernel
theorem dL_act_229 : decode cL_act 229 = .ok (.iload_n 2, 1) := by decide +kernel
theorem dL_act_230 : decode cL_act 230 = .ok (.ifCond .eq 8, 3) := by decide +kernel
theorem dL_act_233 : decode cL_act 233 = .ok (.ldc 82, 2) := by decide +kernel
theorem dL_act_235 : decode cL_act 235 = .ok (.goto 5, 3) := by decide +kernel
theorem dL_act_238 : decode cL_act 238 = .ok (.ldc 83, 2) := by decide +kernel
theorem dL_act_240 : decode cL_act 240 = .ok (.invokestatic 76, 3) := by decide +kernel
theorem dL_act_243 : decode cL_act 243 = .ok (.invokestatic 84, 3) := by decide +kernel
theorem dL_act_246 : decode cL_act 246 = .ok (.ireturn, 1) := by decide +kernel
theorem dL_act_247 : decode cL_act 247 = .ok (.iload_n 3, 1) := by decide +kernel
theorem dL_act_248 : decode cL_act 248 = .ok (.bipush 6, 2) := by decide +kernel
theorem dL_act_250 : decode cL_act 250 = .ok (.if_icmp .ge 84, 3) := by decide +kernel
theorem dL_act_253 : decode cL_act 253 = .ok (.iload_n 3, 1) := by decide +kernel
theorem dL_act_254 : decode cL_act 254 = .ok (.iconst 3, 1) := by decide +kernel
theorem dL_act_255 : decode cL_act 255 = .ok (.if_icmp .ne 39, 3) := by decide +kernel
theorem dL_act_258 : decode cL_act 258 = .ok (.aload_n 0, 1) := by decide +kernel
theorem dL_act_259 : decode cL_act 259 = .ok (.iconst 3, 1) := by decide +kernel
theorem dL_act_260 : decode cL_act 260 = .ok (.iload_n 1, 1) := by decide +kernel
theorem dL_act_261 : decode cL_act 261 = .ok (.bipush 6, 2) := by decide +kernel
theorem dL_act_263 : decode cL_act 263 = .ok (.ishr, 1) := by decide +kernel
theorem dL_act_264 : decode cL_act 264 = .ok (.ldc 83, 2) := by decide +kernel
theorem dL_act_266 : decode cL_act 266 = .ok (.invokestatic 76, 3) := by decide +kernel
theorem dL_act_269 : decode cL_act 269 = .ok (.iload_n 1, 1) := by decide +kernel
theorem dL_act_270 : decode cL_act 270 = .ok (.bipush 9, 2) := by decide +kernel
theorem dL_act_272 : decode cL_act 272 = .ok (.ishr, 1) := by decide +kernel
theorem dL_act_273 : decode cL_act 273 = .ok (.iload_n 2, 1) := by decide +kernel
theorem dL_act_274 : decode cL_act 274 = .ok (.ifCond .eq 8, 3) := by decide +kernel
theorem dL_act_277 : decode cL_act 277 = .ok (.ldc 79, 2) := by decide +kernel
theorem dL_act_279 : decode cL_act 279 = .ok (.goto 5, 3) := by decide +kernel
theorem dL_act_282 : decode cL_act 282 = .ok (.ldc 87, 2) := by decide +kernel
theorem dL_act_284 : decode cL_act 284 = .ok (.invokestatic 76, 3) := by decide +kernel
theorem dL_act_287 : decode cL_act 287 = .ok (.iconst 0, 1) := by decide +kernel
theorem dL_act_288 : decode cL_act 288 = .ok (.invokestatic 84, 3) := by decide +kernel
theorem dL_act_291 : decode cL_act 291 = .ok (.goto 42, 3) := by decide +kernel
theorem dL_act_294 : decode cL_act 294 = .ok (.aload_n 0, 1) := by decide +kernel
theorem dL_act_295 : decode cL_act 295 = .ok (.iconst 4, 1) := by decide +kernel
theorem dL_act_296 : decode cL_act 296 = .ok (.iload 4, 2) := by decide +kernel
theorem dL_act_298 : decode cL_act 298 = .ok (.iload_n 1, 1) := by decide +kernel
theorem dL_act_299 : decode cL_act 299 = .ok (.bipush 12, 2) := by decide +kernel
theorem dL_act_301 : decode cL_act 301 = .ok (.ishr, 1) := by decide +kernel
theorem dL_act_302 : decode cL_act 302 = .ok (.iload_n 2, 1) := by decide +kernel
theorem dL_act_303 : decode cL_act 303 = .ok (.ifCond .eq 8, 3) := by decide +kernel
theorem dL_act_306 : decode cL_act 306 = .ok (.bipush 10, 2) := by decide +kernel
theorem dL_act_308 : decode cL_act 308 = .ok (.goto 5, 3) := by decide +kernel
theorem dL_act_311 : decode cL_act 311 = .ok (.bipush 8, 2) := by decide +kernel
theorem dL_act_313 : decode cL_act 313 = .ok (.invokestatic 76, 3) := by decide +kernel
theorem dL_act_316 : decode cL_act 316 = .ok (.iload_n 3, 1) := by decide +kernel
theorem dL_act_317 : decode cL_act 317 = .ok (.iconst 4, 1) := by decide +kernel
theorem dL_act_318 : decode cL_act 318 = .ok (.if_icmp .ne 8, 3) := by decide +kernel
theorem dL_act_321 : decode cL_act 321 = .ok (.iload 5, 2) := by decide +kernel
theorem dL_act_323 : decode cL_act 323 = .ok (.goto 7, 3) := by decide +kernel
theorem dL_act_326 : decode cL_act 326 = .ok (.iconst (-1), 1) := by decide +kernel
theorem dL_act_327 : decode cL_act 327 = .ok (.iload 5, 2) := by decide +kernel
theorem dL_act_329 : decode cL_act 329 = .ok (.isub, 1) := by decide +kernel
theorem dL_act_330 : decode cL_act 330 = .ok (.invokestatic 84, 3) := by decide +kernel
theorem dL_act_333 : decode cL_act 333 = .ok (.ireturn, 1) := by decide +kernel
theorem dL_act_334 : decode cL_act 334 = .ok (.iload_n 3, 1) := by decide +kernel
theorem dL_act_335 : decode cL_act 335 = .ok (.bipush 29, 2) := by decide +kernel
theorem dL_act_337 : decode cL_act 337 = .ok (.if_icmp .ge 225, 3) := by decide +kernel
theorem dL_act_340 : decode cL_act 340 = .ok (.iload_n 3, 1) := by decide +kernel
theorem dL_act_341 : decode cL_act 341 = .ok (.bipush 11, 2) := by decide +kernel
theorem dL_act_343 : decode cL_act 343 = .ok (.if_icmp .ge 7, 3) := by decide +kernel
theorem dL_act_346 : decode cL_act 346 = .ok (.iconst 5, 1) := by decide +kernel
theorem dL_act_347 : decode cL_act 347 = .ok (.goto 60, 3) := by decide +kernel
theorem dL_act_350 : decode cL_act 350 = .ok (.iload_n 3, 1) := by decide +kernel
theorem dL_act_351 : decode cL_act 351 = .ok (.bipush 14, 2) := by decide +kernel
theorem dL_act_353 : decode cL_act 353 = .ok (.if_icmp .ge 8, 3) := by decide +kernel
theorem dL_act_356 : decode cL_act 356 = .ok (.bipush 6, 2) := by decide +kernel
theorem dL_act_358 : decode cL_act 358 = .ok (.goto 49, 3) := by decide +kernel
theorem dL_act_361 : decode cL_act 361 = .ok (.iload_n 3, 1) := by decide +kernel
theorem dL_act_362 : decode cL_act 362 = .ok (.bipush 17, 2) := by decide +kernel

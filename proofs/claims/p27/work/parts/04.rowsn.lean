theorem dL_isPaidSo_65 : decode cL_isPaidSo 65 = .ok (.istore 7, 2) := by decide +kernel
theorem dL_isPaidSo_67 : decode cL_isPaidSo 67 = .ok (.iload 6, 2) := by decide +kernel
theorem dL_isPaidSo_69 : decode cL_isPaidSo 69 = .ok (.ifCond .eq 35, 3) := by decide +kernel
theorem dL_isPaidSo_72 : decode cL_isPaidSo 72 = .ok (.aload_n 0, 1) := by decide +kernel
theorem dL_isPaidSo_73 : decode cL_isPaidSo 73 = .ok (.iload_n 2, 1) := by decide +kernel
theorem dL_isPaidSo_74 : decode cL_isPaidSo 74 = .ok (.iconst 2, 1) := by decide +kernel
theorem dL_isPaidSo_75 : decode cL_isPaidSo 75 = .ok (.iload_n 3, 1) := by decide +kernel
theorem dL_isPaidSo_76 : decode cL_isPaidSo 76 = .ok (.invokevirtual 30, 3) := by decide +kernel
theorem dL_isPaidSo_79 : decode cL_isPaidSo 79 = .ok (.iload 7, 2) := by decide +kernel
theorem dL_isPaidSo_81 : decode cL_isPaidSo 81 = .ok (.iload_n 3, 1) := by decide +kernel
theorem dL_isPaidSo_82 : decode cL_isPaidSo 82 = .ok (.iadd, 1) := by decide +kernel
theorem dL_isPaidSo_83 : decode cL_isPaidSo 83 = .ok (.if_icmp .ne 21, 3) := by decide +kernel
theorem dL_isPaidSo_86 : decode cL_isPaidSo 86 = .ok (.aload_n 1, 1) := by decide +kernel
theorem dL_isPaidSo_87 : decode cL_isPaidSo 87 = .ok (.iload_n 2, 1) := by decide +kernel
theorem dL_isPaidSo_88 : decode cL_isPaidSo 88 = .ok (.iconst 2, 1) := by decide +kernel
theorem dL_isPaidSo_89 : decode cL_isPaidSo 89 = .ok (.iload_n 3, 1) := by decide +kernel
theorem dL_isPaidSo_90 : decode cL_isPaidSo 90 = .ok (.invokevirtual 30, 3) := by decide +kernel
theorem dL_isPaidSo_93 : decode cL_isPaidSo 93 = .ok (.iload 7, 2) := by decide +kernel
theorem dL_isPaidSo_95 : decode cL_isPaidSo 95 = .ok (.iload_n 3, 1) := by decide +kernel
theorem dL_isPaidSo_96 : decode cL_isPaidSo 96 = .ok (.iadd, 1) := by decide +kernel
theorem dL_isPaidSo_97 : decode cL_isPaidSo 97 = .ok (.if_icmp .ne 7, 3) := by decide +kernel
theorem dL_isPaidSo_100 : decode cL_isPaidSo 100 = .ok (.iconst 1, 1) := by decide +kernel
theorem dL_isPaidSo_101 : decode cL_isPaidSo 101 = .ok (.goto 4, 3) := by decide +kernel
theorem dL_isPaidSo_104 : decode cL_isPaidSo 104 = .ok (.iconst 0, 1) := by decide +kernel
theorem dL_isPaidSo_105 : decode cL_isPaidSo 105 = .ok (.istore 6, 2) := by decide +kernel
theorem dL_isPaidSo_107 : decode cL_isPaidSo 107 = .ok (.iload 6, 2) := by decide +kernel
theorem dL_isPaidSo_109 : decode cL_isPaidSo 109 = .ok (.ifCond .eq 29, 3) := by decide +kernel
theorem dL_isPaidSo_112 : decode cL_isPaidSo 112 = .ok (.aload_n 0, 1) := by decide +kernel
theorem dL_isPaidSo_113 : decode cL_isPaidSo 113 = .ok (.iload_n 2, 1) := by decide +kernel
theorem dL_isPaidSo_114 : decode cL_isPaidSo 114 = .ok (.invokevirtual 106, 3) := by decide +kernel
theorem dL_isPaidSo_117 : decode cL_isPaidSo 117 = .ok (.iload 4, 2) := by decide +kernel
theorem dL_isPaidSo_119 : decode cL_isPaidSo 119 = .ok (.iload_n 3, 1) := by decide +kernel
theorem dL_isPaidSo_120 : decode cL_isPaidSo 120 = .ok (.isub, 1) := by decide +kernel
theorem dL_isPaidSo_121 : decode cL_isPaidSo 121 = .ok (.if_icmp .lt 17, 3) := by decide +kernel
theorem dL_isPaidSo_124 : decode cL_isPaidSo 124 = .ok (.aload_n 0, 1) := by decide +kernel
theorem dL_isPaidSo_125 : decode cL_isPaidSo 125 = .ok (.iload_n 2, 1) := by decide +kernel
theorem dL_isPaidSo_126 : decode cL_isPaidSo 126 = .ok (.invokevirtual 106, 3) := by decide +kernel
theorem dL_isPaidSo_129 : decode cL_isPaidSo 129 = .ok (.iload 4, 2) := by decide +kernel
theorem dL_isPaidSo_131 : decode cL_isPaidSo 131 = .ok (.if_icmp .gt 7, 3) := by decide +kernel
theorem dL_isPaidSo_134 : decode cL_isPaidSo 134 = .ok (.iconst 1, 1) := by decide +kernel
theorem dL_isPaidSo_135 : decode cL_isPaidSo 135 = .ok (.goto 4, 3) := by decide +kernel
theorem dL_isPaidSo_138 : decode cL_isPaidSo 138 = .ok (.iconst 0, 1) := by decide +kernel
theorem dL_isPaidSo_139 : decode cL_isPaidSo 139 = .ok (.ireturn, 1) := by decide +kernel
set_option maxRecDepth 20000 in
theorem ggL_isDroppedSo_X4_charged : GoodIn wsL_isDroppedSo wsX4_charged := goodIn_ca (goodIn_ca (goodIn_r _ [6, 7, 8, 9, 10, 11, 5, 12, 13, 14, 15, 16, 17, 18, 19, 20, 21, 22, 23, 24, 25, 26, 27, 28, 29, 30, 31, 32, 33, 34, 35, 36, 37, 38, 39, 40, 41, 42, 43, 44, 45, 46, 47, 48, 260, 261, 262, 263, 264, 265, 266, 267, 268, 269, 270, 271, 272, 273, 274, 275, 276, 277, 278, 279, 280, 281, 282] (by decide +kernel) (by decide +kernel)) (goodIn_sub (fun _ h => List.mem_cons_of_mem _ (List.mem_append_left _ (List.mem_append_left _ (List.mem_append_right _ h)))) (by decide +kernel))) (goodIn_sub (fun _ h => List.mem_cons_of_mem _ (List.mem_append_left _ (List.mem_append_right _ h))) (by decide +kernel))
set_option maxRecDepth 20000 in
theorem gL_isDroppedSo_X4_charged : GoodIn wsL_isDroppedSo (wsV RL 97 RX4 yX4_charged wsX4_charged) := goodIn_app (goodIn_of _ (by decide +kernel)) ggL_isDroppedSo_X4_charged
set_option maxRecDepth 20000 in
theorem ggL_isDroppedSo_X4_credits : GoodIn wsL_isDroppedSo wsX4_credits := goodIn_ca (goodIn_r _ [52, 25, 9, 10, 11, 5, 12, 13, 14, 15, 37, 38, 39, 40, 41, 42, 269, 270, 271, 272, 273, 274, 275, 276, 277, 278, 279, 260, 261, 262, 263, 264, 265, 266, 267, 268, 280, 281, 282] (by decide +kernel) (by decide +kernel)) (goodIn_sub (fun _ h => List.mem_cons_of_mem _ (List.mem_append_left _ (List.mem_append_right _ h))) (by decide +kernel))
set_option maxRecDepth 20000 in
theorem gL_isDroppedSo_X4_credits : GoodIn wsL_isDroppedSo (wsV RL 94 RX4 yX4_credits wsX4_credits) := goodIn_app (goodIn_of _ (by decide +kernel)) ggL_isDroppedSo_X4_credits
set_option maxRecDepth 20000 in
theorem ggL_isDroppedSo_L_does : GoodIn wsL_isDroppedSo wsL_does := goodIn_ca (goodIn_ca (goodIn_ca (goodIn_r _ [56, 57, 58, 59, 1, 60, 61, 62, 5, 63, 7, 8, 36, 64, 29, 30, 31, 16, 17, 18, 65, 66, 55, 67, 68, 69, 70, 71, 47, 48, 72, 73, 74, 75, 76, 77, 78, 79, 80, 81, 82, 23, 24, 83, 9, 10, 11, 12, 13, 14, 15, 84, 85, 86, 87, 88, 89, 90, 91, 92, 93, 94, 95, 96, 97, 98, 99, 100, 25, 101, 102, 103, 40, 104, 105, 42, 106, 107, 108, 109, 110, 111, 112, 113, 114, 115, 116, 117, 118, 119, 120, 121, 26, 32, 33, 34, 35, 37, 38, 39, 41, 43, 44, 45, 46, 122, 123, 124, 125, 126, 127, 128, 129, 130, 131, 132, 133, 134, 27, 28, 135, 136, 137, 138, 139, 140, 141, 142, 143, 144, 145, 146, 147, 148, 149, 150, 151, 152, 153, 154, 155, 156, 157, 158, 159, 160, 161, 162, 19, 20, 21, 22, 163, 164, 165, 166, 167, 168, 169, 170, 171, 172, 173, 174, 175, 176, 177, 178, 179, 180, 181, 182, 183, 184, 185, 186, 187, 188, 189, 190, 191, 192, 193, 194, 195, 196, 197, 198, 199, 200, 201, 202, 203, 204, 205, 206, 207, 208, 209, 210, 211, 212, 213, 214, 215, 216, 217, 218, 219, 220, 221, 222, 223, 224, 225, 226, 227, 228, 229, 230, 231, 232, 233, 234, 235, 236, 237, 238, 239, 240, 241, 242, 243, 244, 245, 246, 247, 248, 249, 250, 251, 252, 253, 254, 255, 256, 257, 258, 259, 260, 261, 262, 263, 264, 265, 266, 267, 268, 269, 270, 271, 272, 273, 274, 275, 276, 277, 278, 279, 280, 281, 282, 283, 284, 285, 286, 287, 288, 289, 290, 291] (by decide +kernel) (by decide +kernel)) (goodIn_sub (fun _ h => List.mem_cons_of_mem _ (List.mem_append_left _ (List.mem_append_left _ (List.mem_append_right _ h)))) (by decide +kernel))) (goodIn_sub (fun _ h => List.mem_cons_of_mem _ (List.mem_append_left _ (List.mem_append_right _ h))) (by decide +kernel))) (goodIn_sub (fun _ h => List.mem_cons_of_mem _ (List.mem_append_right _ h)) (by decide +kernel))
set_option maxRecDepth 20000 in
theorem gL_isDroppedSo_L_does : GoodIn wsL_isDroppedSo (va_wsS RL 84 yL_does wsL_does) := goodIn_app (goodIn_of _ (by decide +kernel)) ggL_isDroppedSo_L_does
set_option maxRecDepth 20000 in
theorem ggL_isDroppedSo_X4_drop : GoodIn wsL_isDroppedSo wsX4_drop := goodIn_ca (goodIn_ca (goodIn_r _ [109, 13, 14, 99, 100, 25, 9, 10, 11, 5, 12, 15, 110, 111, 112, 40, 113, 105, 114, 115, 116, 117, 42, 118, 119, 120, 121, 23, 24, 26, 29, 30, 31, 32, 33, 34, 35, 36, 37, 38, 39, 41, 43, 44, 45, 46, 47, 48, 122, 123, 124, 125, 126, 127, 128, 129, 130, 94, 269, 270, 271, 272, 273, 274, 275, 276, 277, 278, 279, 260, 261, 262, 263, 264, 265, 266, 267, 268, 280, 281, 282] (by decide +kernel) (by decide +kernel)) (goodIn_sub (fun _ h => List.mem_cons_of_mem _ (List.mem_append_left _ (List.mem_append_right _ h))) (by decide +kernel))) (goodIn_sub (fun _ h => List.mem_cons_of_mem _ (List.mem_append_right _ h)) (by decide +kernel))
set_option maxRecDepth 20000 in
theorem gL_isDroppedSo_X4_drop : GoodIn wsL_isDroppedSo (wsV RL 27 RX4 yX4_drop wsX4_drop) := goodIn_app (goodIn_of _ (by decide +kernel)) ggL_isDroppedSo_X4_drop
theorem dL_isDroppedSo_0 : decode cL_isDroppedSo 0 = .ok (.aload_n 0, 1) := by decide +kernel
theorem dL_isDroppedSo_1 : decode cL_isDroppedSo 1 = .ok (.iload_n 2, 1) := by decide +kernel
theorem dL_isDroppedSo_2 : decode cL_isDroppedSo 2 = .ok (.iconst 0, 1) := by decide +kernel
theorem dL_isDroppedSo_3 : decode cL_isDroppedSo 3 = .ok (.invokevirtual 97, 3) := by decide +kernel
theorem dL_isDroppedSo_6 : decode cL_isDroppedSo 6 = .ok (.istore 4, 2) := by decide +kernel
theorem dL_isDroppedSo_8 : decode cL_isDroppedSo 8 = .ok (.aload_n 0, 1) := by decide +kernel
theorem dL_isDroppedSo_9 : decode cL_isDroppedSo 9 = .ok (.iload_n 2, 1) := by decide +kernel
theorem dL_isDroppedSo_10 : decode cL_isDroppedSo 10 = .ok (.invokevirtual 94, 3) := by decide +kernel
theorem dL_isDroppedSo_13 : decode cL_isDroppedSo 13 = .ok (.istore 5, 2) := by decide +kernel
theorem dL_isDroppedSo_15 : decode cL_isDroppedSo 15 = .ok (.aload_n 0, 1) := by decide +kernel
theorem dL_isDroppedSo_16 : decode cL_isDroppedSo 16 = .ok (.iconst 5, 1) := by decide +kernel
theorem dL_isDroppedSo_17 : decode cL_isDroppedSo 17 = .ok (.iload_n 2, 1) := by decide +kernel
theorem dL_isDroppedSo_18 : decode cL_isDroppedSo 18 = .ok (.iload_n 3, 1) := by decide +kernel
theorem dL_isDroppedSo_19 : decode cL_isDroppedSo 19 = .ok (.iconst 0, 1) := by decide +kernel
theorem dL_isDroppedSo_20 : decode cL_isDroppedSo 20 = .ok (.invokestatic 84, 3) := by decide +kernel
theorem dL_isDroppedSo_23 : decode cL_isDroppedSo 23 = .ok (.istore 6, 2) := by decide +kernel
theorem dL_isDroppedSo_25 : decode cL_isDroppedSo 25 = .ok (.aload_n 1, 1) := by decide +kernel
theorem dL_isDroppedSo_26 : decode cL_isDroppedSo 26 = .ok (.iconst 5, 1) := by decide +kernel
theorem dL_isDroppedSo_27 : decode cL_isDroppedSo 27 = .ok (.iload_n 2, 1) := by decide +kernel
theorem dL_isDroppedSo_28 : decode cL_isDroppedSo 28 = .ok (.iload_n 3, 1) := by decide +kernel
theorem dL_isDroppedSo_29 : decode cL_isDroppedSo 29 = .ok (.iconst 0, 1) := by decide +kernel
theorem dL_isDroppedSo_30 : decode cL_isDroppedSo 30 = .ok (.invokestatic 84, 3) := by decide +kernel
theorem dL_isDroppedSo_33 : decode cL_isDroppedSo 33 = .ok (.iload 6, 2) := by decide +kernel
theorem dL_isDroppedSo_35 : decode cL_isDroppedSo 35 = .ok (.if_icmp .ne 7, 3) := by decide +kernel
theorem dL_isDroppedSo_38 : decode cL_isDroppedSo 38 = .ok (.iconst 1, 1) := by decide +kernel
theorem dL_isDroppedSo_39 : decode cL_isDroppedSo 39 = .ok (.goto 4, 3) := by decide +kernel
theorem dL_isDroppedSo_42 : decode cL_isDroppedSo 42 = .ok (.iconst 0, 1) := by decide +kernel
theorem dL_isDroppedSo_43 : decode cL_isDroppedSo 43 = .ok (.istore 7, 2) := by decide +kernel
theorem dL_isDroppedSo_45 : decode cL_isDroppedSo 45 = .ok (.iload 6, 2) := by decide +kernel
theorem dL_isDroppedSo_47 : decode cL_isDroppedSo 47 = .ok (.ifCond .ge 24, 3) := by decide +kernel
theorem dL_isDroppedSo_50 : decode cL_isDroppedSo 50 = .ok (.iload 7, 2) := by decide +kernel
theorem dL_isDroppedSo_52 : decode cL_isDroppedSo 52 = .ok (.ifCond .eq 17, 3) := by decide +kernel
theorem dL_isDroppedSo_55 : decode cL_isDroppedSo 55 = .ok (.aload_n 0, 1) := by decide +kernel
theorem dL_isDroppedSo_56 : decode cL_isDroppedSo 56 = .ok (.iload_n 2, 1) := by decide +kernel
theorem dL_isDroppedSo_57 : decode cL_isDroppedSo 57 = .ok (.invokevirtual 94, 3) := by decide +kernel
theorem dL_isDroppedSo_60 : decode cL_isDroppedSo 60 = .ok (.iload 5, 2) := by decide +kernel
theorem dL_isDroppedSo_62 : decode cL_isDroppedSo 62 = .ok (.if_icmp .ne 7, 3) := by decide +kernel
theorem dL_isDroppedSo_65 : decode cL_isDroppedSo 65 = .ok (.iconst 1, 1) := by decide +kernel
theorem dL_isDroppedSo_66 : decode cL_isDroppedSo 66 = .ok (.goto 4, 3) := by decide +kernel
theorem dL_isDroppedSo_69 : decode cL_isDroppedSo 69 = .ok (.iconst 0, 1) := by decide +kernel
theorem dL_isDroppedSo_70 : decode cL_isDroppedSo 70 = .ok (.ireturn, 1) := by decide +kernel
theorem dL_isDroppedSo_71 : decode cL_isDroppedSo 71 = .ok (.aload_n 0, 1) := by decide +kernel
theorem dL_isDroppedSo_72 : decode cL_isDroppedSo 72 = .ok (.iload_n 2, 1) := by decide +kernel
theorem dL_isDroppedSo_73 : decode cL_isDroppedSo 73 = .ok (.iconst 0, 1) := by decide +kernel
theorem dL_isDroppedSo_74 : decode cL_isDroppedSo 74 = .ok (.invokevirtual 97, 3) := by decide +kernel
theorem dL_isDroppedSo_77 : decode cL_isDroppedSo 77 = .ok (.istore 8, 2) := by decide +kernel
theorem dL_isDroppedSo_79 : decode cL_isDroppedSo 79 = .ok (.iload 7, 2) := by decide +kernel
theorem dL_isDroppedSo_81 : decode cL_isDroppedSo 81 = .ok (.ifCond .eq 26, 3) := by decide +kernel
theorem dL_isDroppedSo_84 : decode cL_isDroppedSo 84 = .ok (.aload_n 0, 1) := by decide +kernel
theorem dL_isDroppedSo_85 : decode cL_isDroppedSo 85 = .ok (.iload_n 2, 1) := by decide +kernel
theorem dL_isDroppedSo_86 : decode cL_isDroppedSo 86 = .ok (.invokevirtual 94, 3) := by decide +kernel
theorem dL_isDroppedSo_89 : decode cL_isDroppedSo 89 = .ok (.iload 5, 2) := by decide +kernel
theorem dL_isDroppedSo_91 : decode cL_isDroppedSo 91 = .ok (.iload_n 3, 1) := by decide +kernel
theorem dL_isDroppedSo_92 : decode cL_isDroppedSo 92 = .ok (.iadd, 1) := by decide +kernel
theorem dL_isDroppedSo_93 : decode cL_isDroppedSo 93 = .ok (.if_icmp .ne 14, 3) := by decide +kernel
theorem dL_isDroppedSo_96 : decode cL_isDroppedSo 96 = .ok (.iload 8, 2) := by decide +kernel
theorem dL_isDroppedSo_98 : decode cL_isDroppedSo 98 = .ok (.iload 4, 2) := by decide +kernel
theorem dL_isDroppedSo_100 : decode cL_isDroppedSo 100 = .ok (.if_icmp .lt 7, 3) := by decide +kernel
theorem dL_isDroppedSo_103 : decode cL_isDroppedSo 103 = .ok (.iconst 1, 1) := by decide +kernel
theorem dL_isDroppedSo_104 : decode cL_isDroppedSo 104 = .ok (.goto 4, 3) := by decide +kernel
theorem dL_isDroppedSo_107 : decode cL_isDroppedSo 107 = .ok (.iconst 0, 1) := by decide +kernel
theorem dL_isDroppedSo_108 : decode cL_isDroppedSo 108 = .ok (.istore 7, 2) := by decide +kernel
theorem dL_isDroppedSo_110 : decode cL_isDroppedSo 110 = .ok (.aload_n 0, 1) := by decide +kernel
theorem dL_isDroppedSo_111 : decode cL_isDroppedSo 111 = .ok (.iload_n 2, 1) := by decide +kernel
theorem dL_isDroppedSo_112 : decode cL_isDroppedSo 112 = .ok (.iload 6, 2) := by decide +kernel
theorem dL_isDroppedSo_114 : decode cL_isDroppedSo 114 = .ok (.invokevirtual 27, 3) := by decide +kernel
theorem dL_isDroppedSo_117 : decode cL_isDroppedSo 117 = .ok (.istore 9, 2) := by decide +kernel
theorem dL_isDroppedSo_119 : decode cL_isDroppedSo 119 = .ok (.iload 7, 2) := by decide +kernel
theorem dL_isDroppedSo_121 : decode cL_isDroppedSo 121 = .ok (.ifCond .eq 73, 3) := by decide +kernel
theorem dL_isDroppedSo_124 : decode cL_isDroppedSo 124 = .ok (.aload_n 1, 1) := by decide +kernel
theorem dL_isDroppedSo_125 : decode cL_isDroppedSo 125 = .ok (.iload_n 2, 1) := by decide +kernel
theorem dL_isDroppedSo_126 : decode cL_isDroppedSo 126 = .ok (.iload 6, 2) := by decide +kernel
theorem dL_isDroppedSo_128 : decode cL_isDroppedSo 128 = .ok (.invokevirtual 27, 3) := by decide +kernel
theorem dL_isDroppedSo_131 : decode cL_isDroppedSo 131 = .ok (.iload 9, 2) := by decide +kernel
theorem dL_isDroppedSo_133 : decode cL_isDroppedSo 133 = .ok (.if_icmp .ne 61, 3) := by decide +kernel
theorem dL_isDroppedSo_136 : decode cL_isDroppedSo 136 = .ok (.iload 9, 2) := by decide +kernel
theorem dL_isDroppedSo_138 : decode cL_isDroppedSo 138 = .ok (.ifCond .lt 56, 3) := by decide +kernel
theorem dL_isDroppedSo_141 : decode cL_isDroppedSo 141 = .ok (.iload 9, 2) := by decide +kernel
theorem dL_isDroppedSo_143 : decode cL_isDroppedSo 143 = .ok (.iload 8, 2) := by decide +kernel
theorem dL_isDroppedSo_145 : decode cL_isDroppedSo 145 = .ok (.iload 4, 2) := by decide +kernel
theorem dL_isDroppedSo_147 : decode cL_isDroppedSo 147 = .ok (.isub, 1) := by decide +kernel
theorem dL_isDroppedSo_148 : decode cL_isDroppedSo 148 = .ok (.if_icmp .gt 46, 3) := by decide +kernel
theorem dL_isDroppedSo_151 : decode cL_isDroppedSo 151 = .ok (.aload_n 0, 1) := by decide +kernel
theorem dL_isDroppedSo_152 : decode cL_isDroppedSo 152 = .ok (.iload_n 2, 1) := by decide +kernel
theorem dL_isDroppedSo_153 : decode cL_isDroppedSo 153 = .ok (.iconst 0, 1) := by decide +kernel
theorem dL_isDroppedSo_154 : decode cL_isDroppedSo 154 = .ok (.invokevirtual 97, 3) := by decide +kernel
theorem dL_isDroppedSo_157 : decode cL_isDroppedSo 157 = .ok (.iload 4, 2) := by decide +kernel
theorem dL_isDroppedSo_159 : decode cL_isDroppedSo 159 = .ok (.iload 9, 2) := by decide +kernel
theorem dL_isDroppedSo_161 : decode cL_isDroppedSo 161 = .ok (.iadd, 1) := by decide +kernel
theorem dL_isDroppedSo_162 : decode cL_isDroppedSo 162 = .ok (.if_icmp .ne 32, 3) := by decide +kernel
theorem dL_isDroppedSo_165 : decode cL_isDroppedSo 165 = .ok (.aload_n 0, 1) := by decide +kernel
theorem dL_isDroppedSo_166 : decode cL_isDroppedSo 166 = .ok (.iload_n 2, 1) := by decide +kernel
theorem dL_isDroppedSo_167 : decode cL_isDroppedSo 167 = .ok (.invokevirtual 94, 3) := by decide +kernel
theorem dL_isDroppedSo_170 : decode cL_isDroppedSo 170 = .ok (.iload 5, 2) := by decide +kernel
theorem dL_isDroppedSo_172 : decode cL_isDroppedSo 172 = .ok (.if_icmp .ne 22, 3) := by decide +kernel
theorem dL_isDroppedSo_175 : decode cL_isDroppedSo 175 = .ok (.aload_n 0, 1) := by decide +kernel
theorem dL_isDroppedSo_176 : decode cL_isDroppedSo 176 = .ok (.bipush 6, 2) := by decide +kernel
theorem dL_isDroppedSo_178 : decode cL_isDroppedSo 178 = .ok (.iload_n 2, 1) := by decide +kernel
theorem dL_isDroppedSo_179 : decode cL_isDroppedSo 179 = .ok (.iload 6, 2) := by decide +kernel
theorem dL_isDroppedSo_181 : decode cL_isDroppedSo 181 = .ok (.iconst 0, 1) := by decide +kernel
theorem dL_isDroppedSo_182 : decode cL_isDroppedSo 182 = .ok (.invokestatic 84, 3) := by decide +kernel
theorem dL_isDroppedSo_185 : decode cL_isDroppedSo 185 = .ok (.ldc 53, 2) := by decide +kernel
theorem dL_isDroppedSo_187 : decode cL_isDroppedSo 187 = .ok (.if_icmp .ne 7, 3) := by decide +kernel
theorem dL_isDroppedSo_190 : decode cL_isDroppedSo 190 = .ok (.iconst 1, 1) := by decide +kernel
theorem dL_isDroppedSo_191 : decode cL_isDroppedSo 191 = .ok (.goto 4, 3) := by decide +kernel
theorem dL_isDroppedSo_194 : decode cL_isDroppedSo 194 = .ok (.iconst 0, 1) := by decide +kernel
theorem dL_isDroppedSo_195 : decode cL_isDroppedSo 195 = .ok (.ireturn, 1) := by decide +kernel
set_option maxRecDepth 20000 in
theorem ggL_isClosedSo_X4_owed : GoodIn wsL_isClosedSo wsX4_owed := goodIn_ca (goodIn_r _ [7, 8, 9, 10, 6, 11, 12, 13, 14, 15, 16, 17, 18, 19, 20, 21, 22, 23, 24, 25, 26, 27, 28, 29, 30, 31, 32, 33, 34, 35, 36, 37, 38, 39, 40, 41, 42, 43, 44, 45, 46, 47, 48, 49, 50, 51, 52, 53, 54, 55, 56, 57, 58, 59, 60, 61, 62, 63, 64, 65, 66, 67, 68, 69, 70, 71, 72, 73, 74, 292, 293, 294, 295, 296, 297, 298, 299, 300, 301, 302, 303, 304, 305, 306, 307, 308, 309, 310, 311, 312, 313, 314, 315, 316, 317, 318] (by decide +kernel) (by decide +kernel)) (goodIn_sub (fun _ h => List.mem_cons_of_mem _ (List.mem_append_left _ (List.mem_append_left _ (List.mem_append_right _ h)))) (by decide +kernel))
set_option maxRecDepth 20000 in
theorem gL_isClosedSo_X4_owed : GoodIn wsL_isClosedSo (wsV RL 106 RX4 yX4_owed wsX4_owed) := goodIn_app (goodIn_of _ (by decide +kernel)) ggL_isClosedSo_X4_owed
set_option maxRecDepth 20000 in
theorem ggL_isClosedSo_X4_week : GoodIn wsL_isClosedSo wsX4_week := goodIn_r _ [78, 79, 292, 293, 294, 295, 296, 297, 298, 299, 300] (by decide +kernel) (by decide +kernel)
set_option maxRecDepth 20000 in
theorem gL_isClosedSo_X4_week : GoodIn wsL_isClosedSo (wsV RL 88 RX4 yX4_week wsX4_week) := goodIn_app (goodIn_of _ (by decide +kernel)) ggL_isClosedSo_X4_week
set_option maxRecDepth 20000 in
theorem ggL_isClosedSo_X4_term : GoodIn wsL_isClosedSo wsX4_term := goodIn_r _ [83, 84, 292, 293, 294, 295, 296, 297, 298, 299, 300] (by decide +kernel) (by decide +kernel)
set_option maxRecDepth 20000 in
theorem gL_isClosedSo_X4_term : GoodIn wsL_isClosedSo (wsV RL 91 RX4 yX4_term wsX4_term) := goodIn_app (goodIn_of _ (by decide +kernel)) ggL_isClosedSo_X4_term
set_option maxRecDepth 20000 in
theorem ggL_isClosedSo_X4_charged : GoodIn wsL_isClosedSo wsX4_charged := goodIn_ca (goodIn_ca (goodIn_r _ [88, 89, 90, 8, 9, 10, 6, 11, 12, 13, 14, 91, 92, 93, 26, 27, 28, 29, 30, 31, 32, 33, 34, 35, 36, 37, 38, 39, 40, 41, 42, 43, 44, 45, 46, 47, 48, 49, 50, 51, 52, 53, 54, 55, 292, 293, 294, 295, 296, 297, 298, 299, 300, 301, 302, 303, 304, 305, 306, 307, 308, 309, 310, 311, 312, 313, 314] (by decide +kernel) (by decide +kernel)) (goodIn_sub (fun _ h => List.mem_cons_of_mem _ (List.mem_append_left _ (List.mem_append_right _ h))) (by decide +kernel))) (goodIn_sub (fun _ h => List.mem_cons_of_mem _ (List.mem_append_left _ (List.mem_append_left _ (List.mem_append_right _ h)))) (by decide +kernel))
set_option maxRecDepth 20000 in
theorem gL_isClosedSo_X4_charged : GoodIn wsL_isClosedSo (wsV RL 97 RX4 yX4_charged wsX4_charged) := goodIn_app (goodIn_of _ (by decide +kernel)) ggL_isClosedSo_X4_charged
set_option maxRecDepth 20000 in
theorem ggL_isClosedSo_L_does : GoodIn wsL_isClosedSo wsL_does := goodIn_ca (goodIn_ca (goodIn_ca (goodIn_r _ [97, 98, 99, 100, 1, 101, 102, 103, 6, 104, 89, 90, 43, 105, 36, 37, 38, 91, 92, 93, 106, 107, 96, 108, 109, 110, 111, 112, 54, 55, 113, 114, 115, 116, 117, 118, 119, 120, 121, 122, 123, 30, 31, 20, 8, 9, 10, 11, 12, 13, 14, 124, 125, 126, 127, 60, 61, 128, 129, 130, 131, 132, 133, 134, 135, 136, 137, 138, 32, 139, 140, 141, 47, 142, 143, 49, 144, 145, 146, 147, 148, 149, 150, 151, 152, 153, 154, 155, 156, 157, 158, 159, 33, 39, 40, 41, 42, 44, 45, 46, 48, 50, 51, 52, 53, 160, 161, 162, 163, 164, 165, 166, 167, 79, 168, 169, 170, 171, 34, 35, 172, 173, 174, 175, 19, 176, 177, 178, 69, 179, 180, 71, 74, 181, 182, 183, 184, 21, 185, 186, 15, 16, 17, 18, 22, 23, 24, 25, 26, 27, 28, 29, 56, 57, 58, 59, 62, 63, 64, 65, 66, 67, 68, 70, 72, 73, 187, 188, 189, 190, 191, 192, 193, 194, 84, 195, 196, 197, 198, 199, 200, 201, 202, 203, 204, 205, 206, 207, 208, 209, 210, 211, 212, 213, 214, 215, 216, 217, 218, 219, 220, 221, 222, 223, 224, 225, 226, 227, 228, 229, 230, 231, 232, 233, 234, 235, 236, 237, 238, 239, 240, 241, 242, 243, 244, 245, 246, 247, 248, 249, 250, 251, 252, 253, 254, 255, 256, 257, 258, 259, 260, 261, 262, 263, 264, 265, 266, 267, 268, 292, 293, 294, 295, 296, 297, 298, 299, 300, 301, 302, 303, 304, 305, 306, 307, 308, 309, 310, 311, 312, 313, 314, 315, 316, 317, 318, 319, 320, 321, 322, 323] (by decide +kernel) (by decide +kernel)) (goodIn_sub (fun _ h => List.mem_cons_of_mem _ (List.mem_append_left _ (List.mem_append_right _ h))) (by decide +kernel))) (goodIn_sub (fun _ h => List.mem_cons_of_mem _ (List.mem_append_left _ (List.mem_append_left _ (List.mem_append_right _ h)))) (by decide +kernel))) (goodIn_sub (fun _ h => List.mem_cons_of_mem _ (List.mem_append_right _ h)) (by decide +kernel))
set_option maxRecDepth 20000 in
theorem gL_isClosedSo_L_does : GoodIn wsL_isClosedSo (va_wsS RL 84 yL_does wsL_does) := goodIn_app (goodIn_of _ (by decide +kernel)) ggL_isClosedSo_L_does
set_option maxRecDepth 20000 in
theorem ggL_isClosedSo_X4_credits : GoodIn wsL_isClosedSo wsX4_credits := goodIn_ca (goodIn_r _ [272, 32, 8, 9, 10, 6, 11, 12, 13, 14, 44, 45, 46, 47, 48, 49, 301, 302, 303, 304, 305, 306, 307, 308, 309, 310, 311, 292, 293, 294, 295, 296, 297, 298, 299, 300, 312, 313, 314] (by decide +kernel) (by decide +kernel)) (goodIn_sub (fun _ h => List.mem_cons_of_mem _ (List.mem_append_left _ (List.mem_append_left _ (List.mem_append_right _ h)))) (by decide +kernel))
set_option maxRecDepth 20000 in
theorem gL_isClosedSo_X4_credits : GoodIn wsL_isClosedSo (wsV RL 94 RX4 yX4_credits wsX4_credits) := goodIn_app (goodIn_of _ (by decide +kernel)) ggL_isClosedSo_X4_credits
set_option maxRecDepth 20000 in
theorem ggL_isClosedSo_X4_sponsored : GoodIn wsL_isClosedSo wsX4_sponsored := goodIn_ca (goodIn_r _ [276, 8, 9, 10, 6, 11, 12, 13, 14, 56, 57, 58, 59, 60, 61, 62, 63, 64, 65, 26, 27, 28, 29, 30, 31, 32, 33, 34, 35, 36, 37, 38, 39, 40, 41, 42, 43, 44, 45, 46, 47, 48, 49, 50, 51, 52, 53, 54, 55, 292, 293, 294, 295, 296, 297, 298, 299, 300, 301, 302, 303, 304, 305, 306, 307, 308, 309, 310, 311, 312, 313, 314] (by decide +kernel) (by decide +kernel)) (goodIn_sub (fun _ h => List.mem_cons_of_mem _ (List.mem_append_left _ (List.mem_append_left _ (List.mem_append_right _ h)))) (by decide +kernel))
set_option maxRecDepth 20000 in
theorem gL_isClosedSo_X4_sponsored : GoodIn wsL_isClosedSo (wsV RL 100 RX4 yX4_sponsored wsX4_sponsored) := goodIn_app (goodIn_of _ (by decide +kernel)) ggL_isClosedSo_X4_sponsored
set_option maxRecDepth 20000 in
theorem ggL_isClosedSo_L_used : GoodIn wsL_isClosedSo wsL_used := goodIn_ca (goodIn_r _ [279, 98, 1, 280, 281, 282, 6, 283, 12, 13, 19, 20, 8, 9, 10, 11, 14, 284, 285, 286, 69, 287, 180, 22, 23, 24, 25, 26, 27, 28, 29, 30, 31, 32, 33, 34, 35, 36, 37, 38, 39, 40, 41, 42, 43, 44, 45, 46, 47, 48, 49, 50, 51, 52, 53, 54, 55, 56, 57, 58, 59, 60, 61, 62, 63, 64, 65, 66, 67, 68, 70, 71, 72, 73, 74, 288, 289, 290, 291, 301, 302, 303, 304, 305, 306, 307, 308, 309, 310, 311, 292, 293, 294, 295, 296, 297, 298, 299, 300, 315, 316, 317, 318, 312, 313, 314] (by decide +kernel) (by decide +kernel)) (goodIn_sub (fun _ h => List.mem_cons_of_mem _ (List.mem_append_left _ (List.mem_append_left _ (List.mem_append_right _ h)))) (by decide +kernel))
set_option maxRecDepth 20000 in
theorem gL_isClosedSo_L_used : GoodIn wsL_isClosedSo (va_wsS RL 113 yL_used wsL_used) := goodIn_app (goodIn_of _ (by decide +kernel)) ggL_isClosedSo_L_used
theorem dL_isClosedSo_0 : decode cL_isClosedSo 0 = .ok (.aload_n 0, 1) := by decide +kernel
theorem dL_isClosedSo_1 : decode cL_isClosedSo 1 = .ok (.iconst 0, 1) := by decide +kernel
theorem dL_isClosedSo_2 : decode cL_isClosedSo 2 = .ok (.invokevirtual 106, 3) := by decide +kernel
theorem dL_isClosedSo_5 : decode cL_isClosedSo 5 = .ok (.aload_n 0, 1) := by decide +kernel
theorem dL_isClosedSo_6 : decode cL_isClosedSo 6 = .ok (.iconst 1, 1) := by decide +kernel
theorem dL_isClosedSo_7 : decode cL_isClosedSo 7 = .ok (.invokevirtual 106, 3) := by decide +kernel
theorem dL_isClosedSo_10 : decode cL_isClosedSo 10 = .ok (.iadd, 1) := by decide +kernel
theorem dL_isClosedSo_11 : decode cL_isClosedSo 11 = .ok (.istore_n 2, 1) := by decide +kernel
theorem dL_isClosedSo_12 : decode cL_isClosedSo 12 = .ok (.aload_n 0, 1) := by decide +kernel
theorem dL_isClosedSo_13 : decode cL_isClosedSo 13 = .ok (.invokevirtual 88, 3) := by decide +kernel
theorem dL_isClosedSo_16 : decode cL_isClosedSo 16 = .ok (.istore_n 3, 1) := by decide +kernel
theorem dL_isClosedSo_17 : decode cL_isClosedSo 17 = .ok (.aload_n 0, 1) := by decide +kernel
theorem dL_isClosedSo_18 : decode cL_isClosedSo 18 = .ok (.invokevirtual 91, 3) := by decide +kernel
theorem dL_isClosedSo_21 : decode cL_isClosedSo 21 = .ok (.istore 4, 2) := by decide +kernel
theorem dL_isClosedSo_23 : decode cL_isClosedSo 23 = .ok (.aload_n 0, 1) := by decide +kernel
theorem dL_isClosedSo_24 : decode cL_isClosedSo 24 = .ok (.iconst 0, 1) := by decide +kernel
theorem dL_isClosedSo_25 : decode cL_isClosedSo 25 = .ok (.iconst 1, 1) := by decide +kernel
theorem dL_isClosedSo_26 : decode cL_isClosedSo 26 = .ok (.invokevirtual 97, 3) := by decide +kernel
theorem dL_isClosedSo_29 : decode cL_isClosedSo 29 = .ok (.aload_n 0, 1) := by decide +kernel
theorem dL_isClosedSo_30 : decode cL_isClosedSo 30 = .ok (.iconst 1, 1) := by decide +kernel
theorem dL_isClosedSo_31 : decode cL_isClosedSo 31 = .ok (.iconst 1, 1) := by decide +kernel
theorem dL_isClosedSo_32 : decode cL_isClosedSo 32 = .ok (.invokevirtual 97, 3) := by decide +kernel
theorem dL_isClosedSo_35 : decode cL_isClosedSo 35 = .ok (.iadd, 1) := by decide +kernel
theorem dL_isClosedSo_36 : decode cL_isClosedSo 36 = .ok (.istore 5, 2) := by decide +kernel
theorem dL_isClosedSo_38 : decode cL_isClosedSo 38 = .ok (.aload_n 0, 1) := by decide +kernel
theorem dL_isClosedSo_39 : decode cL_isClosedSo 39 = .ok (.bipush 12, 2) := by decide +kernel
theorem dL_isClosedSo_41 : decode cL_isClosedSo 41 = .ok (.iconst 0, 1) := by decide +kernel
theorem dL_isClosedSo_42 : decode cL_isClosedSo 42 = .ok (.iconst 0, 1) := by decide +kernel
theorem dL_isClosedSo_43 : decode cL_isClosedSo 43 = .ok (.iconst 0, 1) := by decide +kernel
theorem dL_isClosedSo_44 : decode cL_isClosedSo 44 = .ok (.invokestatic 84, 3) := by decide +kernel
theorem dL_isClosedSo_47 : decode cL_isClosedSo 47 = .ok (.istore 6, 2) := by decide +kernel
theorem dL_isClosedSo_49 : decode cL_isClosedSo 49 = .ok (.iload 6, 2) := by decide +kernel
theorem dL_isClosedSo_51 : decode cL_isClosedSo 51 = .ok (.ldc 53, 2) := by decide +kernel
theorem dL_isClosedSo_53 : decode cL_isClosedSo 53 = .ok (.if_icmp .ne 36, 3) := by decide +kernel
theorem dL_isClosedSo_56 : decode cL_isClosedSo 56 = .ok (.aload_n 1, 1) := by decide +kernel
theorem dL_isClosedSo_57 : decode cL_isClosedSo 57 = .ok (.bipush 12, 2) := by decide +kernel
theorem dL_isClosedSo_59 : decode cL_isClosedSo 59 = .ok (.iconst 0, 1) := by decide +kernel
theorem dL_isClosedSo_60 : decode cL_isClosedSo 60 = .ok (.iconst 0, 1) := by decide +kernel
theorem dL_isClosedSo_61 : decode cL_isClosedSo 61 = .ok (.iconst 0, 1) := by decide +kernel
theorem dL_isClosedSo_62 : decode cL_isClosedSo 62 = .ok (.invokestatic 84, 3) := by decide +kernel
theorem dL_isClosedSo_65 : decode cL_isClosedSo 65 = .ok (.iload 6, 2) := by decide +kernel
theorem dL_isClosedSo_67 : decode cL_isClosedSo 67 = .ok (.if_icmp .ne 20, 3) := by decide +kernel
theorem dL_isClosedSo_70 : decode cL_isClosedSo 70 = .ok (.iload_n 3, 1) := by decide +kernel
theorem dL_isClosedSo_71 : decode cL_isClosedSo 71 = .ok (.bipush 15, 2) := by decide +kernel
theorem dL_isClosedSo_73 : decode cL_isClosedSo 73 = .ok (.if_icmp .ne 14, 3) := by decide +kernel
theorem dL_isClosedSo_76 : decode cL_isClosedSo 76 = .ok (.iload 4, 2) := by decide +kernel
theorem dL_isClosedSo_78 : decode cL_isClosedSo 78 = .ok (.bipush 9, 2) := by decide +kernel
theorem dL_isClosedSo_80 : decode cL_isClosedSo 80 = .ok (.if_icmp .ne 7, 3) := by decide +kernel
theorem dL_isClosedSo_83 : decode cL_isClosedSo 83 = .ok (.iconst 1, 1) := by decide +kernel
theorem dL_isClosedSo_84 : decode cL_isClosedSo 84 = .ok (.goto 4, 3) := by decide +kernel
theorem dL_isClosedSo_87 : decode cL_isClosedSo 87 = .ok (.iconst 0, 1) := by decide +kernel
theorem dL_isClosedSo_88 : decode cL_isClosedSo 88 = .ok (.ireturn, 1) := by decide +kernel
theorem dL_isClosedSo_89 : decode cL_isClosedSo 89 = .ok (.aload_n 1, 1) := by decide +kernel
theorem dL_isClosedSo_90 : decode cL_isClosedSo 90 = .ok (.bipush 12, 2) := by decide +kernel
theorem dL_isClosedSo_92 : decode cL_isClosedSo 92 = .ok (.iconst 0, 1) := by decide +kernel
theorem dL_isClosedSo_93 : decode cL_isClosedSo 93 = .ok (.iconst 0, 1) := by decide +kernel
theorem dL_isClosedSo_94 : decode cL_isClosedSo 94 = .ok (.iconst 0, 1) := by decide +kernel
theorem dL_isClosedSo_95 : decode cL_isClosedSo 95 = .ok (.invokestatic 84, 3) := by decide +kernel
theorem dL_isClosedSo_98 : decode cL_isClosedSo 98 = .ok (.iload 6, 2) := by decide +kernel
theorem dL_isClosedSo_100 : decode cL_isClosedSo 100 = .ok (.if_icmp .ne 49, 3) := by decide +kernel
theorem dL_isClosedSo_103 : decode cL_isClosedSo 103 = .ok (.iload 6, 2) := by decide +kernel
theorem dL_isClosedSo_105 : decode cL_isClosedSo 105 = .ok (.iload_n 3, 1) := by decide +kernel
theorem dL_isClosedSo_106 : decode cL_isClosedSo 106 = .ok (.iconst 1, 1) := by decide +kernel
theorem dL_isClosedSo_107 : decode cL_isClosedSo 107 = .ok (.iadd, 1) := by decide +kernel
theorem dL_isClosedSo_108 : decode cL_isClosedSo 108 = .ok (.bipush 16, 2) := by decide +kernel
theorem dL_isClosedSo_110 : decode cL_isClosedSo 110 = .ok (.irem, 1) := by decide +kernel
theorem dL_isClosedSo_111 : decode cL_isClosedSo 111 = .ok (.if_icmp .ne 38, 3) := by decide +kernel
theorem dL_isClosedSo_114 : decode cL_isClosedSo 114 = .ok (.aload_n 0, 1) := by decide +kernel
theorem dL_isClosedSo_115 : decode cL_isClosedSo 115 = .ok (.invokevirtual 88, 3) := by decide +kernel
theorem dL_isClosedSo_118 : decode cL_isClosedSo 118 = .ok (.iload 6, 2) := by decide +kernel
theorem dL_isClosedSo_120 : decode cL_isClosedSo 120 = .ok (.if_icmp .ne 29, 3) := by decide +kernel
theorem dL_isClosedSo_123 : decode cL_isClosedSo 123 = .ok (.aload_n 0, 1) := by decide +kernel
theorem dL_isClosedSo_124 : decode cL_isClosedSo 124 = .ok (.invokevirtual 91, 3) := by decide +kernel
theorem dL_isClosedSo_127 : decode cL_isClosedSo 127 = .ok (.iload_n 3, 1) := by decide +kernel
theorem dL_isClosedSo_128 : decode cL_isClosedSo 128 = .ok (.bipush 15, 2) := by decide +kernel
theorem dL_isClosedSo_130 : decode cL_isClosedSo 130 = .ok (.if_icmp .ne 10, 3) := by decide +kernel
theorem dL_isClosedSo_133 : decode cL_isClosedSo 133 = .ok (.iload 4, 2) := by decide +kernel
theorem dL_isClosedSo_135 : decode cL_isClosedSo 135 = .ok (.iconst 1, 1) := by decide +kernel
theorem dL_isClosedSo_136 : decode cL_isClosedSo 136 = .ok (.iadd, 1) := by decide +kernel
theorem dL_isClosedSo_137 : decode cL_isClosedSo 137 = .ok (.goto 5, 3) := by decide +kernel
theorem dL_isClosedSo_140 : decode cL_isClosedSo 140 = .ok (.iload 4, 2) := by decide +kernel
theorem dL_isClosedSo_142 : decode cL_isClosedSo 142 = .ok (.if_icmp .ne 7, 3) := by decide +kernel
theorem dL_isClosedSo_145 : decode cL_isClosedSo 145 = .ok (.iconst 1, 1) := by decide +kernel
theorem dL_isClosedSo_146 : decode cL_isClosedSo 146 = .ok (.goto 4, 3) := by decide +kernel
theorem dL_isClosedSo_149 : decode cL_isClosedSo 149 = .ok (.iconst 0, 1) := by decide +kernel
theorem dL_isClosedSo_150 : decode cL_isClosedSo 150 = .ok (.istore 7, 2) := by decide +kernel
theorem dL_isClosedSo_152 : decode cL_isClosedSo 152 = .ok (.iload_n 3, 1) := by decide +kernel
theorem dL_isClosedSo_153 : decode cL_isClosedSo 153 = .ok (.bipush 15, 2) := by decide +kernel
theorem dL_isClosedSo_155 : decode cL_isClosedSo 155 = .ok (.if_icmp .ge 53, 3) := by decide +kernel
theorem dL_isClosedSo_158 : decode cL_isClosedSo 158 = .ok (.iload 7, 2) := by decide +kernel
theorem dL_isClosedSo_160 : decode cL_isClosedSo 160 = .ok (.ifCond .eq 46, 3) := by decide +kernel
theorem dL_isClosedSo_163 : decode cL_isClosedSo 163 = .ok (.aload_n 0, 1) := by decide +kernel
theorem dL_isClosedSo_164 : decode cL_isClosedSo 164 = .ok (.iconst 0, 1) := by decide +kernel
theorem dL_isClosedSo_165 : decode cL_isClosedSo 165 = .ok (.iconst 1, 1) := by decide +kernel
theorem dL_isClosedSo_166 : decode cL_isClosedSo 166 = .ok (.invokevirtual 97, 3) := by decide +kernel
theorem dL_isClosedSo_169 : decode cL_isClosedSo 169 = .ok (.aload_n 0, 1) := by decide +kernel
theorem dL_isClosedSo_170 : decode cL_isClosedSo 170 = .ok (.iconst 1, 1) := by decide +kernel
theorem dL_isClosedSo_171 : decode cL_isClosedSo 171 = .ok (.iconst 1, 1) := by decide +kernel
theorem dL_isClosedSo_172 : decode cL_isClosedSo 172 = .ok (.invokevirtual 97, 3) := by decide +kernel
theorem dL_isClosedSo_175 : decode cL_isClosedSo 175 = .ok (.iadd, 1) := by decide +kernel
theorem dL_isClosedSo_176 : decode cL_isClosedSo 176 = .ok (.iload 5, 2) := by decide +kernel
theorem dL_isClosedSo_178 : decode cL_isClosedSo 178 = .ok (.if_icmp .lt 28, 3) := by decide +kernel
theorem dL_isClosedSo_181 : decode cL_isClosedSo 181 = .ok (.aload_n 0, 1) := by decide +kernel
theorem dL_isClosedSo_182 : decode cL_isClosedSo 182 = .ok (.iconst 0, 1) := by decide +kernel
theorem dL_isClosedSo_183 : decode cL_isClosedSo 183 = .ok (.iconst 1, 1) := by decide +kernel
theorem dL_isClosedSo_184 : decode cL_isClosedSo 184 = .ok (.invokevirtual 97, 3) := by decide +kernel
theorem dL_isClosedSo_187 : decode cL_isClosedSo 187 = .ok (.aload_n 0, 1) := by decide +kernel
theorem dL_isClosedSo_188 : decode cL_isClosedSo 188 = .ok (.iconst 1, 1) := by decide +kernel
theorem dL_isClosedSo_189 : decode cL_isClosedSo 189 = .ok (.iconst 1, 1) := by decide +kernel
theorem dL_isClosedSo_190 : decode cL_isClosedSo 190 = .ok (.invokevirtual 97, 3) := by decide +kernel
theorem dL_isClosedSo_193 : decode cL_isClosedSo 193 = .ok (.iadd, 1) := by decide +kernel
theorem dL_isClosedSo_194 : decode cL_isClosedSo 194 = .ok (.iload 5, 2) := by decide +kernel
theorem dL_isClosedSo_196 : decode cL_isClosedSo 196 = .ok (.ldc 119, 2) := by decide +kernel
theorem dL_isClosedSo_198 : decode cL_isClosedSo 198 = .ok (.iadd, 1) := by decide +kernel
theorem dL_isClosedSo_199 : decode cL_isClosedSo 199 = .ok (.if_icmp .gt 7, 3) := by decide +kernel
theorem dL_isClosedSo_202 : decode cL_isClosedSo 202 = .ok (.iconst 1, 1) := by decide +kernel
theorem dL_isClosedSo_203 : decode cL_isClosedSo 203 = .ok (.goto 4, 3) := by decide +kernel
theorem dL_isClosedSo_206 : decode cL_isClosedSo 206 = .ok (.iconst 0, 1) := by decide +kernel
theorem dL_isClosedSo_207 : decode cL_isClosedSo 207 = .ok (.ireturn, 1) := by decide +kernel
theorem dL_isClosedSo_208 : decode cL_isClosedSo 208 = .ok (.aload_n 0, 1) := by decide +kernel
theorem dL_isClosedSo_209 : decode cL_isClosedSo 209 = .ok (.iconst 0, 1) := by decide +kernel
theorem dL_isClosedSo_210 : decode cL_isClosedSo 210 = .ok (.invokevirtual 106, 3) := by decide +kernel
theorem dL_isClosedSo_213 : decode cL_isClosedSo 213 = .ok (.aload_n 0, 1) := by decide +kernel
theorem dL_isClosedSo_214 : decode cL_isClosedSo 214 = .ok (.iconst 1, 1) := by decide +kernel
theorem dL_isClosedSo_215 : decode cL_isClosedSo 215 = .ok (.invokevirtual 106, 3) := by decide +kernel
theorem dL_isClosedSo_218 : decode cL_isClosedSo 218 = .ok (.iadd, 1) := by decide +kernel
theorem dL_isClosedSo_219 : decode cL_isClosedSo 219 = .ok (.istore 8, 2) := by decide +kernel
theorem dL_isClosedSo_221 : decode cL_isClosedSo 221 = .ok (.iload 7, 2) := by decide +kernel
theorem dL_isClosedSo_223 : decode cL_isClosedSo 223 = .ok (.ifCond .eq 67, 3) := by decide +kernel
theorem dL_isClosedSo_226 : decode cL_isClosedSo 226 = .ok (.iload 8, 2) := by decide +kernel
theorem dL_isClosedSo_228 : decode cL_isClosedSo 228 = .ok (.iload_n 2, 1) := by decide +kernel
theorem dL_isClosedSo_229 : decode cL_isClosedSo 229 = .ok (.if_icmp .lt 61, 3) := by decide +kernel
theorem dL_isClosedSo_232 : decode cL_isClosedSo 232 = .ok (.iload 8, 2) := by decide +kernel
theorem dL_isClosedSo_234 : decode cL_isClosedSo 234 = .ok (.iload_n 2, 1) := by decide +kernel
theorem dL_isClosedSo_235 : decode cL_isClosedSo 235 = .ok (.ldc 119, 2) := by decide +kernel
theorem dL_isClosedSo_237 : decode cL_isClosedSo 237 = .ok (.iadd, 1) := by decide +kernel
theorem dL_isClosedSo_238 : decode cL_isClosedSo 238 = .ok (.if_icmp .gt 52, 3) := by decide +kernel
theorem dL_isClosedSo_241 : decode cL_isClosedSo 241 = .ok (.aload_n 0, 1) := by decide +kernel
theorem dL_isClosedSo_242 : decode cL_isClosedSo 242 = .ok (.iconst 0, 1) := by decide +kernel
theorem dL_isClosedSo_243 : decode cL_isClosedSo 243 = .ok (.invokevirtual 94, 3) := by decide +kernel
theorem dL_isClosedSo_246 : decode cL_isClosedSo 246 = .ok (.ifCond .ne 44, 3) := by decide +kernel
theorem dL_isClosedSo_249 : decode cL_isClosedSo 249 = .ok (.aload_n 0, 1) := by decide +kernel
theorem dL_isClosedSo_250 : decode cL_isClosedSo 250 = .ok (.iconst 1, 1) := by decide +kernel
theorem dL_isClosedSo_251 : decode cL_isClosedSo 251 = .ok (.invokevirtual 100, 3) := by decide +kernel
theorem dL_isClosedSo_254 : decode cL_isClosedSo 254 = .ok (.ifCond .ne 36, 3) := by decide +kernel
theorem dL_isClosedSo_257 : decode cL_isClosedSo 257 = .ok (.aload_n 0, 1) := by decide +kernel
theorem dL_isClosedSo_258 : decode cL_isClosedSo 258 = .ok (.iconst 0, 1) := by decide +kernel
theorem dL_isClosedSo_259 : decode cL_isClosedSo 259 = .ok (.iconst 0, 1) := by decide +kernel
theorem dL_isClosedSo_260 : decode cL_isClosedSo 260 = .ok (.invokestatic 113, 3) := by decide +kernel
theorem dL_isClosedSo_263 : decode cL_isClosedSo 263 = .ok (.ldc 53, 2) := by decide +kernel
theorem dL_isClosedSo_265 : decode cL_isClosedSo 265 = .ok (.if_icmp .ne 25, 3) := by decide +kernel
theorem dL_isClosedSo_268 : decode cL_isClosedSo 268 = .ok (.aload_n 0, 1) := by decide +kernel
theorem dL_isClosedSo_269 : decode cL_isClosedSo 269 = .ok (.iconst 0, 1) := by decide +kernel
theorem dL_isClosedSo_270 : decode cL_isClosedSo 270 = .ok (.invokevirtual 106, 3) := by decide +kernel
theorem dL_isClosedSo_273 : decode cL_isClosedSo 273 = .ok (.ldc 119, 2) := by decide +kernel
theorem dL_isClosedSo_275 : decode cL_isClosedSo 275 = .ok (.if_icmp .le 11, 3) := by decide +kernel
theorem dL_isClosedSo_278 : decode cL_isClosedSo 278 = .ok (.aload_n 0, 1) := by decide +kernel
theorem dL_isClosedSo_279 : decode cL_isClosedSo 279 = .ok (.iconst 1, 1) := by decide +kernel
theorem dL_isClosedSo_280 : decode cL_isClosedSo 280 = .ok (.invokevirtual 106, 3) := by decide +kernel
theorem dL_isClosedSo_283 : decode cL_isClosedSo 283 = .ok (.ifCond .lt 7, 3) := by decide +kernel
theorem dL_isClosedSo_286 : decode cL_isClosedSo 286 = .ok (.iconst 1, 1) := by decide +kernel
theorem dL_isClosedSo_287 : decode cL_isClosedSo 287 = .ok (.goto 4, 3) := by decide +kernel
theorem dL_isClosedSo_290 : decode cL_isClosedSo 290 = .ok (.iconst 0, 1) := by decide +kernel
theorem dL_isClosedSo_291 : decode cL_isClosedSo 291 = .ok (.ireturn, 1) := by decide +kernel
set_option maxRecDepth 20000 in
theorem ggL_law_X4_init : GoodIn wsL_law wsX4_init := goodIn_r _ [7, 8, 9, 10, 11, 12, 13, 14, 15, 16, 17, 18, 19, 20, 21, 22, 23, 24, 25, 26, 27, 28, 29, 30, 31, 32, 33, 34, 35, 36, 37, 38, 39, 40, 41, 42, 43, 44, 45, 46, 47, 48, 49, 50, 51, 52, 53, 54, 55, 56, 57, 58, 59, 60, 61, 62, 63, 64, 65, 66, 67, 68, 69, 70, 71, 373, 374, 375, 376, 377, 378, 379, 380, 381, 382, 383, 384, 385, 386, 387, 388, 389, 390, 391, 392, 393, 394, 395, 396, 397, 398, 399, 400, 401, 402, 403, 404] (by decide +kernel) (by decide +kernel)
set_option maxRecDepth 20000 in
theorem gL_law_X4_init : GoodIn wsL_law (wsX4_init) := ggL_law_X4_init
set_option maxRecDepth 20000 in
theorem ggL_law_L_cell : GoodIn wsL_law wsL_cell := goodIn_r _ [75] (by decide +kernel) (by decide +kernel)
set_option maxRecDepth 20000 in
theorem gL_law_L_cell : GoodIn wsL_law (va_wsS RL 121 yL_cell wsL_cell) := goodIn_app (goodIn_of _ (by decide +kernel)) ggL_law_L_cell

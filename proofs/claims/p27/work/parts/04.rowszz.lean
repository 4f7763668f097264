set_option maxRecDepth 20000 in
theorem ghL_law_L_act_0 : GoodIn wsL_law [.code yL_act cL_act 8 (some .int)] := goodIn_r _ [78] (by decide +kernel) (by decide +kernel)
set_option maxRecDepth 20000 in
theorem ghL_law_L_act_1 : GoodIn wsL_law wsL_act_r1 := goodIn_r _ [79, 80, 81, 82, 83, 84, 85, 86, 74, 87, 88, 89, 90, 91, 92, 93, 94, 3, 95, 96, 97, 2, 98, 99] (by decide +kernel) (by decide +kernel)
set_option maxRecDepth 20000 in
theorem ghL_law_L_act_2 : GoodIn wsL_law wsL_act_r2 := goodIn_r _ [100, 14, 101, 102, 103, 104, 105, 106, 107, 108, 109, 110, 111, 112, 113, 114, 16, 17, 115, 116, 117, 118, 119, 18] (by decide +kernel) (by decide +kernel)
set_option maxRecDepth 20000 in
theorem ghL_law_L_act_3 : GoodIn wsL_law wsL_act_r3 := goodIn_r _ [19, 120, 121, 122, 123, 124, 125, 126, 127, 128, 129, 130, 131, 132, 12, 133, 134, 135, 136, 137, 138, 139, 140, 141] (by decide +kernel) (by decide +kernel)
set_option maxRecDepth 20000 in
theorem ghL_law_L_act_4 : GoodIn wsL_law wsL_act_r4 := goodIn_r _ [142, 15, 143, 144, 145, 146, 147, 148, 149, 150, 151, 152, 29, 153, 51, 50, 154, 155, 156, 157, 158, 159, 160, 161] (by decide +kernel) (by decide +kernel)
set_option maxRecDepth 20000 in
theorem ghL_law_L_act_5 : GoodIn wsL_law wsL_act_r5 := goodIn_r _ [162, 163, 164, 165, 166, 167, 168, 169, 170, 171, 172, 173, 174, 175, 176, 177, 178, 179, 180, 181, 182, 183, 184, 185] (by decide +kernel) (by decide +kernel)
set_option maxRecDepth 20000 in
theorem ghL_law_L_act_6 : GoodIn wsL_law wsL_act_r6 := goodIn_r _ [186, 187, 188, 189, 190, 20, 191, 192, 193, 194, 195, 196, 197, 198, 199, 200, 201, 202, 203, 204, 33, 205, 59, 56] (by decide +kernel) (by decide +kernel)
set_option maxRecDepth 20000 in
theorem ghL_law_L_act_7 : GoodIn wsL_law wsL_act_r7 := goodIn_r _ [57, 206, 207, 208, 209, 210, 211, 212, 213, 214, 215, 216, 217, 218, 219, 220, 221, 222, 223, 224, 225, 226, 227, 228] (by decide +kernel) (by decide +kernel)
set_option maxRecDepth 20000 in
theorem ghL_law_L_act_8 : GoodIn wsL_law wsL_act_r8 := goodIn_r _ [229, 230, 231, 232, 233, 234, 235, 236, 237, 58, 238, 239, 240, 241, 242, 243, 244, 245, 21, 246, 247, 248, 37, 249] (by decide +kernel) (by decide +kernel)
set_option maxRecDepth 20000 in
theorem ghL_law_L_act_9 : GoodIn wsL_law wsL_act_r9 := goodIn_r _ [63, 64, 65, 66, 67, 250, 251, 252, 253, 254, 255, 256, 257, 258, 259, 260, 261, 262, 263, 264, 265, 266, 267, 268] (by decide +kernel) (by decide +kernel)
set_option maxRecDepth 20000 in
theorem ghL_law_L_act_10 : GoodIn wsL_law wsL_act_r10 := goodIn_r _ [269, 270, 271, 272, 273, 274, 275, 276, 277, 278, 279, 23, 280, 30, 34, 44, 45, 43, 281, 282, 283, 42, 46, 284] (by decide +kernel) (by decide +kernel)
set_option maxRecDepth 20000 in
theorem ghL_law_L_act_11 : GoodIn wsL_law wsL_act_r11 := goodIn_r _ [285, 286, 287, 52, 288, 69, 70, 71, 289, 290, 291, 292, 293, 294, 295, 296, 297, 298, 299, 300, 301] (by decide +kernel) (by decide +kernel)
theorem ghL_law_L_act_R : GoodIn wsL_law (.code yL_act cL_act 8 (some .int) :: (wsL_act_r1 ++ (wsL_act_r2 ++ (wsL_act_r3 ++ (wsL_act_r4 ++ (wsL_act_r5 ++ (wsL_act_r6 ++ (wsL_act_r7 ++ (wsL_act_r8 ++ (wsL_act_r9 ++ (wsL_act_r10 ++ wsL_act_r11))))))))))) := goodIn_app ghL_law_L_act_0 (goodIn_app ghL_law_L_act_1 (goodIn_app ghL_law_L_act_2 (goodIn_app ghL_law_L_act_3 (goodIn_app ghL_law_L_act_4 (goodIn_app ghL_law_L_act_5 (goodIn_app ghL_law_L_act_6 (goodIn_app ghL_law_L_act_7 (goodIn_app ghL_law_L_act_8 (goodIn_app ghL_law_L_act_9 (goodIn_app ghL_law_L_act_10 ghL_law_L_act_11))))))))))
set_option maxRecDepth 20000 in
theorem ggL_law_L_act : GoodIn wsL_law wsL_act := (goodIn_ca (goodIn_ca (goodIn_ca (goodIn_ca (goodIn_ca (goodIn_ca (goodIn_ca (goodIn_ca ghL_law_L_act_R (goodIn_sub inlX4 (by decide +kernel))) (goodIn_sub inlX3 (by decide +kernel))) (goodIn_sub inlX1 (by decide +kernel))) (goodIn_sub inlX0 (by decide +kernel))) (goodIn_sub inlX2 (by decide +kernel))) (goodIn_sub (fun _ h => List.mem_append_left _ (List.mem_append_left _ (List.mem_append_right _ h))) (by decide +kernel))) (goodIn_sub (fun _ h => List.mem_append_left _ (List.mem_append_right _ h)) (by decide +kernel))) (goodIn_sub (fun _ h => List.mem_append_right _ h) (by decide +kernel)))
set_option maxRecDepth 20000 in
theorem ghL_law_L_isDroppedSo_0 : GoodIn wsL_law [.code yL_isDroppedSo cL_isDroppedSo 10 (some .boolean)] := goodIn_r _ [368] (by decide +kernel) (by decide +kernel)
set_option maxRecDepth 20000 in
theorem ghL_law_L_isDroppedSo_1 : GoodIn wsL_law wsL_isDroppedSo_r1 := goodIn_r _ [3, 305, 306, 307, 2, 308, 99, 100, 127, 128, 129, 130, 131, 132, 12, 105, 106, 107, 221, 222, 223, 224, 124, 125] (by decide +kernel) (by decide +kernel)
set_option maxRecDepth 20000 in
theorem ghL_law_L_isDroppedSo_2 : GoodIn wsL_law wsL_isDroppedSo_r2 := goodIn_r _ [149, 170, 195, 196, 102, 103, 104, 171, 172, 173, 174, 14, 175, 176, 177, 29, 178, 50, 179, 180, 181, 182, 16, 17] (by decide +kernel) (by decide +kernel)
set_option maxRecDepth 20000 in
theorem ghL_law_L_isDroppedSo_3 : GoodIn wsL_law wsL_isDroppedSo_r3 := goodIn_r _ [313, 314, 315, 316, 89, 90, 74, 91, 92, 93, 94, 95, 96, 97, 98, 101, 108, 109, 110, 111, 112, 113, 114, 115] (by decide +kernel) (by decide +kernel)
set_option maxRecDepth 20000 in
theorem ghL_law_L_isDroppedSo_4 : GoodIn wsL_law wsL_isDroppedSo_r4 := goodIn_r _ [116, 117, 118, 119, 18, 19, 120, 121, 122, 123, 126, 133, 134, 135, 136, 137, 138, 139, 140, 141, 142, 15, 143, 144] (by decide +kernel) (by decide +kernel)
set_option maxRecDepth 20000 in
theorem ghL_law_L_isDroppedSo_5 : GoodIn wsL_law wsL_isDroppedSo_r5 := goodIn_r _ [145, 146, 147, 148, 150, 151, 152, 153, 51, 154, 155, 156, 157, 158, 159, 160, 161, 162, 163, 164, 165, 166, 167, 168] (by decide +kernel) (by decide +kernel)
set_option maxRecDepth 20000 in
theorem ghL_law_L_isDroppedSo_6 : GoodIn wsL_law wsL_isDroppedSo_r6 := goodIn_r _ [169, 183, 184, 185, 186, 187, 188, 189, 190, 20, 191, 192, 193, 194, 197, 198, 199, 200, 201, 202, 203, 204, 33, 205] (by decide +kernel) (by decide +kernel)
set_option maxRecDepth 20000 in
theorem ghL_law_L_isDroppedSo_7 : GoodIn wsL_law wsL_isDroppedSo_r7 := goodIn_r _ [59, 56, 57, 206, 207, 208, 209, 210, 211, 212, 213, 214, 215, 216, 217, 218, 219, 220, 225, 226, 227, 228, 229, 230] (by decide +kernel) (by decide +kernel)
set_option maxRecDepth 20000 in
theorem ghL_law_L_isDroppedSo_8 : GoodIn wsL_law wsL_isDroppedSo_r8 := goodIn_r _ [231, 232, 233, 234, 235, 236, 237, 58, 238, 239, 240, 241, 242, 243, 244, 245, 21, 246, 247, 248, 37, 249, 63, 64] (by decide +kernel) (by decide +kernel)
set_option maxRecDepth 20000 in
theorem ghL_law_L_isDroppedSo_9 : GoodIn wsL_law wsL_isDroppedSo_r9 := goodIn_r _ [65, 66, 67, 250, 251, 252, 253, 254, 255, 256, 257, 258, 259, 260, 261, 262, 263, 264, 265, 266, 267, 268, 269, 270] (by decide +kernel) (by decide +kernel)
set_option maxRecDepth 20000 in
theorem ghL_law_L_isDroppedSo_10 : GoodIn wsL_law wsL_isDroppedSo_r10 := goodIn_r _ [271, 272, 273, 274, 275, 276, 277, 278, 279, 23, 280, 30, 34, 44, 45, 43, 281, 282, 283, 42, 46, 284, 285, 286] (by decide +kernel) (by decide +kernel)
set_option maxRecDepth 20000 in
theorem ghL_law_L_isDroppedSo_11 : GoodIn wsL_law wsL_isDroppedSo_r11 := goodIn_r _ [287, 52, 288, 69, 70, 71, 289, 290, 291, 292, 293, 294, 295, 296, 297, 298, 299, 300, 301] (by decide +kernel) (by decide +kernel)
theorem ghL_law_L_isDroppedSo_R : GoodIn wsL_law (.code yL_isDroppedSo cL_isDroppedSo 10 (some .boolean) :: (wsL_isDroppedSo_r1 ++ (wsL_isDroppedSo_r2 ++ (wsL_isDroppedSo_r3 ++ (wsL_isDroppedSo_r4 ++ (wsL_isDroppedSo_r5 ++ (wsL_isDroppedSo_r6 ++ (wsL_isDroppedSo_r7 ++ (wsL_isDroppedSo_r8 ++ (wsL_isDroppedSo_r9 ++ (wsL_isDroppedSo_r10 ++ wsL_isDroppedSo_r11))))))))))) := goodIn_app ghL_law_L_isDroppedSo_0 (goodIn_app ghL_law_L_isDroppedSo_1 (goodIn_app ghL_law_L_isDroppedSo_2 (goodIn_app ghL_law_L_isDroppedSo_3 (goodIn_app ghL_law_L_isDroppedSo_4 (goodIn_app ghL_law_L_isDroppedSo_5 (goodIn_app ghL_law_L_isDroppedSo_6 (goodIn_app ghL_law_L_isDroppedSo_7 (goodIn_app ghL_law_L_isDroppedSo_8 (goodIn_app ghL_law_L_isDroppedSo_9 (goodIn_app ghL_law_L_isDroppedSo_10 ghL_law_L_isDroppedSo_11))))))))))
set_option maxRecDepth 20000 in
theorem ggL_law_L_isDroppedSo : GoodIn wsL_law wsL_isDroppedSo := (goodIn_ca (goodIn_ca (goodIn_ca (goodIn_ca (goodIn_ca (goodIn_ca (goodIn_ca (goodIn_ca ghL_law_L_isDroppedSo_R (goodIn_sub inlX4 (by decide +kernel))) (goodIn_sub inlX3 (by decide +kernel))) (goodIn_sub inlX1 (by decide +kernel))) (goodIn_sub inlX0 (by decide +kernel))) (goodIn_sub inlX2 (by decide +kernel))) (goodIn_sub (fun _ h => List.mem_append_left _ (List.mem_append_left _ (List.mem_append_right _ h))) (by decide +kernel))) (goodIn_sub (fun _ h => List.mem_append_left _ (List.mem_append_right _ h)) (by decide +kernel))) (goodIn_sub (fun _ h => List.mem_append_right _ h) (by decide +kernel)))
set_option maxRecDepth 20000 in
theorem ghL_law_L_isClosedSo_0 : GoodIn wsL_law [.code yL_isClosedSo cL_isClosedSo 9 (some .boolean)] := goodIn_r _ [371] (by decide +kernel) (by decide +kernel)
set_option maxRecDepth 20000 in
theorem ghL_law_L_isClosedSo_1 : GoodIn wsL_law wsL_isClosedSo_r1 := goodIn_r _ [3, 372, 340, 341, 342, 2, 343, 127, 128, 129, 130, 131, 132, 12, 213, 214, 215, 216, 201, 126, 210, 217, 218, 219] (by decide +kernel) (by decide +kernel)
set_option maxRecDepth 20000 in
theorem ghL_law_L_isClosedSo_2 : GoodIn wsL_law wsL_isClosedSo_r2 := goodIn_r _ [220, 221, 222, 223, 224, 124, 125, 149, 170, 195, 196, 102, 103, 104, 171, 172, 173, 174, 14, 175, 176, 177, 29, 178] (by decide +kernel) (by decide +kernel)
set_option maxRecDepth 20000 in
theorem ghL_law_L_isClosedSo_3 : GoodIn wsL_law wsL_isClosedSo_r3 := goodIn_r _ [50, 179, 180, 181, 182, 16, 17, 225, 226, 227, 228, 137, 138, 229, 230, 231, 232, 233, 234, 235, 33, 236, 56, 237] (by decide +kernel) (by decide +kernel)
set_option maxRecDepth 20000 in
theorem ghL_law_L_isClosedSo_4 : GoodIn wsL_law wsL_isClosedSo_r4 := goodIn_r _ [58, 57, 355, 356, 357, 358, 20, 359, 360, 361, 362, 21, 305, 306, 307, 308, 99, 100, 105, 106, 107, 89, 90, 74] (by decide +kernel) (by decide +kernel)
set_option maxRecDepth 20000 in
theorem ghL_law_L_isClosedSo_5 : GoodIn wsL_law wsL_isClosedSo_r5 := goodIn_r _ [91, 92, 93, 94, 95, 96, 97, 98, 101, 108, 109, 110, 111, 112, 113, 114, 115, 116, 117, 118, 119, 18, 19, 120] (by decide +kernel) (by decide +kernel)
set_option maxRecDepth 20000 in
theorem ghL_law_L_isClosedSo_6 : GoodIn wsL_law wsL_isClosedSo_r6 := goodIn_r _ [121, 122, 123, 133, 134, 135, 136, 139, 140, 141, 142, 15, 143, 144, 145, 146, 147, 148, 150, 151, 152, 153, 51, 154] (by decide +kernel) (by decide +kernel)
set_option maxRecDepth 20000 in
theorem ghL_law_L_isClosedSo_7 : GoodIn wsL_law wsL_isClosedSo_r7 := goodIn_r _ [155, 156, 157, 158, 159, 160, 161, 162, 163, 164, 165, 166, 167, 168, 169, 183, 184, 185, 186, 187, 188, 189, 190, 191] (by decide +kernel) (by decide +kernel)
set_option maxRecDepth 20000 in
theorem ghL_law_L_isClosedSo_8 : GoodIn wsL_law wsL_isClosedSo_r8 := goodIn_r _ [192, 193, 194, 197, 198, 199, 200, 202, 203, 204, 205, 59, 206, 207, 208, 209, 211, 212, 238, 239, 240, 241, 242, 243] (by decide +kernel) (by decide +kernel)
set_option maxRecDepth 20000 in
theorem ghL_law_L_isClosedSo_9 : GoodIn wsL_law wsL_isClosedSo_r9 := goodIn_r _ [244, 245, 246, 247, 248, 37, 249, 63, 64, 65, 66, 67, 250, 251, 252, 253, 254, 255, 256, 257, 258, 259, 260, 261] (by decide +kernel) (by decide +kernel)
set_option maxRecDepth 20000 in
theorem ghL_law_L_isClosedSo_10 : GoodIn wsL_law wsL_isClosedSo_r10 := goodIn_r _ [262, 263, 264, 265, 266, 267, 268, 269, 270, 271, 272, 273, 274, 275, 276, 277, 278, 279, 23, 280, 30, 34, 44, 45] (by decide +kernel) (by decide +kernel)
set_option maxRecDepth 20000 in
theorem ghL_law_L_isClosedSo_11 : GoodIn wsL_law wsL_isClosedSo_r11 := goodIn_r _ [43, 281, 282, 283, 42, 46, 284, 285, 286, 287, 52, 288, 69, 70, 71, 289, 290, 291, 292, 293, 294, 295, 296, 297] (by decide +kernel) (by decide +kernel)
set_option maxRecDepth 20000 in
theorem ghL_law_L_isClosedSo_12 : GoodIn wsL_law wsL_isClosedSo_r12 := goodIn_r _ [298, 299, 300, 301, 313, 314, 315, 316, 309, 310, 311, 312, 317, 318, 319, 320, 321, 322, 323, 324, 325, 326, 327, 328] (by decide +kernel) (by decide +kernel)
set_option maxRecDepth 20000 in
theorem ghL_law_L_isClosedSo_13 : GoodIn wsL_law wsL_isClosedSo_r13 := goodIn_r _ [329, 330, 331] (by decide +kernel) (by decide +kernel)
theorem ghL_law_L_isClosedSo_R : GoodIn wsL_law (.code yL_isClosedSo cL_isClosedSo 9 (some .boolean) :: (wsL_isClosedSo_r1 ++ (wsL_isClosedSo_r2 ++ (wsL_isClosedSo_r3 ++ (wsL_isClosedSo_r4 ++ (wsL_isClosedSo_r5 ++ (wsL_isClosedSo_r6 ++ (wsL_isClosedSo_r7 ++ (wsL_isClosedSo_r8 ++ (wsL_isClosedSo_r9 ++ (wsL_isClosedSo_r10 ++ (wsL_isClosedSo_r11 ++ (wsL_isClosedSo_r12 ++ wsL_isClosedSo_r13))))))))))))) := goodIn_app ghL_law_L_isClosedSo_0 (goodIn_app ghL_law_L_isClosedSo_1 (goodIn_app ghL_law_L_isClosedSo_2 (goodIn_app ghL_law_L_isClosedSo_3 (goodIn_app ghL_law_L_isClosedSo_4 (goodIn_app ghL_law_L_isClosedSo_5 (goodIn_app ghL_law_L_isClosedSo_6 (goodIn_app ghL_law_L_isClosedSo_7 (goodIn_app ghL_law_L_isClosedSo_8 (goodIn_app ghL_law_L_isClosedSo_9 (goodIn_app ghL_law_L_isClosedSo_10 (goodIn_app ghL_law_L_isClosedSo_11 (goodIn_app ghL_law_L_isClosedSo_12 ghL_law_L_isClosedSo_13))))))))))))
set_option maxRecDepth 20000 in
theorem ggL_law_L_isClosedSo : GoodIn wsL_law wsL_isClosedSo := (goodIn_ca (goodIn_ca (goodIn_ca (goodIn_ca (goodIn_ca (goodIn_ca (goodIn_ca (goodIn_ca ghL_law_L_isClosedSo_R (goodIn_sub inlX4 (by decide +kernel))) (goodIn_sub inlX3 (by decide +kernel))) (goodIn_sub inlX1 (by decide +kernel))) (goodIn_sub inlX0 (by decide +kernel))) (goodIn_sub inlX2 (by decide +kernel))) (goodIn_sub (fun _ h => List.mem_append_left _ (List.mem_append_right _ h)) (by decide +kernel))) (goodIn_sub (fun _ h => List.mem_append_left _ (List.mem_append_left _ (List.mem_append_right _ h))) (by decide +kernel))) (goodIn_sub (fun _ h => List.mem_append_right _ h) (by decide +kernel)))
set_option maxRecDepth 20000 in
theorem gL_law_L_act : GoodIn wsL_law (va_wsS RL 125 yL_act wsL_act) := goodIn_app (goodIn_of _ (by decide +kernel)) ggL_law_L_act
set_option maxRecDepth 20000 in
theorem gL_law_L_isDroppedSo : GoodIn wsL_law (va_wsS RL 142 yL_isDroppedSo wsL_isDroppedSo) := goodIn_app (goodIn_of _ (by decide +kernel)) ggL_law_L_isDroppedSo
set_option maxRecDepth 20000 in
theorem gL_law_L_isClosedSo : GoodIn wsL_law (va_wsS RL 145 yL_isClosedSo wsL_isClosedSo) := goodIn_app (goodIn_of _ (by decide +kernel)) ggL_law_L_isClosedSo

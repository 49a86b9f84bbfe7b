set_option maxRecDepth 20000 in
theorem ggL_law_L_low : GoodIn wsL_law wsL_low := goodIn_r _ [283, 284] (by decide +kernel) (by decide +kernel)
set_option maxRecDepth 20000 in
theorem gL_law_L_low : GoodIn wsL_law (va_wsS RL 64 yL_low wsL_low) := goodIn_app (goodIn_of _ (by decide +kernel)) ggL_law_L_low
theorem ggL_law_L_isRefundedSo_c : GoodIn wsL_law [.code yL_isRefundedSo cL_isRefundedSo 12 (some .boolean)] := goodIn_r _ [364] (by decide +kernel) (by decide +kernel)
set_option maxRecDepth 20000 in
theorem ggL_law_L_isRefundedSo_r1 : GoodIn wsL_law wsL_isRefundedSo_r1 := goodIn_r _ [3, 301, 302, 303, 2, 304, 162, 305, 306, 307, 308, 161, 313, 314, 69, 315, 74, 316, 317, 318, 319, 14, 178, 96] (by decide +kernel) (by decide +kernel)
set_option maxRecDepth 20000 in
theorem ggL_law_L_isRefundedSo_r2 : GoodIn wsL_law wsL_isRefundedSo_r2 := goodIn_r _ [97, 98, 99, 81, 82, 85, 320, 321, 322, 323, 18, 324, 325, 326, 17, 327, 173, 44, 49, 71, 72, 73, 75, 76] (by decide +kernel) (by decide +kernel)
set_option maxRecDepth 20000 in
theorem ggL_law_L_isRefundedSo_r3 : GoodIn wsL_law wsL_isRefundedSo_r3 := goodIn_r _ [77, 78, 79, 80, 83, 84, 86, 87, 88, 13, 89, 90, 33, 36, 38, 91, 92, 93, 94, 95, 100, 101, 102, 103] (by decide +kernel) (by decide +kernel)
set_option maxRecDepth 20000 in
theorem ggL_law_L_isRefundedSo_r4 : GoodIn wsL_law wsL_isRefundedSo_r4 := goodIn_r _ [104, 105, 106, 107, 108, 109, 110, 111, 112, 113, 114, 115, 116, 117, 118, 119, 120, 121, 122, 123, 124, 28, 125, 126] (by decide +kernel) (by decide +kernel)
set_option maxRecDepth 20000 in
theorem ggL_law_L_isRefundedSo_r5 : GoodIn wsL_law wsL_isRefundedSo_r5 := goodIn_r _ [127, 63, 64, 65, 66, 128, 129, 130, 131, 132, 133, 134, 135, 136, 137, 138, 139, 140, 141, 142, 143, 144, 145, 146] (by decide +kernel) (by decide +kernel)
set_option maxRecDepth 20000 in
theorem ggL_law_L_isRefundedSo_r6 : GoodIn wsL_law wsL_isRefundedSo_r6 := goodIn_r _ [147, 148, 149, 150, 151, 152, 153, 154, 155, 156, 157, 158, 159, 160, 163, 164, 165, 166, 167, 168, 169, 170, 171, 172] (by decide +kernel) (by decide +kernel)
set_option maxRecDepth 20000 in
theorem ggL_law_L_isRefundedSo_r7 : GoodIn wsL_law wsL_isRefundedSo_r7 := goodIn_r _ [47, 174, 175, 176, 177, 26, 179, 180, 181, 25, 182, 183, 61, 62, 184, 185, 186, 187, 60, 188, 189, 190, 191, 192] (by decide +kernel) (by decide +kernel)
set_option maxRecDepth 20000 in
theorem ggL_law_L_isRefundedSo_r8 : GoodIn wsL_law wsL_isRefundedSo_r8 := goodIn_r _ [193, 194, 195, 196, 197, 198, 199, 200, 201, 202, 203, 204, 205, 206, 22, 207, 208, 209, 210, 211, 212, 213, 214, 215] (by decide +kernel) (by decide +kernel)
set_option maxRecDepth 20000 in
theorem ggL_law_L_isRefundedSo_r9 : GoodIn wsL_law wsL_isRefundedSo_r9 := goodIn_r _ [216, 217, 218, 219, 220, 221, 222, 223, 224, 225, 226, 227, 228, 229, 230, 231, 232, 233, 234, 235, 236, 237, 238, 239] (by decide +kernel) (by decide +kernel)
set_option maxRecDepth 20000 in
theorem ggL_law_L_isRefundedSo_r10 : GoodIn wsL_law wsL_isRefundedSo_r10 := goodIn_r _ [240, 241, 242, 21, 243, 244, 55, 54, 245, 246, 247, 248, 56, 249, 250, 251, 252, 253, 254, 255, 256, 257, 258, 32] (by decide +kernel) (by decide +kernel)
set_option maxRecDepth 20000 in
theorem ggL_law_L_isRefundedSo_r11 : GoodIn wsL_law wsL_isRefundedSo_r11 := goodIn_r _ [259, 260, 261, 262, 263, 264, 265, 266, 267, 268, 269, 270, 271, 272, 273, 274, 285, 286, 287, 288, 289, 290, 291, 292] (by decide +kernel) (by decide +kernel)
set_option maxRecDepth 20000 in
theorem ggL_law_L_isRefundedSo_r12 : GoodIn wsL_law wsL_isRefundedSo_r12 := goodIn_r _ [293] (by decide +kernel) (by decide +kernel)
set_option maxRecDepth 20000 in
theorem ggL_law_L_isRefundedSo : GoodIn wsL_law wsL_isRefundedSo := goodIn_cons ggL_law_L_isRefundedSo_c (goodIn_app (goodIn_app (goodIn_app (goodIn_app (goodIn_app (goodIn_app (goodIn_app (goodIn_app (goodIn_app ggL_law_L_isRefundedSo_r1 (goodIn_app ggL_law_L_isRefundedSo_r2 (goodIn_app ggL_law_L_isRefundedSo_r3 (goodIn_app ggL_law_L_isRefundedSo_r4 (goodIn_app ggL_law_L_isRefundedSo_r5 (goodIn_app ggL_law_L_isRefundedSo_r6 (goodIn_app ggL_law_L_isRefundedSo_r7 (goodIn_app ggL_law_L_isRefundedSo_r8 (goodIn_app ggL_law_L_isRefundedSo_r9 (goodIn_app ggL_law_L_isRefundedSo_r10 (goodIn_app ggL_law_L_isRefundedSo_r11 (ggL_law_L_isRefundedSo_r12)))))))))))) (goodIn_sub inlX4 (by decide +kernel))) (goodIn_sub inlX3 (by decide +kernel))) (goodIn_sub inlX2 (by decide +kernel))) (goodIn_sub inlX0 (by decide +kernel))) (goodIn_sub inlX1 (by decide +kernel))) (goodIn_sub (fun _ h => List.mem_append_left _ (List.mem_append_left _ (List.mem_append_right _ h))) (by decide +kernel))) (goodIn_sub (fun _ h => List.mem_append_left _ (List.mem_append_right _ h)) (by decide +kernel))) (goodIn_sub (fun _ h => List.mem_append_right _ h) (by decide +kernel)))
set_option maxRecDepth 20000 in
theorem gL_law_L_isRefundedSo : GoodIn wsL_law (va_wsS RL 134 yL_isRefundedSo wsL_isRefundedSo) := goodIn_app (goodIn_of _ (by decide +kernel)) ggL_law_L_isRefundedSo

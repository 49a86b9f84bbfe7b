theorem ggL_law_L_isDaySo_c : GoodIn wsL_law [.code yL_isDaySo cL_isDaySo 7 (some .boolean)] := goodIn_r _ [361] (by decide +kernel) (by decide +kernel)
set_option maxRecDepth 20000 in
theorem ggL_law_L_isDaySo_r1 : GoodIn wsL_law wsL_isDaySo_r1 := goodIn_r _ [3, 340, 341, 342, 2, 343, 22, 207, 355, 356, 357, 358, 159, 71, 72, 69, 73, 74, 75, 76, 77, 78, 79, 80] (by decide +kernel) (by decide +kernel)
set_option maxRecDepth 20000 in
theorem ggL_law_L_isDaySo_r2 : GoodIn wsL_law wsL_isDaySo_r2 := goodIn_r _ [81, 82, 83, 84, 14, 85, 86, 87, 88, 13, 89, 90, 33, 36, 38, 91, 92, 93, 94, 95, 96, 97, 98, 99] (by decide +kernel) (by decide +kernel)
set_option maxRecDepth 20000 in
theorem ggL_law_L_isDaySo_r3 : GoodIn wsL_law wsL_isDaySo_r3 := goodIn_r _ [100, 101, 102, 103, 104, 105, 106, 107, 108, 109, 110, 111, 112, 113, 114, 115, 116, 117, 118, 119, 120, 121, 122, 123] (by decide +kernel) (by decide +kernel)
set_option maxRecDepth 20000 in
theorem ggL_law_L_isDaySo_r4 : GoodIn wsL_law wsL_isDaySo_r4 := goodIn_r _ [124, 28, 125, 126, 127, 63, 64, 65, 66, 128, 129, 130, 131, 132, 133, 134, 135, 136, 137, 138, 139, 140, 141, 142] (by decide +kernel) (by decide +kernel)
set_option maxRecDepth 20000 in
theorem ggL_law_L_isDaySo_r5 : GoodIn wsL_law wsL_isDaySo_r5 := goodIn_r _ [143, 144, 18, 145, 146, 147, 148, 149, 150, 151, 152, 153, 154, 155, 156, 157, 158, 160, 161, 162, 163, 164, 165, 166] (by decide +kernel) (by decide +kernel)
set_option maxRecDepth 20000 in
theorem ggL_law_L_isDaySo_r6 : GoodIn wsL_law wsL_isDaySo_r6 := goodIn_r _ [167, 168, 169, 170, 171, 17, 172, 173, 44, 47, 174, 175, 176, 177, 178, 26, 179, 180, 181, 25, 182, 183, 61, 62] (by decide +kernel) (by decide +kernel)
set_option maxRecDepth 20000 in
theorem ggL_law_L_isDaySo_r7 : GoodIn wsL_law wsL_isDaySo_r7 := goodIn_r _ [184, 185, 186, 187, 60, 188, 189, 190, 191, 192, 193, 194, 195, 196, 197, 198, 199, 200, 201, 202, 203, 204, 205, 206] (by decide +kernel) (by decide +kernel)
set_option maxRecDepth 20000 in
theorem ggL_law_L_isDaySo_r8 : GoodIn wsL_law wsL_isDaySo_r8 := goodIn_r _ [208, 209, 210, 211, 212, 213, 214, 215, 216, 217, 218, 219, 220, 221, 222, 223, 224, 225, 226, 227, 228, 229, 230, 231] (by decide +kernel) (by decide +kernel)
set_option maxRecDepth 20000 in
theorem ggL_law_L_isDaySo_r9 : GoodIn wsL_law wsL_isDaySo_r9 := goodIn_r _ [232, 233, 234, 235, 236, 237, 238, 239, 240, 241, 242, 21, 243, 244, 55, 54, 245, 246, 247, 248, 56, 249, 250, 251] (by decide +kernel) (by decide +kernel)
set_option maxRecDepth 20000 in
theorem ggL_law_L_isDaySo_r10 : GoodIn wsL_law wsL_isDaySo_r10 := goodIn_r _ [252, 253, 254, 255, 256, 257, 258, 32, 259, 260, 261, 262, 263, 264, 265, 266, 267, 268, 269, 270, 271, 272, 273, 274] (by decide +kernel) (by decide +kernel)
set_option maxRecDepth 20000 in
theorem ggL_law_L_isDaySo_r11 : GoodIn wsL_law wsL_isDaySo_r11 := goodIn_r _ [348, 349, 350, 351, 313, 314, 315, 316, 317, 318, 319, 320, 321, 322, 323, 324, 325, 326, 327, 49] (by decide +kernel) (by decide +kernel)
set_option maxRecDepth 20000 in
theorem ggL_law_L_isDaySo : GoodIn wsL_law wsL_isDaySo := goodIn_cons ggL_law_L_isDaySo_c (goodIn_app (goodIn_app (goodIn_app (goodIn_app (goodIn_app (goodIn_app (goodIn_app (goodIn_app (goodIn_app ggL_law_L_isDaySo_r1 (goodIn_app ggL_law_L_isDaySo_r2 (goodIn_app ggL_law_L_isDaySo_r3 (goodIn_app ggL_law_L_isDaySo_r4 (goodIn_app ggL_law_L_isDaySo_r5 (goodIn_app ggL_law_L_isDaySo_r6 (goodIn_app ggL_law_L_isDaySo_r7 (goodIn_app ggL_law_L_isDaySo_r8 (goodIn_app ggL_law_L_isDaySo_r9 (goodIn_app ggL_law_L_isDaySo_r10 (ggL_law_L_isDaySo_r11))))))))))) (goodIn_sub inlX4 (by decide +kernel))) (goodIn_sub inlX1 (by decide +kernel))) (goodIn_sub inlX3 (by decide +kernel))) (goodIn_sub inlX2 (by decide +kernel))) (goodIn_sub inlX0 (by decide +kernel))) (goodIn_sub (fun _ h => List.mem_append_left _ (List.mem_append_left _ (List.mem_append_right _ h))) (by decide +kernel))) (goodIn_sub (fun _ h => List.mem_append_left _ (List.mem_append_right _ h)) (by decide +kernel))) (goodIn_sub (fun _ h => List.mem_append_right _ h) (by decide +kernel)))
set_option maxRecDepth 20000 in
theorem gL_law_L_isDaySo : GoodIn wsL_law (va_wsS RL 130 yL_isDaySo wsL_isDaySo) := goodIn_app (goodIn_of _ (by decide +kernel)) ggL_law_L_isDaySo

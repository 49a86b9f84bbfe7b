theorem ggL_law_L_isKept_c : GoodIn wsL_law [.code yL_isKept cL_isKept 5 (some .boolean)] := goodIn_r _ [296] (by decide +kernel) (by decide +kernel)
set_option maxRecDepth 20000 in
theorem ggL_law_L_isKept_r1 : GoodIn wsL_law wsL_isKept_r1 := goodIn_r _ [3, 297, 298, 299, 2, 300, 293, 301, 302, 303, 304, 162, 305, 306, 307, 308, 161, 309, 310, 311, 312, 160, 313, 314] (by decide +kernel) (by decide +kernel)
set_option maxRecDepth 20000 in
theorem ggL_law_L_isKept_r2 : GoodIn wsL_law wsL_isKept_r2 := goodIn_r _ [69, 315, 74, 316, 317, 318, 319, 14, 178, 96, 97, 98, 99, 81, 82, 85, 320, 321, 322, 323, 18, 324, 325, 326] (by decide +kernel) (by decide +kernel)
set_option maxRecDepth 20000 in
theorem ggL_law_L_isKept_r3 : GoodIn wsL_law wsL_isKept_r3 := goodIn_r _ [17, 327, 173, 44, 49, 328, 329, 330, 331, 234, 332, 333, 334, 335, 26, 336, 337, 338, 25, 339, 60, 183, 61, 62] (by decide +kernel) (by decide +kernel)
set_option maxRecDepth 20000 in
theorem ggL_law_L_isKept_r4 : GoodIn wsL_law wsL_isKept_r4 := goodIn_r _ [340, 341, 342, 343, 22, 207, 344, 345, 346, 347, 270, 271, 272, 273, 274, 348, 349, 350, 351, 269] (by decide +kernel) (by decide +kernel)
set_option maxRecDepth 20000 in
theorem ggL_law_L_isKept : GoodIn wsL_law wsL_isKept := goodIn_cons ggL_law_L_isKept_c (goodIn_app (goodIn_app (goodIn_app (goodIn_app (goodIn_app (goodIn_app (goodIn_app ggL_law_L_isKept_r1 (goodIn_app ggL_law_L_isKept_r2 (goodIn_app ggL_law_L_isKept_r3 (ggL_law_L_isKept_r4)))) (goodIn_sub inlX4 (by decide +kernel))) (goodIn_sub inlX3 (by decide +kernel))) (goodIn_sub inlX2 (by decide +kernel))) (goodIn_sub inlX0 (by decide +kernel))) (goodIn_sub inlX1 (by decide +kernel))) (goodIn_sub (fun _ h => List.mem_append_left _ (List.mem_append_left _ (List.mem_append_right _ h))) (by decide +kernel)))
set_option maxRecDepth 20000 in
theorem gL_law_L_isKept : GoodIn wsL_law (va_wsS RL 122 yL_isKept wsL_isKept) := goodIn_app (goodIn_of _ (by decide +kernel)) ggL_law_L_isKept
theorem ggL_law_L_areAlike_c : GoodIn wsL_law [.code yL_areAlike cL_areAlike 5 (some .boolean)] := goodIn_r _ [354] (by decide +kernel) (by decide +kernel)
set_option maxRecDepth 20000 in
theorem ggL_law_L_areAlike_r1 : GoodIn wsL_law wsL_areAlike_r1 := goodIn_r _ [3, 355, 356, 357, 2, 358, 159, 340, 341, 342, 343, 22, 207, 309, 310, 311, 312, 160, 297, 298, 299, 300, 293, 301] (by decide +kernel) (by decide +kernel)
set_option maxRecDepth 20000 in
theorem ggL_law_L_areAlike_r2 : GoodIn wsL_law wsL_areAlike_r2 := goodIn_r _ [302, 303, 304, 162, 305, 306, 307, 308, 161, 313, 314, 69, 315, 74, 316, 317, 318, 319, 14, 178, 96, 97, 98, 99] (by decide +kernel) (by decide +kernel)
set_option maxRecDepth 20000 in
theorem ggL_law_L_areAlike_r3 : GoodIn wsL_law wsL_areAlike_r3 := goodIn_r _ [81, 82, 85, 320, 321, 322, 323, 18, 324, 325, 326, 17, 327, 173, 44, 49, 328, 329, 330, 331, 234] (by decide +kernel) (by decide +kernel)
set_option maxRecDepth 20000 in
theorem ggL_law_L_areAlike : GoodIn wsL_law wsL_areAlike := goodIn_cons ggL_law_L_areAlike_c (goodIn_app (goodIn_app (goodIn_app (goodIn_app (goodIn_app (goodIn_app ggL_law_L_areAlike_r1 (goodIn_app ggL_law_L_areAlike_r2 (ggL_law_L_areAlike_r3))) (goodIn_sub inlX4 (by decide +kernel))) (goodIn_sub inlX1 (by decide +kernel))) (goodIn_sub inlX3 (by decide +kernel))) (goodIn_sub inlX2 (by decide +kernel))) (goodIn_sub (fun _ h => List.mem_append_left _ (List.mem_append_left _ (List.mem_append_right _ h))) (by decide +kernel)))
set_option maxRecDepth 20000 in
theorem gL_law_L_areAlike : GoodIn wsL_law (va_wsS RL 126 yL_areAlike wsL_areAlike) := goodIn_app (goodIn_of _ (by decide +kernel)) ggL_law_L_areAlike

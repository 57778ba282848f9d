set_option maxRecDepth 20000 in
theorem gL_law_X3_thrown : GoodIn wsL_law (wsV RL 51 RX3 yX3_thrown wsX3_thrown) := goodIn_app (goodIn_of _ (by decide +kernel)) ggL_law_X3_thrown
set_option maxRecDepth 20000 in
theorem ggL_law_L_form : GoodIn wsL_law wsL_form := goodIn_ca (goodIn_r _ [250, 251, 252, 253, 254, 2, 255, 256, 257, 16, 17, 18, 258, 259, 260, 261, 262, 263, 15, 264, 52, 53, 54, 449, 450, 451, 452, 453, 454, 455, 456, 457, 473, 474, 475, 476, 477] (by decide +kernel) (by decide +kernel)) (goodIn_sub (fun _ h => List.mem_append_right _ h) (by decide +kernel))
set_option maxRecDepth 20000 in
theorem gL_law_L_form : GoodIn wsL_law (va_wsS RL 55 yL_form wsL_form) := goodIn_app (goodIn_of _ (by decide +kernel)) ggL_law_L_form
set_option maxRecDepth 20000 in
theorem ggL_law_X3_form : GoodIn wsL_law wsX3_form := goodIn_r _ [268, 198, 162, 127, 166, 128, 121, 163, 122, 124, 126, 164, 165, 167, 176, 177, 5, 178, 269, 270, 271, 186, 187, 188, 189, 190, 191, 192, 193, 194, 195, 196, 197, 199, 200, 201, 202, 203, 204, 205, 168, 182, 458, 459, 460, 461, 462, 463, 464, 465, 466, 467, 468, 469, 470, 471, 472] (by decide +kernel) (by decide +kernel)
set_option maxRecDepth 20000 in
theorem gL_law_X3_form : GoodIn wsL_law (wsV RL 58 RX3 yX3_form wsX3_form) := goodIn_app (goodIn_of _ (by decide +kernel)) ggL_law_X3_form
set_option maxRecDepth 20000 in
theorem ggL_law_X2_count : GoodIn wsL_law wsX2_count := goodIn_r _ [275, 16, 106, 276, 68, 104, 105, 277, 278, 279, 15, 280, 52, 82, 83, 84, 85, 53, 54, 281, 282, 283, 449, 450, 451, 452, 453, 454, 455, 456, 457, 473, 474, 475, 476, 477] (by decide +kernel) (by decide +kernel)
set_option maxRecDepth 20000 in
theorem gL_law_X2_count : GoodIn wsL_law (wsV RL 59 RX2 yX2_count wsX2_count) := goodIn_app (goodIn_of _ (by decide +kernel)) ggL_law_X2_count
set_option maxRecDepth 20000 in
theorem ggL_law_X3_count : GoodIn wsL_law wsX3_count := goodIn_r _ [287, 162, 124, 126, 121, 163, 122, 288, 289, 5, 290, 199, 200, 201, 291, 292, 293, 294, 186, 187, 188, 189, 164, 165, 167, 194, 195, 196, 197, 198, 202, 203, 204, 205, 168, 182, 295, 296, 297, 298, 210, 211, 212, 213, 127, 166, 299, 300, 301, 302, 128, 458, 459, 460, 461, 462, 463, 464, 465, 466, 467, 468, 469, 470, 471, 472] (by decide +kernel) (by decide +kernel)
set_option maxRecDepth 20000 in
theorem gL_law_X3_count : GoodIn wsL_law (wsV RL 62 RX3 yX3_count wsX3_count) := goodIn_app (goodIn_of _ (by decide +kernel)) ggL_law_X3_count
set_option maxRecDepth 20000 in
theorem ggL_law_L_ring : GoodIn wsL_law wsL_ring := goodIn_ca (goodIn_r _ [305, 251, 306, 307, 308, 2, 309, 256, 257, 105, 19, 18, 258, 259, 260, 69, 70, 71, 15, 72, 52, 53, 54, 55, 56, 108, 88, 89, 90, 82, 83, 84, 85, 86, 91, 92, 93, 94, 95, 96, 97, 98, 99, 261, 262, 263, 264, 449, 450, 451, 452, 453, 454, 455, 456, 457, 473, 474, 475, 476, 477] (by decide +kernel) (by decide +kernel)) (goodIn_sub (fun _ h => List.mem_append_right _ h) (by decide +kernel))

set_option maxRecDepth 20000 in
theorem gL_law_L_ring : GoodIn wsL_law (va_wsS RL 63 yL_ring wsL_ring) := goodIn_app (goodIn_of _ (by decide +kernel)) ggL_law_L_ring
set_option maxRecDepth 20000 in
theorem ggL_law_X3_ring : GoodIn wsL_law wsX3_ring := goodIn_r _ [313, 198, 162, 127, 166, 128, 124, 126, 164, 165, 167, 299, 300, 301, 5, 302, 186, 187, 188, 189, 202, 203, 204, 205, 168, 182, 199, 200, 201, 210, 211, 212, 213, 176, 177, 178, 269, 270, 271, 458, 459, 460, 461, 462, 463, 464, 465, 466, 467, 468, 469, 470, 471, 472] (by decide +kernel) (by decide +kernel)
set_option maxRecDepth 20000 in
theorem gL_law_X3_ring : GoodIn wsL_law (wsV RL 65 RX3 yX3_ring wsX3_ring) := goodIn_app (goodIn_of _ (by decide +kernel)) ggL_law_X3_ring
set_option maxRecDepth 20000 in
theorem ggL_law_L_together : GoodIn wsL_law wsL_together := goodIn_ca (goodIn_r _ [316, 139, 317, 318, 319, 2, 320, 144, 145, 19, 106, 16, 105, 18, 146, 147, 148, 149, 150, 151, 152, 153, 154, 155, 156, 57, 58, 59, 157, 60, 61, 62, 48, 49, 50, 15, 51, 52, 53, 54, 55, 56, 73, 74, 75, 76, 77, 78, 79, 80, 81, 82, 83, 84, 85, 86, 87, 88, 89, 90, 91, 92, 93, 94, 95, 96, 97, 98, 99, 109, 110, 111, 112, 108, 449, 450, 451, 452, 453, 454, 455, 456, 457, 473, 474, 475, 476, 477] (by decide +kernel) (by decide +kernel)) (goodIn_sub (fun _ h => List.mem_append_left _ (List.mem_append_right _ h)) (by decide +kernel))
set_option maxRecDepth 20000 in
theorem gL_law_L_together : GoodIn wsL_law (va_wsS RL 66 yL_together wsL_together) := goodIn_app (goodIn_of _ (by decide +kernel)) ggL_law_L_together
set_option maxRecDepth 20000 in
theorem ggL_law_X3_together : GoodIn wsL_law wsX3_together := goodIn_r _ [324, 162, 124, 126, 169, 170, 5, 171, 172, 173, 174, 175, 176, 177, 178, 179, 180, 181, 182, 183, 184, 185, 186, 187, 188, 189, 164, 165, 167, 190, 191, 192, 193, 194, 195, 196, 197, 198, 199, 200, 201, 202, 203, 204, 205, 168, 206, 207, 208, 209, 210, 211, 212, 213, 127, 166, 458, 459, 460, 461, 462, 463, 464, 465, 466, 467, 468, 469, 470, 471, 472] (by decide +kernel) (by decide +kernel)
set_option maxRecDepth 20000 in
theorem gL_law_X3_together : GoodIn wsL_law (wsV RL 68 RX3 yX3_together wsX3_together) := goodIn_app (goodIn_of _ (by decide +kernel)) ggL_law_X3_together
set_option maxRecDepth 20000 in
theorem ggL_law_L_sign : GoodIn wsL_law wsL_sign := goodIn_ca (goodIn_r _ [327, 251, 328, 329, 330, 2, 331, 256, 257, 23, 332, 333, 334, 335, 336, 337, 338, 67, 19, 16, 104, 69, 70, 71, 15, 72, 52, 53, 54, 55, 56, 339, 36, 37, 22, 38, 39, 33, 40, 41, 42, 43, 44, 45, 46, 47, 108, 88, 89, 90, 82, 83, 84, 85, 86, 91, 92, 93, 94, 95, 96, 97, 98, 99, 340, 341, 342, 343, 344, 345, 346, 347, 348, 349, 350, 351, 352, 353, 354, 355, 356, 357, 358, 359, 360, 361, 362, 363, 364, 365, 366, 367, 368, 369, 34, 370, 371, 372, 373, 374, 375, 376, 377, 378, 379, 380, 381, 449, 450, 451, 452, 453, 454, 455, 456, 457, 473, 474, 475, 476, 477, 478, 479, 480, 481, 482, 483, 484] (by decide +kernel) (by decide +kernel)) (goodIn_sub (fun _ h => List.mem_append_right _ h) (by decide +kernel))
set_option maxRecDepth 20000 in
theorem gL_law_L_sign : GoodIn wsL_law (va_wsS RL 69 yL_sign wsL_sign) := goodIn_app (goodIn_of _ (by decide +kernel)) ggL_law_L_sign
set_option maxRecDepth 20000 in
theorem ggL_law_X3_sign : GoodIn wsL_law wsX3_sign := goodIn_r _ [385, 386, 387, 388, 5, 389, 390, 162, 176, 177, 178, 223, 224, 225, 226, 129, 227, 228, 229, 230, 130, 391, 392, 393, 394, 240, 241, 242, 243, 222, 131, 132, 133, 134, 458, 459, 460, 461, 462, 463, 464, 465, 466, 467, 468, 469, 470, 471, 472] (by decide +kernel) (by decide +kernel)

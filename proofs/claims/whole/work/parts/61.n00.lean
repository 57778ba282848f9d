set_option maxRecDepth 20000 in
theorem ggL_take_X2_take : GoodIn wsL_take wsX2_take := goodIn_ca (goodIn_r _ [6, 7, 8, 9, 10, 11, 12, 5, 13, 14, 15, 16, 17, 18, 19, 20, 21, 22, 23, 24, 25, 26, 27, 28, 29, 30, 31, 32, 33, 34, 35, 36, 37, 38, 39, 40, 41, 42, 43, 44, 45, 46, 47, 48, 49, 50, 51, 52, 53, 54, 55, 56, 57, 58, 59, 60, 61, 62, 63, 64, 65, 66, 67, 68, 69, 70, 71, 72, 73, 74, 75, 76, 77, 78, 79, 80, 81, 82, 83, 84, 85, 86, 87, 88, 89, 90, 91, 92, 93, 94, 95, 96, 97, 98, 99, 100, 101, 102, 103, 104, 105, 106, 107, 108] (by decide +kernel) (by decide +kernel)) (goodIn_sub (fun _ h => List.mem_cons_of_mem _ (List.mem_append_right _ h)) (by decide +kernel))
set_option maxRecDepth 20000 in
theorem gL_take_X2_take : GoodIn wsL_take (wsV RL 7 RX2 yX2_take wsX2_take) := goodIn_app (goodIn_of _ (by decide +kernel)) ggL_take_X2_take
theorem dL_take_0 : decode cL_take 0 = .ok (.aload 4, 2) := by decide +kernel
theorem dL_take_2 : decode cL_take 2 = .ok (.iconst 0, 1) := by decide +kernel
theorem dL_take_3 : decode cL_take 3 = .ok (.aload_n 0, 1) := by decide +kernel
theorem dL_take_4 : decode cL_take 4 = .ok (.iload_n 1, 1) := by decide +kernel
theorem dL_take_5 : decode cL_take 5 = .ok (.iload_n 2, 1) := by decide +kernel
theorem dL_take_6 : decode cL_take 6 = .ok (.iload_n 3, 1) := by decide +kernel
theorem dL_take_7 : decode cL_take 7 = .ok (.invokevirtual 7, 3) := by decide +kernel
theorem dL_take_10 : decode cL_take 10 = .ok (.i2l, 1) := by decide +kernel
theorem dL_take_11 : decode cL_take 11 = .ok (.lastore, 1) := by decide +kernel
theorem dL_take_12 : decode cL_take 12 = .ok (.goto 7, 3) := by decide +kernel
theorem dL_take_15 : decode cL_take 15 = .ok (.astore 5, 2) := by decide +kernel
theorem dL_take_17 : decode cL_take 17 = .ok (.iconst 1, 1) := by decide +kernel
theorem dL_take_18 : decode cL_take 18 = .ok (.ireturn, 1) := by decide +kernel
theorem dL_take_19 : decode cL_take 19 = .ok (.iconst 0, 1) := by decide +kernel
theorem dL_take_20 : decode cL_take 20 = .ok (.ireturn, 1) := by decide +kernel
set_option maxRecDepth 20000 in
theorem ggL_form_X2_form : GoodIn wsL_form wsX2_form := goodIn_ca (goodIn_r _ [6, 7, 8, 9, 10, 11, 12, 13, 5, 14, 15, 16, 17, 18, 19, 20, 21, 22, 23, 24, 25, 26, 27, 28, 29, 30, 31, 32, 33, 34, 35, 36] (by decide +kernel) (by decide +kernel)) (goodIn_sub (fun _ h => List.mem_cons_of_mem _ (List.mem_append_right _ h)) (by decide +kernel))
set_option maxRecDepth 20000 in
theorem gL_form_X2_form : GoodIn wsL_form (wsV RL 15 RX2 yX2_form wsX2_form) := goodIn_app (goodIn_of _ (by decide +kernel)) ggL_form_X2_form
theorem dL_form_0 : decode cL_form 0 = .ok (.aload_n 3, 1) := by decide +kernel
theorem dL_form_1 : decode cL_form 1 = .ok (.iconst 0, 1) := by decide +kernel
theorem dL_form_2 : decode cL_form 2 = .ok (.aload_n 0, 1) := by decide +kernel
theorem dL_form_3 : decode cL_form 3 = .ok (.iload_n 1, 1) := by decide +kernel
theorem dL_form_4 : decode cL_form 4 = .ok (.iload_n 2, 1) := by decide +kernel
theorem dL_form_5 : decode cL_form 5 = .ok (.invokevirtual 15, 3) := by decide +kernel
theorem dL_form_8 : decode cL_form 8 = .ok (.i2l, 1) := by decide +kernel
theorem dL_form_9 : decode cL_form 9 = .ok (.lastore, 1) := by decide +kernel
theorem dL_form_10 : decode cL_form 10 = .ok (.goto 7, 3) := by decide +kernel
theorem dL_form_13 : decode cL_form 13 = .ok (.astore 4, 2) := by decide +kernel
theorem dL_form_15 : decode cL_form 15 = .ok (.iconst 1, 1) := by decide +kernel
theorem dL_form_16 : decode cL_form 16 = .ok (.ireturn, 1) := by decide +kernel
theorem dL_form_17 : decode cL_form 17 = .ok (.iconst 0, 1) := by decide +kernel
theorem dL_form_18 : decode cL_form 18 = .ok (.ireturn, 1) := by decide +kernel
set_option maxRecDepth 20000 in
theorem ggL_ring_X2_ring : GoodIn wsL_ring wsX2_ring := goodIn_ca (goodIn_r _ [6, 7, 8, 9, 10, 11, 12, 13, 5, 14, 15, 16, 17, 18, 19, 20, 21, 22, 23, 24, 25, 26, 27, 28, 29, 30, 31, 32, 33, 34, 35, 36, 37, 38, 39, 40, 41, 42, 43, 44, 45, 46, 47, 48, 49, 50, 51, 52, 53, 54, 55, 56, 57, 58, 59, 60] (by decide +kernel) (by decide +kernel)) (goodIn_sub (fun _ h => List.mem_cons_of_mem _ (List.mem_append_right _ h)) (by decide +kernel))
set_option maxRecDepth 20000 in
theorem gL_ring_X2_ring : GoodIn wsL_ring (wsV RL 21 RX2 yX2_ring wsX2_ring) := goodIn_app (goodIn_of _ (by decide +kernel)) ggL_ring_X2_ring
theorem dL_ring_0 : decode cL_ring 0 = .ok (.aload_n 3, 1) := by decide +kernel
theorem dL_ring_1 : decode cL_ring 1 = .ok (.iconst 0, 1) := by decide +kernel
theorem dL_ring_2 : decode cL_ring 2 = .ok (.aload_n 0, 1) := by decide +kernel
theorem dL_ring_3 : decode cL_ring 3 = .ok (.iload_n 1, 1) := by decide +kernel
theorem dL_ring_4 : decode cL_ring 4 = .ok (.iload_n 2, 1) := by decide +kernel
theorem dL_ring_5 : decode cL_ring 5 = .ok (.invokevirtual 21, 3) := by decide +kernel
theorem dL_ring_8 : decode cL_ring 8 = .ok (.i2l, 1) := by decide +kernel
theorem dL_ring_9 : decode cL_ring 9 = .ok (.lastore, 1) := by decide +kernel
theorem dL_ring_10 : decode cL_ring 10 = .ok (.goto 7, 3) := by decide +kernel
theorem dL_ring_13 : decode cL_ring 13 = .ok (.astore 4, 2) := by decide +kernel
theorem dL_ring_15 : decode cL_ring 15 = .ok (.iconst 1, 1) := by decide +kernel
theorem dL_ring_16 : decode cL_ring 16 = .ok (.ireturn, 1) := by decide +kernel
theorem dL_ring_17 : decode cL_ring 17 = .ok (.iconst 0, 1) := by decide +kernel
theorem dL_ring_18 : decode cL_ring 18 = .ok (.ireturn, 1) := by decide +kernel
set_option maxRecDepth 20000 in
theorem ggL_together_X2_together : GoodIn wsL_together wsX2_together := goodIn_ca (goodIn_r _ [6, 7, 8, 9, 10, 11, 12, 13, 14, 15, 5, 16, 17, 18, 19, 20, 21, 22, 23, 24, 25, 26, 27, 28, 29, 30, 31, 32, 33, 34, 35, 36, 37, 38, 39, 40, 41, 42, 43, 44, 45, 46, 47, 48, 49, 50, 51, 52, 53, 54, 55, 56, 57, 58, 59, 60, 61, 62, 63, 64, 65, 66, 67, 68, 69, 70, 71, 72, 73, 74, 75, 76, 77, 78, 79, 80, 81, 82, 83, 84, 85, 86, 87] (by decide +kernel) (by decide +kernel)) (goodIn_sub (fun _ h => List.mem_cons_of_mem _ (List.mem_append_right _ h)) (by decide +kernel))
set_option maxRecDepth 20000 in
theorem gL_together_X2_together : GoodIn wsL_together (wsV RL 24 RX2 yX2_together wsX2_together) := goodIn_app (goodIn_of _ (by decide +kernel)) ggL_together_X2_together
theorem dL_together_0 : decode cL_together 0 = .ok (.aload 4, 2) := by decide +kernel
theorem dL_together_2 : decode cL_together 2 = .ok (.iconst 0, 1) := by decide +kernel
theorem dL_together_3 : decode cL_together 3 = .ok (.aload_n 0, 1) := by decide +kernel
theorem dL_together_4 : decode cL_together 4 = .ok (.iload_n 1, 1) := by decide +kernel
theorem dL_together_5 : decode cL_together 5 = .ok (.iload_n 2, 1) := by decide +kernel
theorem dL_together_6 : decode cL_together 6 = .ok (.iload_n 3, 1) := by decide +kernel
theorem dL_together_7 : decode cL_together 7 = .ok (.invokevirtual 24, 3) := by decide +kernel
theorem dL_together_10 : decode cL_together 10 = .ok (.ifCond .eq 7, 3) := by decide +kernel
theorem dL_together_13 : decode cL_together 13 = .ok (.lconst 1, 1) := by decide +kernel
theorem dL_together_14 : decode cL_together 14 = .ok (.goto 4, 3) := by decide +kernel
theorem dL_together_17 : decode cL_together 17 = .ok (.lconst 0, 1) := by decide +kernel
theorem dL_together_18 : decode cL_together 18 = .ok (.lastore, 1) := by decide +kernel
theorem dL_together_19 : decode cL_together 19 = .ok (.goto 7, 3) := by decide +kernel
theorem dL_together_22 : decode cL_together 22 = .ok (.astore 5, 2) := by decide +kernel
theorem dL_together_24 : decode cL_together 24 = .ok (.iconst 1, 1) := by decide +kernel
theorem dL_together_25 : decode cL_together 25 = .ok (.ireturn, 1) := by decide +kernel
theorem dL_together_26 : decode cL_together 26 = .ok (.iconst 0, 1) := by decide +kernel
theorem dL_together_27 : decode cL_together 27 = .ok (.ireturn, 1) := by decide +kernel
set_option maxRecDepth 20000 in
theorem ggL_sign_X2_sign : GoodIn wsL_sign wsX2_sign := goodIn_ca (goodIn_r _ [6, 7, 8, 9, 10, 11, 5, 12, 13, 14, 15, 16, 17, 18, 19, 20, 21, 22, 23, 24, 25, 26, 27, 28, 29, 30, 31, 32, 33, 34, 35, 36, 37, 38, 39, 40, 41, 42, 43, 44, 45, 46, 47, 48, 49, 50, 51, 52, 53, 54, 55, 56, 57, 58, 59, 60, 61, 62, 63, 64, 65, 66, 67, 68, 69, 70, 71, 72, 73, 74, 75, 76, 77, 78, 79, 80, 81, 82, 83, 84, 85, 86, 87, 88, 89, 90, 91, 92, 93, 94, 95, 96, 97, 98, 99, 100, 101, 102, 103, 104, 105, 106, 107, 108, 109, 110, 111, 112, 113, 114, 115, 116, 117, 118, 119, 120, 121, 122, 123, 124, 125, 126, 127] (by decide +kernel) (by decide +kernel)) (goodIn_sub (fun _ h => List.mem_cons_of_mem _ (List.mem_append_right _ h)) (by decide +kernel))
set_option maxRecDepth 20000 in
theorem gL_sign_X2_sign : GoodIn wsL_sign (wsV RL 28 RX2 yX2_sign wsX2_sign) := goodIn_app (goodIn_of _ (by decide +kernel)) ggL_sign_X2_sign
theorem dL_sign_0 : decode cL_sign 0 = .ok (.aload_n 2, 1) := by decide +kernel
theorem dL_sign_1 : decode cL_sign 1 = .ok (.iconst 0, 1) := by decide +kernel
theorem dL_sign_2 : decode cL_sign 2 = .ok (.aload_n 0, 1) := by decide +kernel
theorem dL_sign_3 : decode cL_sign 3 = .ok (.iload_n 1, 1) := by decide +kernel
theorem dL_sign_4 : decode cL_sign 4 = .ok (.invokevirtual 28, 3) := by decide +kernel
theorem dL_sign_7 : decode cL_sign 7 = .ok (.i2l, 1) := by decide +kernel
theorem dL_sign_8 : decode cL_sign 8 = .ok (.lastore, 1) := by decide +kernel
theorem dL_sign_9 : decode cL_sign 9 = .ok (.goto 6, 3) := by decide +kernel
theorem dL_sign_12 : decode cL_sign 12 = .ok (.astore_n 3, 1) := by decide +kernel
theorem dL_sign_13 : decode cL_sign 13 = .ok (.iconst 1, 1) := by decide +kernel
theorem dL_sign_14 : decode cL_sign 14 = .ok (.ireturn, 1) := by decide +kernel
theorem dL_sign_15 : decode cL_sign 15 = .ok (.iconst 0, 1) := by decide +kernel
theorem dL_sign_16 : decode cL_sign 16 = .ok (.ireturn, 1) := by decide +kernel
set_option maxRecDepth 20000 in
theorem ggL_bits_X2_bits : GoodIn wsL_bits wsX2_bits := goodIn_ca (goodIn_r _ [6, 7, 8, 9, 10, 11, 5, 12, 13, 14, 15, 16, 17, 18, 19, 20, 21, 22, 23, 24, 25, 26, 27, 28, 29, 30, 31, 32, 33, 34, 35, 36, 37, 38, 39, 40, 41, 42, 43, 44, 45, 46, 47, 48, 49, 50, 51, 52, 53, 54, 55, 56, 57, 58, 59, 60, 61, 62, 63, 64, 65, 66, 67, 68, 69, 70, 71, 72, 73, 74, 75, 76, 77, 78, 79, 80, 81, 82, 83, 84, 85, 86, 87, 88, 89, 90, 91, 92, 93, 94, 95, 96, 97, 98, 99, 100, 101, 102, 103, 104, 105, 106, 107, 108, 109, 110, 111, 112, 113, 114, 115, 116, 117, 118, 119, 120, 121, 122, 123, 124, 125, 126, 127, 128, 129, 130] (by decide +kernel) (by decide +kernel)) (goodIn_sub (fun _ h => List.mem_cons_of_mem _ (List.mem_append_right _ h)) (by decide +kernel))
set_option maxRecDepth 20000 in
theorem gL_bits_X2_bits : GoodIn wsL_bits (wsV RL 32 RX2 yX2_bits wsX2_bits) := goodIn_app (goodIn_of _ (by decide +kernel)) ggL_bits_X2_bits
theorem dL_bits_0 : decode cL_bits 0 = .ok (.aload_n 2, 1) := by decide +kernel
theorem dL_bits_1 : decode cL_bits 1 = .ok (.iconst 0, 1) := by decide +kernel
theorem dL_bits_2 : decode cL_bits 2 = .ok (.aload_n 0, 1) := by decide +kernel
theorem dL_bits_3 : decode cL_bits 3 = .ok (.iload_n 1, 1) := by decide +kernel
theorem dL_bits_4 : decode cL_bits 4 = .ok (.invokevirtual 32, 3) := by decide +kernel
theorem dL_bits_7 : decode cL_bits 7 = .ok (.i2l, 1) := by decide +kernel
theorem dL_bits_8 : decode cL_bits 8 = .ok (.lastore, 1) := by decide +kernel
theorem dL_bits_9 : decode cL_bits 9 = .ok (.goto 6, 3) := by decide +kernel
theorem dL_bits_12 : decode cL_bits 12 = .ok (.astore_n 3, 1) := by decide +kernel
theorem dL_bits_13 : decode cL_bits 13 = .ok (.iconst 1, 1) := by decide +kernel
theorem dL_bits_14 : decode cL_bits 14 = .ok (.ireturn, 1) := by decide +kernel
theorem dL_bits_15 : decode cL_bits 15 = .ok (.iconst 0, 1) := by decide +kernel
theorem dL_bits_16 : decode cL_bits 16 = .ok (.ireturn, 1) := by decide +kernel
set_option maxRecDepth 20000 in
theorem ggL_word_X2_word : GoodIn wsL_word wsX2_word := goodIn_ca (goodIn_r _ [6, 7, 8, 9, 10, 11, 5, 12, 13, 14, 15, 16, 17, 18, 19, 20, 21, 22, 23, 24, 25, 26, 27, 28, 29, 30, 31, 32, 33, 34, 35, 36, 37, 38, 39, 40, 41, 42, 43, 44, 45, 46, 47, 48, 49, 50, 51, 52, 53, 54, 55, 56, 57, 58, 59, 60, 61, 62, 63, 64, 65, 66, 67, 68, 69, 70, 71, 72, 73, 74, 75, 76, 77, 78, 79, 80, 81, 82, 83, 84, 85, 86, 87, 88, 89, 90, 91, 92, 93, 94, 95, 96, 97, 98, 99, 100, 101, 102, 103, 104, 105, 106, 107, 108, 109, 110, 111, 112, 113, 114, 115, 116, 117, 118, 119, 120, 121, 122, 123, 124, 125, 126, 127] (by decide +kernel) (by decide +kernel)) (goodIn_sub (fun _ h => List.mem_cons_of_mem _ (List.mem_append_right _ h)) (by decide +kernel))
set_option maxRecDepth 20000 in
theorem gL_word_X2_word : GoodIn wsL_word (wsV RL 35 RX2 yX2_word wsX2_word) := goodIn_app (goodIn_of _ (by decide +kernel)) ggL_word_X2_word
theorem dL_word_0 : decode cL_word 0 = .ok (.aload_n 3, 1) := by decide +kernel
theorem dL_word_1 : decode cL_word 1 = .ok (.iconst 0, 1) := by decide +kernel
theorem dL_word_2 : decode cL_word 2 = .ok (.aload_n 0, 1) := by decide +kernel
theorem dL_word_3 : decode cL_word 3 = .ok (.iload_n 1, 1) := by decide +kernel
theorem dL_word_4 : decode cL_word 4 = .ok (.iload_n 2, 1) := by decide +kernel
theorem dL_word_5 : decode cL_word 5 = .ok (.invokevirtual 35, 3) := by decide +kernel
theorem dL_word_8 : decode cL_word 8 = .ok (.i2l, 1) := by decide +kernel
theorem dL_word_9 : decode cL_word 9 = .ok (.lastore, 1) := by decide +kernel
theorem dL_word_10 : decode cL_word 10 = .ok (.goto 7, 3) := by decide +kernel
theorem dL_word_13 : decode cL_word 13 = .ok (.astore 4, 2) := by decide +kernel
theorem dL_word_15 : decode cL_word 15 = .ok (.iconst 1, 1) := by decide +kernel
theorem dL_word_16 : decode cL_word 16 = .ok (.ireturn, 1) := by decide +kernel
theorem dL_word_17 : decode cL_word 17 = .ok (.iconst 0, 1) := by decide +kernel
theorem dL_word_18 : decode cL_word 18 = .ok (.ireturn, 1) := by decide +kernel
set_option maxRecDepth 20000 in
theorem ggL_residue_X2_residue : GoodIn wsL_residue wsX2_residue := goodIn_ca (goodIn_ca (goodIn_r _ [7, 8, 9, 10, 11, 12, 13, 14, 6, 15, 16, 17, 18, 19, 20, 21, 22, 23, 24, 25, 26, 27, 28, 29, 30, 31, 32, 33, 34, 35, 36, 37, 38, 39, 40, 41, 42, 43, 44, 45, 46, 47, 48, 49, 50, 51, 52, 53, 54, 55, 56, 57, 58, 59, 60, 61, 62, 63, 64, 65, 66, 67, 68, 69, 70, 71, 72, 73, 74, 75, 76, 77, 78, 79, 80, 81, 82, 83, 84, 85, 86, 87, 88, 89, 90, 91, 92, 93, 94, 95, 96, 97, 98, 99, 100, 101, 102, 103, 104, 105, 106, 107, 108, 109, 110, 111, 112, 113, 114, 115, 116, 117, 118, 119, 120, 121, 122, 123, 124, 125, 126, 127, 128, 129, 130] (by decide +kernel) (by decide +kernel)) (goodIn_sub (fun _ h => List.mem_cons_of_mem _ (List.mem_append_left _ (List.mem_append_right _ h))) (by decide +kernel))) (goodIn_sub (fun _ h => List.mem_cons_of_mem _ (List.mem_append_right _ h)) (by decide +kernel))
set_option maxRecDepth 20000 in
theorem gL_residue_X2_residue : GoodIn wsL_residue (wsV RL 38 RX2 yX2_residue wsX2_residue) := goodIn_app (goodIn_of _ (by decide +kernel)) ggL_residue_X2_residue
theorem dL_residue_0 : decode cL_residue 0 = .ok (.aload_n 3, 1) := by decide +kernel
theorem dL_residue_1 : decode cL_residue 1 = .ok (.iconst 0, 1) := by decide +kernel
theorem dL_residue_2 : decode cL_residue 2 = .ok (.aload_n 0, 1) := by decide +kernel
theorem dL_residue_3 : decode cL_residue 3 = .ok (.iload_n 1, 1) := by decide +kernel
theorem dL_residue_4 : decode cL_residue 4 = .ok (.iload_n 2, 1) := by decide +kernel
theorem dL_residue_5 : decode cL_residue 5 = .ok (.invokevirtual 38, 3) := by decide +kernel
theorem dL_residue_8 : decode cL_residue 8 = .ok (.i2l, 1) := by decide +kernel
theorem dL_residue_9 : decode cL_residue 9 = .ok (.lastore, 1) := by decide +kernel
theorem dL_residue_10 : decode cL_residue 10 = .ok (.goto 11, 3) := by decide +kernel
theorem dL_residue_13 : decode cL_residue 13 = .ok (.astore 4, 2) := by decide +kernel
theorem dL_residue_15 : decode cL_residue 15 = .ok (.iconst 1, 1) := by decide +kernel
theorem dL_residue_16 : decode cL_residue 16 = .ok (.ireturn, 1) := by decide +kernel
theorem dL_residue_17 : decode cL_residue 17 = .ok (.astore 4, 2) := by decide +kernel
theorem dL_residue_19 : decode cL_residue 19 = .ok (.iconst 2, 1) := by decide +kernel
theorem dL_residue_20 : decode cL_residue 20 = .ok (.ireturn, 1) := by decide +kernel
theorem dL_residue_21 : decode cL_residue 21 = .ok (.iconst 0, 1) := by decide +kernel
theorem dL_residue_22 : decode cL_residue 22 = .ok (.ireturn, 1) := by decide +kernel

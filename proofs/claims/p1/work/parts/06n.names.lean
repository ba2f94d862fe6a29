theorem dL_cell_0 : decode cL_cell 0 = .ok (.iload_n 1, 1) := by decide +kernel
theorem dL_cell_1 : decode cL_cell 1 = .ok (.aload_n 0, 1) := by decide +kernel
theorem dL_cell_2 : decode cL_cell 2 = .ok (.arraylength, 1) := by decide +kernel
theorem dL_cell_3 : decode cL_cell 3 = .ok (.if_icmp .ge 9, 3) := by decide +kernel
theorem dL_cell_6 : decode cL_cell 6 = .ok (.aload_n 0, 1) := by decide +kernel
theorem dL_cell_7 : decode cL_cell 7 = .ok (.iload_n 1, 1) := by decide +kernel
theorem dL_cell_8 : decode cL_cell 8 = .ok (.iaload, 1) := by decide +kernel
theorem dL_cell_9 : decode cL_cell 9 = .ok (.goto 4, 3) := by decide +kernel
theorem dL_cell_12 : decode cL_cell 12 = .ok (.iconst 0, 1) := by decide +kernel
theorem dL_cell_13 : decode cL_cell 13 = .ok (.ireturn, 1) := by decide +kernel
set_option maxRecDepth 20000 in
theorem ggL_byteAt_X1_byteAt : GoodIn wsL_byteAt wsX1_byteAt := goodIn_r _ [5, 6, 7, 8, 9, 10, 11, 12, 4, 13, 14, 15, 16, 17, 18, 19, 20, 21, 22, 23, 24, 25, 26, 27, 28, 29, 30, 31, 32, 33, 34, 35, 36, 37, 38] (by decide +kernel) (by decide +kernel)
set_option maxRecDepth 20000 in
theorem gL_byteAt_X1_byteAt : GoodIn wsL_byteAt (wsV RL 7 RX1 yX1_byteAt wsX1_byteAt) := goodIn_app (goodIn_of _ (by decide +kernel)) ggL_byteAt_X1_byteAt
theorem dL_byteAt_0 : decode cL_byteAt 0 = .ok (.aload 4, 2) := by decide +kernel
theorem dL_byteAt_2 : decode cL_byteAt 2 = .ok (.iconst 0, 1) := by decide +kernel
theorem dL_byteAt_3 : decode cL_byteAt 3 = .ok (.aload_n 0, 1) := by decide +kernel
theorem dL_byteAt_4 : decode cL_byteAt 4 = .ok (.iload_n 1, 1) := by decide +kernel
theorem dL_byteAt_5 : decode cL_byteAt 5 = .ok (.iload_n 2, 1) := by decide +kernel
theorem dL_byteAt_6 : decode cL_byteAt 6 = .ok (.iload_n 3, 1) := by decide +kernel
theorem dL_byteAt_7 : decode cL_byteAt 7 = .ok (.invokevirtual 7, 3) := by decide +kernel
theorem dL_byteAt_10 : decode cL_byteAt 10 = .ok (.i2l, 1) := by decide +kernel
theorem dL_byteAt_11 : decode cL_byteAt 11 = .ok (.lastore, 1) := by decide +kernel
theorem dL_byteAt_12 : decode cL_byteAt 12 = .ok (.goto 7, 3) := by decide +kernel
theorem dL_byteAt_15 : decode cL_byteAt 15 = .ok (.astore 5, 2) := by decide +kernel
theorem dL_byteAt_17 : decode cL_byteAt 17 = .ok (.iconst 1, 1) := by decide +kernel
theorem dL_byteAt_18 : decode cL_byteAt 18 = .ok (.ireturn, 1) := by decide +kernel
theorem dL_byteAt_19 : decode cL_byteAt 19 = .ok (.iconst 0, 1) := by decide +kernel
theorem dL_byteAt_20 : decode cL_byteAt 20 = .ok (.ireturn, 1) := by decide +kernel
set_option maxRecDepth 20000 in
theorem ggL_law_L_cell : GoodIn wsL_law wsL_cell := goodIn_r _ [10] (by decide +kernel) (by decide +kernel)
set_option maxRecDepth 20000 in
theorem gL_law_L_cell : GoodIn wsL_law (va_wsS RL 15 yL_cell wsL_cell) := goodIn_app (goodIn_of _ (by decide +kernel)) ggL_law_L_cell
set_option maxRecDepth 20000 in
theorem ggL_law_X1_init : GoodIn wsL_law wsX1_init := goodIn_r _ [13, 14, 15, 16, 17, 18, 19, 20, 21, 22, 23, 24, 25, 26, 27, 28, 29, 380, 381, 382, 383, 384, 385, 386, 387, 401, 402, 403, 404, 405] (by decide +kernel) (by decide +kernel)
set_option maxRecDepth 20000 in
theorem gL_law_X1_init : GoodIn wsL_law (wsX1_init) := ggL_law_X1_init
set_option maxRecDepth 20000 in
theorem ggL_law_X2_init : GoodIn wsL_law wsX2_init := goodIn_r _ [32, 33, 15, 16, 22, 34, 35, 36, 37, 38, 39, 40, 388, 389, 390, 391, 392, 393, 394, 395, 396, 397, 398, 399, 400] (by decide +kernel) (by decide +kernel)
set_option maxRecDepth 20000 in
theorem gL_law_X2_init : GoodIn wsL_law (wsX2_init) := ggL_law_X2_init
set_option maxRecDepth 20000 in
theorem ggL_law_X1_feed : GoodIn wsL_law wsX1_feed := goodIn_r _ [44, 45, 23, 380, 381, 382, 383, 384, 385, 386, 387] (by decide +kernel) (by decide +kernel)
set_option maxRecDepth 20000 in
theorem gL_law_X1_feed : GoodIn wsL_law (wsV RL 27 RX1 yX1_feed wsX1_feed) := goodIn_app (goodIn_of _ (by decide +kernel)) ggL_law_X1_feed
set_option maxRecDepth 20000 in
theorem ggL_law_X2_feed : GoodIn wsL_law wsX2_feed := goodIn_r _ [49, 50, 51, 38, 52, 53, 5, 54, 388, 389, 390, 391, 392, 393, 394, 395, 396, 397, 398, 399, 400] (by decide +kernel) (by decide +kernel)
set_option maxRecDepth 20000 in
theorem gL_law_X2_feed : GoodIn wsL_law (wsV RL 31 RX2 yX2_feed wsX2_feed) := goodIn_app (goodIn_of _ (by decide +kernel)) ggL_law_X2_feed
set_option maxRecDepth 20000 in
theorem ggL_law_X1_row : GoodIn wsL_law wsX1_row := goodIn_r _ [58, 59, 45, 17, 60, 61, 2, 62, 63, 64, 65, 66, 67, 68, 69, 70, 19, 71, 72, 73, 74, 75, 21, 76, 77, 78, 79, 80, 81, 82, 83, 84, 85, 86, 87, 88, 89, 90, 91, 92, 93, 94, 95, 96, 97, 28, 98, 99, 100, 101, 102, 103, 104, 105, 27, 106, 107, 108, 109, 110, 111, 112, 113, 114, 115, 116, 117, 118, 119, 120, 121, 122, 123, 124, 125, 126, 127, 128, 129, 23, 130, 131, 132, 133, 134, 135, 136, 137, 138, 139, 140, 141, 142, 143, 144, 145, 146, 147, 148, 149, 150, 151, 152, 153, 154, 380, 381, 382, 383, 384, 385, 386, 387, 401, 402, 403, 404, 405] (by decide +kernel) (by decide +kernel)
set_option maxRecDepth 20000 in
theorem gL_law_X1_row : GoodIn wsL_law (wsV RL 32 RX1 yX1_row wsX1_row) := goodIn_app (goodIn_of _ (by decide +kernel)) ggL_law_X1_row
set_option maxRecDepth 20000 in
theorem ggL_law_X2_row : GoodIn wsL_law wsX2_row := goodIn_r _ [158, 50, 159, 51, 34, 40, 52, 53, 5, 54, 160, 161, 162, 163, 35, 164, 165, 166, 167, 168, 169, 170, 171, 172, 173, 174, 175, 176, 177, 178, 179, 39, 38, 180, 181, 182, 183, 184, 185, 186, 187, 188, 189, 190, 191, 192, 193, 194, 195, 196, 197, 198, 199, 388, 389, 390, 391, 392, 393, 394, 395, 396, 397, 398, 399, 400] (by decide +kernel) (by decide +kernel)
set_option maxRecDepth 20000 in
theorem gL_law_X2_row : GoodIn wsL_law (wsV RL 36 RX2 yX2_row wsX2_row) := goodIn_app (goodIn_of _ (by decide +kernel)) ggL_law_X2_row
set_option maxRecDepth 20000 in
theorem ggL_law_X1_find : GoodIn wsL_law wsX1_find := goodIn_r _ [203, 111, 112, 113, 2, 114, 19, 67, 68, 69, 70, 71, 72, 73, 74, 75, 21, 76, 77, 78, 115, 116, 117, 87, 88, 89, 90, 91, 92, 93, 94, 95, 96, 97, 28, 98, 99, 100, 101, 102, 103, 104, 105, 27, 106, 107, 108, 109, 110, 118, 119, 120, 121, 122, 123, 124, 125, 380, 381, 382, 383, 384, 385, 386, 387, 401, 402, 403, 404, 405] (by decide +kernel) (by decide +kernel)
set_option maxRecDepth 20000 in
theorem gL_law_X1_find : GoodIn wsL_law (wsV RL 37 RX1 yX1_find wsX1_find) := goodIn_app (goodIn_of _ (by decide +kernel)) ggL_law_X1_find
set_option maxRecDepth 20000 in
theorem ggL_law_X2_find : GoodIn wsL_law wsX2_find := goodIn_r _ [207, 50, 39, 160, 161, 162, 5, 163, 35, 52, 53, 54, 164, 165, 166, 208, 209, 210, 211, 34, 167, 168, 169, 170, 171, 172, 173, 174, 175, 212, 213, 214, 215, 196, 197, 198, 199, 180, 181, 182, 183, 388, 389, 390, 391, 392, 393, 394, 395, 396, 397, 398, 399, 400] (by decide +kernel) (by decide +kernel)
set_option maxRecDepth 20000 in
theorem gL_law_X2_find : GoodIn wsL_law (wsV RL 41 RX2 yX2_find wsX2_find) := goodIn_app (goodIn_of _ (by decide +kernel)) ggL_law_X2_find
set_option maxRecDepth 20000 in
theorem ggL_law_X1_rows : GoodIn wsL_law wsX1_rows := goodIn_r _ [219, 60, 61, 2, 62, 67, 68, 69, 70, 19, 71, 72, 73, 74, 75, 21, 76, 77, 78, 111, 112, 113, 114, 115, 116, 117, 87, 88, 89, 90, 91, 92, 93, 94, 95, 96, 97, 28, 98, 99, 100, 101, 102, 103, 104, 105, 27, 106, 107, 108, 109, 110, 118, 119, 120, 121, 122, 123, 124, 125, 380, 381, 382, 383, 384, 385, 386, 387, 401, 402, 403, 404, 405] (by decide +kernel) (by decide +kernel)
set_option maxRecDepth 20000 in
theorem gL_law_X1_rows : GoodIn wsL_law (wsV RL 42 RX1 yX1_rows wsX1_rows) := goodIn_app (goodIn_of _ (by decide +kernel)) ggL_law_X1_rows
set_option maxRecDepth 20000 in
theorem ggL_law_X2_rows : GoodIn wsL_law wsX2_rows := goodIn_r _ [223, 50, 39, 160, 161, 162, 5, 163, 35, 52, 53, 54, 164, 165, 166, 208, 209, 210, 211, 34, 167, 168, 169, 170, 171, 172, 173, 174, 175, 212, 213, 214, 215, 196, 197, 198, 199, 180, 181, 182, 183, 388, 389, 390, 391, 392, 393, 394, 395, 396, 397, 398, 399, 400] (by decide +kernel) (by decide +kernel)
set_option maxRecDepth 20000 in
theorem gL_law_X2_rows : GoodIn wsL_law (wsV RL 45 RX2 yX2_rows wsX2_rows) := goodIn_app (goodIn_of _ (by decide +kernel)) ggL_law_X2_rows
set_option maxRecDepth 20000 in
theorem ggL_law_X1_drop : GoodIn wsL_law wsX1_drop := goodIn_r _ [227, 59, 60, 61, 2, 62, 67, 68, 69, 70, 19, 71, 72, 73, 74, 75, 21, 76, 77, 78, 228, 229, 230, 231, 232, 233, 234, 235, 115, 116, 117, 87, 88, 89, 90, 91, 92, 93, 94, 95, 96, 97, 28, 98, 99, 100, 101, 102, 103, 104, 105, 27, 106, 107, 108, 109, 110, 126, 127, 128, 129, 23, 130, 131, 132, 133, 134, 135, 136, 137, 138, 139, 140, 141, 142, 143, 144, 145, 146, 147, 83, 84, 85, 86, 148, 149, 150, 151, 152, 153, 154, 122, 123, 124, 125, 380, 381, 382, 383, 384, 385, 386, 387, 401, 402, 403, 404, 405] (by decide +kernel) (by decide +kernel)
set_option maxRecDepth 20000 in
theorem gL_law_X1_drop : GoodIn wsL_law (wsV RL 46 RX1 yX1_drop wsX1_drop) := goodIn_app (goodIn_of _ (by decide +kernel)) ggL_law_X1_drop
set_option maxRecDepth 20000 in
theorem ggL_law_X2_drop : GoodIn wsL_law wsX2_drop := goodIn_r _ [239, 50, 159, 34, 52, 53, 5, 54, 160, 161, 162, 163, 35, 164, 165, 166, 167, 168, 169, 170, 171, 172, 173, 174, 175, 188, 189, 190, 191, 39, 180, 181, 182, 183, 184, 185, 186, 187, 192, 193, 194, 195, 196, 197, 198, 199, 388, 389, 390, 391, 392, 393, 394, 395, 396, 397, 398, 399, 400] (by decide +kernel) (by decide +kernel)
set_option maxRecDepth 20000 in
theorem gL_law_X2_drop : GoodIn wsL_law (wsV RL 49 RX2 yX2_drop wsX2_drop) := goodIn_app (goodIn_of _ (by decide +kernel)) ggL_law_X2_drop
set_option maxRecDepth 20000 in
theorem ggL_law_X1_crash : GoodIn wsL_law wsX1_crash := goodIn_r _ [243, 19, 244, 245, 2, 246, 75, 21, 76, 77, 78, 247, 248, 249, 250, 59, 251, 252, 253, 254, 28, 29, 255, 134, 135, 136, 137, 138, 73, 139, 140, 72, 74, 380, 381, 382, 383, 384, 385, 386, 387, 401, 402, 403, 404, 405] (by decide +kernel) (by decide +kernel)
set_option maxRecDepth 20000 in
theorem gL_law_X1_crash : GoodIn wsL_law (wsV RL 50 RX1 yX1_crash wsX1_crash) := goodIn_app (goodIn_of _ (by decide +kernel)) ggL_law_X1_crash
set_option maxRecDepth 20000 in
theorem ggL_law_X2_crash : GoodIn wsL_law wsX2_crash := goodIn_r _ [259, 50, 35, 52, 53, 5, 54, 260, 261, 262, 263, 159, 36, 34, 37, 264, 388, 389, 390, 391, 392, 393, 394, 395, 396, 397, 398, 399, 400] (by decide +kernel) (by decide +kernel)
set_option maxRecDepth 20000 in
theorem gL_law_X2_crash : GoodIn wsL_law (wsV RL 54 RX2 yX2_crash wsX2_crash) := goodIn_app (goodIn_of _ (by decide +kernel)) ggL_law_X2_crash
set_option maxRecDepth 20000 in
theorem ggL_law_X1_lose : GoodIn wsL_law wsX1_lose := goodIn_r _ [268, 269, 241, 242, 2, 243, 19, 244, 245, 246, 75, 21, 76, 77, 78, 247, 248, 249, 250, 59, 251, 252, 253, 254, 28, 29, 255, 134, 135, 136, 137, 138, 73, 139, 140, 72, 74, 380, 381, 382, 383, 384, 385, 386, 387, 401, 402, 403, 404, 405] (by decide +kernel) (by decide +kernel)
set_option maxRecDepth 20000 in
theorem gL_law_X1_lose : GoodIn wsL_law (wsV RL 55 RX1 yX1_lose wsX1_lose) := goodIn_app (goodIn_of _ (by decide +kernel)) ggL_law_X1_lose
set_option maxRecDepth 20000 in
theorem ggL_law_X2_lose : GoodIn wsL_law wsX2_lose := goodIn_r _ [273, 50, 35, 52, 53, 5, 54, 260, 261, 262, 263, 159, 36, 34, 37, 264, 388, 389, 390, 391, 392, 393, 394, 395, 396, 397, 398, 399, 400] (by decide +kernel) (by decide +kernel)
set_option maxRecDepth 20000 in
theorem gL_law_X2_lose : GoodIn wsL_law (wsV RL 58 RX2 yX2_lose wsX2_lose) := goodIn_app (goodIn_of _ (by decide +kernel)) ggL_law_X2_lose
set_option maxRecDepth 20000 in
theorem ggL_law_X1_poke : GoodIn wsL_law wsX1_poke := goodIn_r _ [277, 19, 244, 245, 2, 246, 91, 21, 92, 93, 78, 247, 248, 249, 250, 59, 251, 252, 253, 254, 28, 29, 255, 95, 96, 97, 141, 142, 143, 90, 380, 381, 382, 383, 384, 385, 386, 387, 401, 402, 403, 404, 405] (by decide +kernel) (by decide +kernel)
set_option maxRecDepth 20000 in
theorem gL_law_X1_poke : GoodIn wsL_law (wsV RL 59 RX1 yX1_poke wsX1_poke) := goodIn_app (goodIn_of _ (by decide +kernel)) ggL_law_X1_poke
set_option maxRecDepth 20000 in
theorem ggL_law_X2_poke : GoodIn wsL_law wsX2_poke := goodIn_r _ [281, 50, 35, 34, 52, 53, 5, 54, 260, 261, 262, 263, 159, 36, 37, 264, 388, 389, 390, 391, 392, 393, 394, 395, 396, 397, 398, 399, 400] (by decide +kernel) (by decide +kernel)
set_option maxRecDepth 20000 in
theorem gL_law_X2_poke : GoodIn wsL_law (wsV RL 63 RX2 yX2_poke wsX2_poke) := goodIn_app (goodIn_of _ (by decide +kernel)) ggL_law_X2_poke
set_option maxRecDepth 20000 in
theorem ggL_law_X1_reopen : GoodIn wsL_law wsX1_reopen := goodIn_r _ [285, 19, 59, 67, 68, 69, 2, 70, 71, 72, 73, 74, 75, 21, 76, 77, 78, 286, 287, 288, 289, 290, 87, 88, 89, 90, 91, 92, 93, 94, 95, 96, 97, 28, 98, 99, 100, 101, 102, 103, 104, 105, 27, 106, 107, 108, 109, 110, 118, 119, 120, 121, 151, 152, 153, 154, 130, 131, 132, 133, 134, 135, 136, 137, 138, 139, 140, 122, 123, 124, 125, 141, 142, 143, 144, 145, 146, 147, 291, 292, 293, 294, 111, 112, 113, 114, 115, 116, 117, 380, 381, 382, 383, 384, 385, 386, 387, 401, 402, 403, 404, 405] (by decide +kernel) (by decide +kernel)
set_option maxRecDepth 20000 in
theorem gL_law_X1_reopen : GoodIn wsL_law (wsV RL 64 RX1 yX1_reopen wsX1_reopen) := goodIn_app (goodIn_of _ (by decide +kernel)) ggL_law_X1_reopen
set_option maxRecDepth 20000 in
theorem ggL_law_X2_reopen : GoodIn wsL_law wsX2_reopen := goodIn_r _ [298, 50, 35, 34, 159, 39, 160, 161, 162, 5, 163, 299, 300, 301, 302, 303, 167, 168, 169, 170, 171, 172, 173, 174, 175, 212, 213, 214, 215, 196, 197, 198, 199, 180, 181, 182, 183, 184, 185, 186, 187, 164, 165, 166, 208, 209, 210, 211, 388, 389, 390, 391, 392, 393, 394, 395, 396, 397, 398, 399, 400] (by decide +kernel) (by decide +kernel)
set_option maxRecDepth 20000 in
theorem gL_law_X2_reopen : GoodIn wsL_law (wsV RL 68 RX2 yX2_reopen wsX2_reopen) := goodIn_app (goodIn_of _ (by decide +kernel)) ggL_law_X2_reopen
set_option maxRecDepth 20000 in
theorem ggL_law_X1_scrub : GoodIn wsL_law wsX1_scrub := goodIn_r _ [307, 308, 309, 138, 73, 139, 67, 68, 69, 2, 70, 19, 71, 72, 74, 75, 21, 76, 77, 78, 310, 311, 312, 313, 286, 287, 288, 289, 290, 87, 88, 89, 90, 91, 92, 93, 94, 95, 96, 97, 28, 98, 99, 100, 101, 102, 103, 104, 105, 27, 106, 107, 108, 109, 110, 118, 119, 120, 121, 151, 152, 153, 154, 130, 131, 132, 133, 134, 135, 136, 137, 140, 122, 123, 124, 125, 141, 142, 143, 144, 145, 146, 147, 380, 381, 382, 383, 384, 385, 386, 387, 401, 402, 403, 404, 405] (by decide +kernel) (by decide +kernel)
set_option maxRecDepth 20000 in
theorem gL_law_X1_scrub : GoodIn wsL_law (wsV RL 69 RX1 yX1_scrub wsX1_scrub) := goodIn_app (goodIn_of _ (by decide +kernel)) ggL_law_X1_scrub
set_option maxRecDepth 20000 in
theorem ggL_law_X2_scrub : GoodIn wsL_law wsX2_scrub := goodIn_r _ [317, 50, 35, 318, 160, 161, 162, 5, 163, 299, 300, 301, 302, 303, 167, 168, 169, 170, 34, 171, 172, 173, 174, 175, 212, 213, 214, 215, 196, 197, 198, 199, 39, 180, 181, 182, 183, 184, 185, 186, 187, 388, 389, 390, 391, 392, 393, 394, 395, 396, 397, 398, 399, 400] (by decide +kernel) (by decide +kernel)
set_option maxRecDepth 20000 in
theorem gL_law_X2_scrub : GoodIn wsL_law (wsV RL 72 RX2 yX2_scrub wsX2_scrub) := goodIn_app (goodIn_of _ (by decide +kernel)) ggL_law_X2_scrub
set_option maxRecDepth 20000 in
theorem ggL_law_X1_mended : GoodIn wsL_law wsX1_mended := goodIn_r _ [322, 290, 380, 381, 382, 383, 384, 385, 386, 387] (by decide +kernel) (by decide +kernel)
set_option maxRecDepth 20000 in
theorem gL_law_X1_mended : GoodIn wsL_law (wsV RL 73 RX1 yX1_mended wsX1_mended) := goodIn_app (goodIn_of _ (by decide +kernel)) ggL_law_X1_mended
set_option maxRecDepth 20000 in
theorem ggL_law_X2_mended : GoodIn wsL_law wsX2_mended := goodIn_r _ [326, 50, 303, 388, 389, 390, 391, 392, 393, 394, 395, 396, 397, 398, 399, 400] (by decide +kernel) (by decide +kernel)
set_option maxRecDepth 20000 in
theorem gL_law_X2_mended : GoodIn wsL_law (wsV RL 76 RX2 yX2_mended wsX2_mended) := goodIn_app (goodIn_of _ (by decide +kernel)) ggL_law_X2_mended
set_option maxRecDepth 20000 in
theorem ggL_law_X1_badAt : GoodIn wsL_law wsX1_badAt := goodIn_r _ [330, 67, 68, 69, 2, 70, 19, 71, 72, 73, 74, 75, 21, 76, 77, 78, 83, 84, 85, 86, 87, 88, 89, 90, 91, 92, 93, 94, 95, 96, 97, 28, 98, 99, 100, 101, 102, 103, 104, 105, 27, 106, 107, 108, 109, 110, 380, 381, 382, 383, 384, 385, 386, 387, 401, 402, 403, 404, 405] (by decide +kernel) (by decide +kernel)
set_option maxRecDepth 20000 in
theorem gL_law_X1_badAt : GoodIn wsL_law (wsV RL 77 RX1 yX1_badAt wsX1_badAt) := goodIn_app (goodIn_of _ (by decide +kernel)) ggL_law_X1_badAt
set_option maxRecDepth 20000 in
theorem ggL_law_X2_badAt : GoodIn wsL_law wsX2_badAt := goodIn_r _ [334, 50, 160, 161, 162, 5, 163, 35, 167, 168, 169, 170, 34, 171, 172, 173, 174, 175, 388, 389, 390, 391, 392, 393, 394, 395, 396, 397, 398, 399, 400] (by decide +kernel) (by decide +kernel)
set_option maxRecDepth 20000 in
theorem gL_law_X2_badAt : GoodIn wsL_law (wsV RL 80 RX2 yX2_badAt wsX2_badAt) := goodIn_app (goodIn_of _ (by decide +kernel)) ggL_law_X2_badAt
set_option maxRecDepth 20000 in
theorem ggL_law_L_byteAt : GoodIn wsL_law wsL_byteAt := goodIn_r _ [337, 338, 339, 340, 2, 341, 17, 342, 343, 344, 19, 244, 245, 246, 95, 21, 96, 97, 78, 28, 380, 381, 382, 383, 384, 385, 386, 387, 406, 407, 408, 409, 410, 411, 401, 402, 403, 404, 405] (by decide +kernel) (by decide +kernel)
set_option maxRecDepth 20000 in
theorem gL_law_L_byteAt : GoodIn wsL_law (va_wsS RL 81 yL_byteAt wsL_byteAt) := goodIn_app (goodIn_of _ (by decide +kernel)) ggL_law_L_byteAt
set_option maxRecDepth 20000 in
theorem ggL_law_X2_byteAt : GoodIn wsL_law wsX2_byteAt := goodIn_r _ [348, 40, 50, 35, 34, 52, 53, 5, 54, 388, 389, 390, 391, 392, 393, 394, 395, 396, 397, 398, 399, 400] (by decide +kernel) (by decide +kernel)
set_option maxRecDepth 20000 in
theorem gL_law_X2_byteAt : GoodIn wsL_law (wsV RL 84 RX2 yX2_byteAt wsX2_byteAt) := goodIn_app (goodIn_of _ (by decide +kernel)) ggL_law_X2_byteAt
set_option maxRecDepth 20000 in
theorem ggL_law_X2_thrown : GoodIn wsL_law wsX2_thrown := goodIn_r _ [352, 50, 388, 389, 390, 391, 392, 393, 394, 395, 396, 397, 398, 399, 400] (by decide +kernel) (by decide +kernel)
set_option maxRecDepth 20000 in
theorem gL_law_X2_thrown : GoodIn wsL_law (wsV RL 85 RX2 yX2_thrown wsX2_thrown) := goodIn_app (goodIn_of _ (by decide +kernel)) ggL_law_X2_thrown
set_option maxRecDepth 20000 in
theorem ggL_law_X1_same : GoodIn wsL_law wsX1_same := goodIn_r _ [356, 251, 19, 244, 245, 2, 246, 357, 21, 358, 359, 78, 255, 28, 29, 380, 381, 382, 383, 384, 385, 386, 387, 401, 402, 403, 404, 405] (by decide +kernel) (by decide +kernel)
set_option maxRecDepth 20000 in
theorem gL_law_X1_same : GoodIn wsL_law (wsV RL 88 RX1 yX1_same wsX1_same) := goodIn_app (goodIn_of _ (by decide +kernel)) ggL_law_X1_same
set_option maxRecDepth 20000 in
theorem ggL_law_X2_same : GoodIn wsL_law wsX2_same := goodIn_r _ [363, 50, 264, 35, 37, 34, 36, 52, 53, 5, 54, 388, 389, 390, 391, 392, 393, 394, 395, 396, 397, 398, 399, 400] (by decide +kernel) (by decide +kernel)
set_option maxRecDepth 20000 in
theorem gL_law_X2_same : GoodIn wsL_law (wsV RL 91 RX2 yX2_same wsX2_same) := goodIn_app (goodIn_of _ (by decide +kernel)) ggL_law_X2_same
set_option maxRecDepth 20000 in
theorem ggL_law_X1_odd : GoodIn wsL_law wsX1_odd := goodIn_r _ [367, 67, 68, 69, 2, 70, 19, 71, 72, 73, 74, 75, 21, 76, 77, 78, 148, 149, 150, 380, 381, 382, 383, 384, 385, 386, 387, 401, 402, 403, 404, 405] (by decide +kernel) (by decide +kernel)
set_option maxRecDepth 20000 in
theorem gL_law_X1_odd : GoodIn wsL_law (wsV RL 92 RX1 yX1_odd wsX1_odd) := goodIn_app (goodIn_of _ (by decide +kernel)) ggL_law_X1_odd
set_option maxRecDepth 20000 in
theorem ggL_law_X2_odd : GoodIn wsL_law wsX2_odd := goodIn_r _ [371, 50, 160, 161, 162, 5, 163, 35, 52, 53, 54, 388, 389, 390, 391, 392, 393, 394, 395, 396, 397, 398, 399, 400] (by decide +kernel) (by decide +kernel)
set_option maxRecDepth 20000 in
theorem gL_law_X2_odd : GoodIn wsL_law (wsV RL 95 RX2 yX2_odd wsX2_odd) := goodIn_app (goodIn_of _ (by decide +kernel)) ggL_law_X2_odd
set_option maxRecDepth 20000 in
theorem ggL_law_X1_size : GoodIn wsL_law wsX1_size := goodIn_r _ [375, 19, 244, 245, 2, 246, 75, 21, 76, 77, 78, 380, 381, 382, 383, 384, 385, 386, 387, 401, 402, 403, 404, 405] (by decide +kernel) (by decide +kernel)
set_option maxRecDepth 20000 in
theorem gL_law_X1_size : GoodIn wsL_law (wsV RL 96 RX1 yX1_size wsX1_size) := goodIn_app (goodIn_of _ (by decide +kernel)) ggL_law_X1_size
set_option maxRecDepth 20000 in
theorem ggL_law_X2_size : GoodIn wsL_law wsX2_size := goodIn_r _ [379, 50, 35, 52, 53, 5, 54, 388, 389, 390, 391, 392, 393, 394, 395, 396, 397, 398, 399, 400] (by decide +kernel) (by decide +kernel)
set_option maxRecDepth 20000 in
theorem gL_law_X2_size : GoodIn wsL_law (wsV RL 99 RX2 yX2_size wsX2_size) := goodIn_app (goodIn_of _ (by decide +kernel)) ggL_law_X2_size
theorem dL_law_0 : decode cL_law 0 = .ok (.new 8, 3) := by decide +kernel
theorem dL_law_3 : decode cL_law 3 = .ok (.dup, 1) := by decide +kernel
theorem dL_law_4 : decode cL_law 4 = .ok (.aload_n 0, 1) := by decide +kernel
theorem dL_law_5 : decode cL_law 5 = .ok (.iconst 0, 1) := by decide +kernel
theorem dL_law_6 : decode cL_law 6 = .ok (.invokestatic 15, 3) := by decide +kernel
theorem dL_law_9 : decode cL_law 9 = .ok (.invokespecial 21, 3) := by decide +kernel
theorem dL_law_12 : decode cL_law 12 = .ok (.astore_n 1, 1) := by decide +kernel
theorem dL_law_13 : decode cL_law 13 = .ok (.new 24, 3) := by decide +kernel
theorem dL_law_16 : decode cL_law 16 = .ok (.dup, 1) := by decide +kernel
theorem dL_law_17 : decode cL_law 17 = .ok (.aload_n 0, 1) := by decide +kernel
theorem dL_law_18 : decode cL_law 18 = .ok (.iconst 0, 1) := by decide +kernel
theorem dL_law_19 : decode cL_law 19 = .ok (.invokestatic 15, 3) := by decide +kernel
theorem dL_law_22 : decode cL_law 22 = .ok (.invokespecial 26, 3) := by decide +kernel
theorem dL_law_25 : decode cL_law 25 = .ok (.astore_n 2, 1) := by decide +kernel
theorem dL_law_26 : decode cL_law 26 = .ok (.iconst 1, 1) := by decide +kernel
theorem dL_law_27 : decode cL_law 27 = .ok (.newarray .long, 2) := by decide +kernel
theorem dL_law_29 : decode cL_law 29 = .ok (.astore_n 3, 1) := by decide +kernel
theorem dL_law_30 : decode cL_law 30 = .ok (.iconst 1, 1) := by decide +kernel
theorem dL_law_31 : decode cL_law 31 = .ok (.istore 4, 2) := by decide +kernel
theorem dL_law_33 : decode cL_law 33 = .ok (.iload 4, 2) := by decide +kernel
theorem dL_law_35 : decode cL_law 35 = .ok (.aload_n 0, 1) := by decide +kernel
theorem dL_law_36 : decode cL_law 36 = .ok (.arraylength, 1) := by decide +kernel
theorem dL_law_37 : decode cL_law 37 = .ok (.iconst 4, 1) := by decide +kernel
theorem dL_law_38 : decode cL_law 38 = .ok (.isub, 1) := by decide +kernel
theorem dL_law_39 : decode cL_law 39 = .ok (.if_icmp .gt 562, 3) := by decide +kernel
theorem dL_law_42 : decode cL_law 42 = .ok (.aload_n 0, 1) := by decide +kernel
theorem dL_law_43 : decode cL_law 43 = .ok (.iload 4, 2) := by decide +kernel
theorem dL_law_45 : decode cL_law 45 = .ok (.iaload, 1) := by decide +kernel
theorem dL_law_46 : decode cL_law 46 = .ok (.bipush 15, 2) := by decide +kernel
theorem dL_law_48 : decode cL_law 48 = .ok (.iand, 1) := by decide +kernel
theorem dL_law_49 : decode cL_law 49 = .ok (.tableswitch 546 0 15 #[79, 104, 129, 166, 191, 216, 253, 278, 327, 340, 365, 378, 391, 471, 496, 521], 79) := by decide +kernel
theorem dL_law_128 : decode cL_law 128 = .ok (.aload_n 1, 1) := by decide +kernel
theorem dL_law_129 : decode cL_law 129 = .ok (.aload_n 0, 1) := by decide +kernel
theorem dL_law_130 : decode cL_law 130 = .ok (.iload 4, 2) := by decide +kernel
theorem dL_law_132 : decode cL_law 132 = .ok (.iconst 1, 1) := by decide +kernel
theorem dL_law_133 : decode cL_law 133 = .ok (.iadd, 1) := by decide +kernel
theorem dL_law_134 : decode cL_law 134 = .ok (.iaload, 1) := by decide +kernel
theorem dL_law_135 : decode cL_law 135 = .ok (.invokevirtual 27, 3) := by decide +kernel
theorem dL_law_138 : decode cL_law 138 = .ok (.aload_n 2, 1) := by decide +kernel
theorem dL_law_139 : decode cL_law 139 = .ok (.aload_n 0, 1) := by decide +kernel
theorem dL_law_140 : decode cL_law 140 = .ok (.iload 4, 2) := by decide +kernel
theorem dL_law_142 : decode cL_law 142 = .ok (.iconst 1, 1) := by decide +kernel
theorem dL_law_143 : decode cL_law 143 = .ok (.iadd, 1) := by decide +kernel
theorem dL_law_144 : decode cL_law 144 = .ok (.iaload, 1) := by decide +kernel
theorem dL_law_145 : decode cL_law 145 = .ok (.invokevirtual 31, 3) := by decide +kernel
theorem dL_law_148 : decode cL_law 148 = .ok (.if_icmp .eq 447, 3) := by decide +kernel
theorem dL_law_151 : decode cL_law 151 = .ok (.iconst 0, 1) := by decide +kernel
theorem dL_law_152 : decode cL_law 152 = .ok (.ireturn, 1) := by decide +kernel
theorem dL_law_153 : decode cL_law 153 = .ok (.aload_n 1, 1) := by decide +kernel
theorem dL_law_154 : decode cL_law 154 = .ok (.aload_n 0, 1) := by decide +kernel
theorem dL_law_155 : decode cL_law 155 = .ok (.iload 4, 2) := by decide +kernel
theorem dL_law_157 : decode cL_law 157 = .ok (.iconst 1, 1) := by decide +kernel
theorem dL_law_158 : decode cL_law 158 = .ok (.iadd, 1) := by decide +kernel
theorem dL_law_159 : decode cL_law 159 = .ok (.iaload, 1) := by decide +kernel
theorem dL_law_160 : decode cL_law 160 = .ok (.invokevirtual 32, 3) := by decide +kernel
theorem dL_law_163 : decode cL_law 163 = .ok (.aload_n 2, 1) := by decide +kernel
theorem dL_law_164 : decode cL_law 164 = .ok (.aload_n 0, 1) := by decide +kernel
theorem dL_law_165 : decode cL_law 165 = .ok (.iload 4, 2) := by decide +kernel
theorem dL_law_167 : decode cL_law 167 = .ok (.iconst 1, 1) := by decide +kernel
theorem dL_law_168 : decode cL_law 168 = .ok (.iadd, 1) := by decide +kernel
theorem dL_law_169 : decode cL_law 169 = .ok (.iaload, 1) := by decide +kernel
theorem dL_law_170 : decode cL_law 170 = .ok (.invokevirtual 36, 3) := by decide +kernel
theorem dL_law_173 : decode cL_law 173 = .ok (.if_icmp .eq 422, 3) := by decide +kernel
theorem dL_law_176 : decode cL_law 176 = .ok (.iconst 0, 1) := by decide +kernel
theorem dL_law_177 : decode cL_law 177 = .ok (.ireturn, 1) := by decide +kernel
theorem dL_law_178 : decode cL_law 178 = .ok (.aload_n 1, 1) := by decide +kernel
theorem dL_law_179 : decode cL_law 179 = .ok (.aload_n 0, 1) := by decide +kernel
theorem dL_law_180 : decode cL_law 180 = .ok (.iload 4, 2) := by decide +kernel
theorem dL_law_182 : decode cL_law 182 = .ok (.iconst 1, 1) := by decide +kernel
theorem dL_law_183 : decode cL_law 183 = .ok (.iadd, 1) := by decide +kernel
theorem dL_law_184 : decode cL_law 184 = .ok (.iaload, 1) := by decide +kernel
theorem dL_law_185 : decode cL_law 185 = .ok (.aload_n 0, 1) := by decide +kernel
theorem dL_law_186 : decode cL_law 186 = .ok (.iload 4, 2) := by decide +kernel
theorem dL_law_188 : decode cL_law 188 = .ok (.iconst 2, 1) := by decide +kernel
theorem dL_law_189 : decode cL_law 189 = .ok (.iadd, 1) := by decide +kernel
theorem dL_law_190 : decode cL_law 190 = .ok (.iaload, 1) := by decide +kernel
theorem dL_law_191 : decode cL_law 191 = .ok (.invokevirtual 37, 3) := by decide +kernel
theorem dL_law_194 : decode cL_law 194 = .ok (.aload_n 2, 1) := by decide +kernel
theorem dL_law_195 : decode cL_law 195 = .ok (.aload_n 0, 1) := by decide +kernel
theorem dL_law_196 : decode cL_law 196 = .ok (.iload 4, 2) := by decide +kernel
theorem dL_law_198 : decode cL_law 198 = .ok (.iconst 1, 1) := by decide +kernel
theorem dL_law_199 : decode cL_law 199 = .ok (.iadd, 1) := by decide +kernel
theorem dL_law_200 : decode cL_law 200 = .ok (.iaload, 1) := by decide +kernel
theorem dL_law_201 : decode cL_law 201 = .ok (.aload_n 0, 1) := by decide +kernel
theorem dL_law_202 : decode cL_law 202 = .ok (.iload 4, 2) := by decide +kernel
theorem dL_law_204 : decode cL_law 204 = .ok (.iconst 2, 1) := by decide +kernel
theorem dL_law_205 : decode cL_law 205 = .ok (.iadd, 1) := by decide +kernel
theorem dL_law_206 : decode cL_law 206 = .ok (.iaload, 1) := by decide +kernel
theorem dL_law_207 : decode cL_law 207 = .ok (.invokevirtual 41, 3) := by decide +kernel
theorem dL_law_210 : decode cL_law 210 = .ok (.if_icmp .eq 385, 3) := by decide +kernel
theorem dL_law_213 : decode cL_law 213 = .ok (.iconst 0, 1) := by decide +kernel
theorem dL_law_214 : decode cL_law 214 = .ok (.ireturn, 1) := by decide +kernel
theorem dL_law_215 : decode cL_law 215 = .ok (.aload_n 1, 1) := by decide +kernel
theorem dL_law_216 : decode cL_law 216 = .ok (.aload_n 0, 1) := by decide +kernel
theorem dL_law_217 : decode cL_law 217 = .ok (.iload 4, 2) := by decide +kernel
theorem dL_law_219 : decode cL_law 219 = .ok (.iconst 1, 1) := by decide +kernel
theorem dL_law_220 : decode cL_law 220 = .ok (.iadd, 1) := by decide +kernel
theorem dL_law_221 : decode cL_law 221 = .ok (.iaload, 1) := by decide +kernel
theorem dL_law_222 : decode cL_law 222 = .ok (.invokevirtual 42, 3) := by decide +kernel
theorem dL_law_225 : decode cL_law 225 = .ok (.aload_n 2, 1) := by decide +kernel
theorem dL_law_226 : decode cL_law 226 = .ok (.aload_n 0, 1) := by decide +kernel
theorem dL_law_227 : decode cL_law 227 = .ok (.iload 4, 2) := by decide +kernel
theorem dL_law_229 : decode cL_law 229 = .ok (.iconst 1, 1) := by decide +kernel
theorem dL_law_230 : decode cL_law 230 = .ok (.iadd, 1) := by decide +kernel
theorem dL_law_231 : decode cL_law 231 = .ok (.iaload, 1) := by decide +kernel
theorem dL_law_232 : decode cL_law 232 = .ok (.invokevirtual 45, 3) := by decide +kernel
theorem dL_law_235 : decode cL_law 235 = .ok (.if_icmp .eq 360, 3) := by decide +kernel
theorem dL_law_238 : decode cL_law 238 = .ok (.iconst 0, 1) := by decide +kernel
theorem dL_law_239 : decode cL_law 239 = .ok (.ireturn, 1) := by decide +kernel
theorem dL_law_240 : decode cL_law 240 = .ok (.aload_n 1, 1) := by decide +kernel
theorem dL_law_241 : decode cL_law 241 = .ok (.aload_n 0, 1) := by decide +kernel
theorem dL_law_242 : decode cL_law 242 = .ok (.iload 4, 2) := by decide +kernel
theorem dL_law_244 : decode cL_law 244 = .ok (.iconst 1, 1) := by decide +kernel
theorem dL_law_245 : decode cL_law 245 = .ok (.iadd, 1) := by decide +kernel
theorem dL_law_246 : decode cL_law 246 = .ok (.iaload, 1) := by decide +kernel
theorem dL_law_247 : decode cL_law 247 = .ok (.invokevirtual 46, 3) := by decide +kernel
theorem dL_law_250 : decode cL_law 250 = .ok (.aload_n 2, 1) := by decide +kernel
theorem dL_law_251 : decode cL_law 251 = .ok (.aload_n 0, 1) := by decide +kernel
theorem dL_law_252 : decode cL_law 252 = .ok (.iload 4, 2) := by decide +kernel
theorem dL_law_254 : decode cL_law 254 = .ok (.iconst 1, 1) := by decide +kernel
theorem dL_law_255 : decode cL_law 255 = .ok (.iadd, 1) := by decide +kernel
theorem dL_law_256 : decode cL_law 256 = .ok (.iaload, 1) := by decide +kernel
theorem dL_law_257 : decode cL_law 257 = .ok (.invokevirtual 49, 3) := by decide +kernel
theorem dL_law_260 : decode cL_law 260 = .ok (.if_icmp .eq 335, 3) := by decide +kernel
theorem dL_law_263 : decode cL_law 263 = .ok (.iconst 0, 1) := by decide +kernel
theorem dL_law_264 : decode cL_law 264 = .ok (.ireturn, 1) := by decide +kernel
theorem dL_law_265 : decode cL_law 265 = .ok (.aload_n 1, 1) := by decide +kernel
theorem dL_law_266 : decode cL_law 266 = .ok (.aload_n 0, 1) := by decide +kernel
theorem dL_law_267 : decode cL_law 267 = .ok (.iload 4, 2) := by decide +kernel
theorem dL_law_269 : decode cL_law 269 = .ok (.iconst 1, 1) := by decide +kernel
theorem dL_law_270 : decode cL_law 270 = .ok (.iadd, 1) := by decide +kernel
theorem dL_law_271 : decode cL_law 271 = .ok (.iaload, 1) := by decide +kernel
theorem dL_law_272 : decode cL_law 272 = .ok (.aload_n 0, 1) := by decide +kernel
theorem dL_law_273 : decode cL_law 273 = .ok (.iload 4, 2) := by decide +kernel
theorem dL_law_275 : decode cL_law 275 = .ok (.iconst 2, 1) := by decide +kernel
theorem dL_law_276 : decode cL_law 276 = .ok (.iadd, 1) := by decide +kernel
theorem dL_law_277 : decode cL_law 277 = .ok (.iaload, 1) := by decide +kernel
theorem dL_law_278 : decode cL_law 278 = .ok (.invokevirtual 50, 3) := by decide +kernel
theorem dL_law_281 : decode cL_law 281 = .ok (.aload_n 2, 1) := by decide +kernel
theorem dL_law_282 : decode cL_law 282 = .ok (.aload_n 0, 1) := by decide +kernel
theorem dL_law_283 : decode cL_law 283 = .ok (.iload 4, 2) := by decide +kernel
theorem dL_law_285 : decode cL_law 285 = .ok (.iconst 1, 1) := by decide +kernel
theorem dL_law_286 : decode cL_law 286 = .ok (.iadd, 1) := by decide +kernel
theorem dL_law_287 : decode cL_law 287 = .ok (.iaload, 1) := by decide +kernel
theorem dL_law_288 : decode cL_law 288 = .ok (.aload_n 0, 1) := by decide +kernel
theorem dL_law_289 : decode cL_law 289 = .ok (.iload 4, 2) := by decide +kernel
theorem dL_law_291 : decode cL_law 291 = .ok (.iconst 2, 1) := by decide +kernel
theorem dL_law_292 : decode cL_law 292 = .ok (.iadd, 1) := by decide +kernel
theorem dL_law_293 : decode cL_law 293 = .ok (.iaload, 1) := by decide +kernel
theorem dL_law_294 : decode cL_law 294 = .ok (.invokevirtual 54, 3) := by decide +kernel
theorem dL_law_297 : decode cL_law 297 = .ok (.if_icmp .eq 298, 3) := by decide +kernel
theorem dL_law_300 : decode cL_law 300 = .ok (.iconst 0, 1) := by decide +kernel
theorem dL_law_301 : decode cL_law 301 = .ok (.ireturn, 1) := by decide +kernel
theorem dL_law_302 : decode cL_law 302 = .ok (.aload_n 1, 1) := by decide +kernel
theorem dL_law_303 : decode cL_law 303 = .ok (.aload_n 0, 1) := by decide +kernel
theorem dL_law_304 : decode cL_law 304 = .ok (.iload 4, 2) := by decide +kernel
theorem dL_law_306 : decode cL_law 306 = .ok (.iconst 1, 1) := by decide +kernel
theorem dL_law_307 : decode cL_law 307 = .ok (.iadd, 1) := by decide +kernel
theorem dL_law_308 : decode cL_law 308 = .ok (.iaload, 1) := by decide +kernel
theorem dL_law_309 : decode cL_law 309 = .ok (.invokevirtual 55, 3) := by decide +kernel
theorem dL_law_312 : decode cL_law 312 = .ok (.aload_n 2, 1) := by decide +kernel
theorem dL_law_313 : decode cL_law 313 = .ok (.aload_n 0, 1) := by decide +kernel
theorem dL_law_314 : decode cL_law 314 = .ok (.iload 4, 2) := by decide +kernel
theorem dL_law_316 : decode cL_law 316 = .ok (.iconst 1, 1) := by decide +kernel
theorem dL_law_317 : decode cL_law 317 = .ok (.iadd, 1) := by decide +kernel
theorem dL_law_318 : decode cL_law 318 = .ok (.iaload, 1) := by decide +kernel
theorem dL_law_319 : decode cL_law 319 = .ok (.invokevirtual 58, 3) := by decide +kernel
theorem dL_law_322 : decode cL_law 322 = .ok (.if_icmp .eq 273, 3) := by decide +kernel
theorem dL_law_325 : decode cL_law 325 = .ok (.iconst 0, 1) := by decide +kernel
theorem dL_law_326 : decode cL_law 326 = .ok (.ireturn, 1) := by decide +kernel
theorem dL_law_327 : decode cL_law 327 = .ok (.aload_n 1, 1) := by decide +kernel
theorem dL_law_328 : decode cL_law 328 = .ok (.aload_n 0, 1) := by decide +kernel
theorem dL_law_329 : decode cL_law 329 = .ok (.iload 4, 2) := by decide +kernel
theorem dL_law_331 : decode cL_law 331 = .ok (.iconst 1, 1) := by decide +kernel
theorem dL_law_332 : decode cL_law 332 = .ok (.iadd, 1) := by decide +kernel
theorem dL_law_333 : decode cL_law 333 = .ok (.iaload, 1) := by decide +kernel
theorem dL_law_334 : decode cL_law 334 = .ok (.aload_n 0, 1) := by decide +kernel
theorem dL_law_335 : decode cL_law 335 = .ok (.iload 4, 2) := by decide +kernel
theorem dL_law_337 : decode cL_law 337 = .ok (.iconst 2, 1) := by decide +kernel
theorem dL_law_338 : decode cL_law 338 = .ok (.iadd, 1) := by decide +kernel
theorem dL_law_339 : decode cL_law 339 = .ok (.iaload, 1) := by decide +kernel
theorem dL_law_340 : decode cL_law 340 = .ok (.aload_n 0, 1) := by decide +kernel
theorem dL_law_341 : decode cL_law 341 = .ok (.iload 4, 2) := by decide +kernel
theorem dL_law_343 : decode cL_law 343 = .ok (.iconst 3, 1) := by decide +kernel
theorem dL_law_344 : decode cL_law 344 = .ok (.iadd, 1) := by decide +kernel
theorem dL_law_345 : decode cL_law 345 = .ok (.iaload, 1) := by decide +kernel
theorem dL_law_346 : decode cL_law 346 = .ok (.invokevirtual 59, 3) := by decide +kernel
theorem dL_law_349 : decode cL_law 349 = .ok (.aload_n 2, 1) := by decide +kernel
theorem dL_law_350 : decode cL_law 350 = .ok (.aload_n 0, 1) := by decide +kernel
theorem dL_law_351 : decode cL_law 351 = .ok (.iload 4, 2) := by decide +kernel
theorem dL_law_353 : decode cL_law 353 = .ok (.iconst 1, 1) := by decide +kernel
theorem dL_law_354 : decode cL_law 354 = .ok (.iadd, 1) := by decide +kernel
theorem dL_law_355 : decode cL_law 355 = .ok (.iaload, 1) := by decide +kernel
theorem dL_law_356 : decode cL_law 356 = .ok (.aload_n 0, 1) := by decide +kernel
theorem dL_law_357 : decode cL_law 357 = .ok (.iload 4, 2) := by decide +kernel
theorem dL_law_359 : decode cL_law 359 = .ok (.iconst 2, 1) := by decide +kernel
theorem dL_law_360 : decode cL_law 360 = .ok (.iadd, 1) := by decide +kernel
theorem dL_law_361 : decode cL_law 361 = .ok (.iaload, 1) := by decide +kernel
theorem dL_law_362 : decode cL_law 362 = .ok (.aload_n 0, 1) := by decide +kernel
theorem dL_law_363 : decode cL_law 363 = .ok (.iload 4, 2) := by decide +kernel
theorem dL_law_365 : decode cL_law 365 = .ok (.iconst 3, 1) := by decide +kernel
theorem dL_law_366 : decode cL_law 366 = .ok (.iadd, 1) := by decide +kernel
theorem dL_law_367 : decode cL_law 367 = .ok (.iaload, 1) := by decide +kernel
theorem dL_law_368 : decode cL_law 368 = .ok (.invokevirtual 63, 3) := by decide +kernel
theorem dL_law_371 : decode cL_law 371 = .ok (.if_icmp .eq 224, 3) := by decide +kernel
theorem dL_law_374 : decode cL_law 374 = .ok (.iconst 0, 1) := by decide +kernel
theorem dL_law_375 : decode cL_law 375 = .ok (.ireturn, 1) := by decide +kernel
theorem dL_law_376 : decode cL_law 376 = .ok (.aload_n 1, 1) := by decide +kernel
theorem dL_law_377 : decode cL_law 377 = .ok (.invokevirtual 64, 3) := by decide +kernel
theorem dL_law_380 : decode cL_law 380 = .ok (.aload_n 2, 1) := by decide +kernel
theorem dL_law_381 : decode cL_law 381 = .ok (.invokevirtual 68, 3) := by decide +kernel
theorem dL_law_384 : decode cL_law 384 = .ok (.if_icmp .eq 211, 3) := by decide +kernel
theorem dL_law_387 : decode cL_law 387 = .ok (.iconst 0, 1) := by decide +kernel
theorem dL_law_388 : decode cL_law 388 = .ok (.ireturn, 1) := by decide +kernel
theorem dL_law_389 : decode cL_law 389 = .ok (.aload_n 1, 1) := by decide +kernel
theorem dL_law_390 : decode cL_law 390 = .ok (.aload_n 0, 1) := by decide +kernel
theorem dL_law_391 : decode cL_law 391 = .ok (.iload 4, 2) := by decide +kernel
theorem dL_law_393 : decode cL_law 393 = .ok (.iconst 1, 1) := by decide +kernel
theorem dL_law_394 : decode cL_law 394 = .ok (.iadd, 1) := by decide +kernel
theorem dL_law_395 : decode cL_law 395 = .ok (.iaload, 1) := by decide +kernel
theorem dL_law_396 : decode cL_law 396 = .ok (.invokevirtual 69, 3) := by decide +kernel
theorem dL_law_399 : decode cL_law 399 = .ok (.aload_n 2, 1) := by decide +kernel
theorem dL_law_400 : decode cL_law 400 = .ok (.aload_n 0, 1) := by decide +kernel
theorem dL_law_401 : decode cL_law 401 = .ok (.iload 4, 2) := by decide +kernel
theorem dL_law_403 : decode cL_law 403 = .ok (.iconst 1, 1) := by decide +kernel
theorem dL_law_404 : decode cL_law 404 = .ok (.iadd, 1) := by decide +kernel
theorem dL_law_405 : decode cL_law 405 = .ok (.iaload, 1) := by decide +kernel
theorem dL_law_406 : decode cL_law 406 = .ok (.invokevirtual 72, 3) := by decide +kernel
theorem dL_law_409 : decode cL_law 409 = .ok (.if_icmp .eq 186, 3) := by decide +kernel
theorem dL_law_412 : decode cL_law 412 = .ok (.iconst 0, 1) := by decide +kernel
theorem dL_law_413 : decode cL_law 413 = .ok (.ireturn, 1) := by decide +kernel
theorem dL_law_414 : decode cL_law 414 = .ok (.aload_n 1, 1) := by decide +kernel
theorem dL_law_415 : decode cL_law 415 = .ok (.invokevirtual 73, 3) := by decide +kernel
theorem dL_law_418 : decode cL_law 418 = .ok (.aload_n 2, 1) := by decide +kernel
theorem dL_law_419 : decode cL_law 419 = .ok (.invokevirtual 76, 3) := by decide +kernel
theorem dL_law_422 : decode cL_law 422 = .ok (.if_icmp .eq 173, 3) := by decide +kernel
theorem dL_law_425 : decode cL_law 425 = .ok (.iconst 0, 1) := by decide +kernel
theorem dL_law_426 : decode cL_law 426 = .ok (.ireturn, 1) := by decide +kernel
theorem dL_law_427 : decode cL_law 427 = .ok (.aload_n 1, 1) := by decide +kernel
theorem dL_law_428 : decode cL_law 428 = .ok (.invokevirtual 77, 3) := by decide +kernel
theorem dL_law_431 : decode cL_law 431 = .ok (.aload_n 2, 1) := by decide +kernel
theorem dL_law_432 : decode cL_law 432 = .ok (.invokevirtual 80, 3) := by decide +kernel
theorem dL_law_435 : decode cL_law 435 = .ok (.if_icmp .eq 160, 3) := by decide +kernel
theorem dL_law_438 : decode cL_law 438 = .ok (.iconst 0, 1) := by decide +kernel
theorem dL_law_439 : decode cL_law 439 = .ok (.ireturn, 1) := by decide +kernel
theorem dL_law_440 : decode cL_law 440 = .ok (.aload_n 1, 1) := by decide +kernel
theorem dL_law_441 : decode cL_law 441 = .ok (.aload_n 0, 1) := by decide +kernel
theorem dL_law_442 : decode cL_law 442 = .ok (.iload 4, 2) := by decide +kernel
theorem dL_law_444 : decode cL_law 444 = .ok (.iconst 1, 1) := by decide +kernel
theorem dL_law_445 : decode cL_law 445 = .ok (.iadd, 1) := by decide +kernel
theorem dL_law_446 : decode cL_law 446 = .ok (.iaload, 1) := by decide +kernel
theorem dL_law_447 : decode cL_law 447 = .ok (.aload_n 0, 1) := by decide +kernel
theorem dL_law_448 : decode cL_law 448 = .ok (.iload 4, 2) := by decide +kernel
theorem dL_law_450 : decode cL_law 450 = .ok (.iconst 2, 1) := by decide +kernel
theorem dL_law_451 : decode cL_law 451 = .ok (.iadd, 1) := by decide +kernel
theorem dL_law_452 : decode cL_law 452 = .ok (.iaload, 1) := by decide +kernel
theorem dL_law_453 : decode cL_law 453 = .ok (.aload_n 0, 1) := by decide +kernel
theorem dL_law_454 : decode cL_law 454 = .ok (.iload 4, 2) := by decide +kernel
theorem dL_law_456 : decode cL_law 456 = .ok (.iconst 3, 1) := by decide +kernel
theorem dL_law_457 : decode cL_law 457 = .ok (.iadd, 1) := by decide +kernel
theorem dL_law_458 : decode cL_law 458 = .ok (.iaload, 1) := by decide +kernel
theorem dL_law_459 : decode cL_law 459 = .ok (.aload_n 3, 1) := by decide +kernel
theorem dL_law_460 : decode cL_law 460 = .ok (.invokestatic 81, 3) := by decide +kernel
theorem dL_law_463 : decode cL_law 463 = .ok (.istore 5, 2) := by decide +kernel
theorem dL_law_465 : decode cL_law 465 = .ok (.aload_n 2, 1) := by decide +kernel
theorem dL_law_466 : decode cL_law 466 = .ok (.aload_n 0, 1) := by decide +kernel
theorem dL_law_467 : decode cL_law 467 = .ok (.iload 4, 2) := by decide +kernel
theorem dL_law_469 : decode cL_law 469 = .ok (.iconst 1, 1) := by decide +kernel
theorem dL_law_470 : decode cL_law 470 = .ok (.iadd, 1) := by decide +kernel
theorem dL_law_471 : decode cL_law 471 = .ok (.iaload, 1) := by decide +kernel
theorem dL_law_472 : decode cL_law 472 = .ok (.aload_n 0, 1) := by decide +kernel
theorem dL_law_473 : decode cL_law 473 = .ok (.iload 4, 2) := by decide +kernel
theorem dL_law_475 : decode cL_law 475 = .ok (.iconst 2, 1) := by decide +kernel
theorem dL_law_476 : decode cL_law 476 = .ok (.iadd, 1) := by decide +kernel
theorem dL_law_477 : decode cL_law 477 = .ok (.iaload, 1) := by decide +kernel
theorem dL_law_478 : decode cL_law 478 = .ok (.aload_n 0, 1) := by decide +kernel
theorem dL_law_479 : decode cL_law 479 = .ok (.iload 4, 2) := by decide +kernel
theorem dL_law_481 : decode cL_law 481 = .ok (.iconst 3, 1) := by decide +kernel
theorem dL_law_482 : decode cL_law 482 = .ok (.iadd, 1) := by decide +kernel
theorem dL_law_483 : decode cL_law 483 = .ok (.iaload, 1) := by decide +kernel
theorem dL_law_484 : decode cL_law 484 = .ok (.invokevirtual 84, 3) := by decide +kernel
theorem dL_law_487 : decode cL_law 487 = .ok (.istore 6, 2) := by decide +kernel
theorem dL_law_489 : decode cL_law 489 = .ok (.aload_n 2, 1) := by decide +kernel
theorem dL_law_490 : decode cL_law 490 = .ok (.invokevirtual 85, 3) := by decide +kernel
theorem dL_law_493 : decode cL_law 493 = .ok (.iload 5, 2) := by decide +kernel
theorem dL_law_495 : decode cL_law 495 = .ok (.if_icmp .eq 5, 3) := by decide +kernel
theorem dL_law_498 : decode cL_law 498 = .ok (.iconst 0, 1) := by decide +kernel
theorem dL_law_499 : decode cL_law 499 = .ok (.ireturn, 1) := by decide +kernel
theorem dL_law_500 : decode cL_law 500 = .ok (.iload 5, 2) := by decide +kernel
theorem dL_law_502 : decode cL_law 502 = .ok (.ifCond .ne 15, 3) := by decide +kernel
theorem dL_law_505 : decode cL_law 505 = .ok (.aload_n 3, 1) := by decide +kernel
theorem dL_law_506 : decode cL_law 506 = .ok (.iconst 0, 1) := by decide +kernel
theorem dL_law_507 : decode cL_law 507 = .ok (.laload, 1) := by decide +kernel
theorem dL_law_508 : decode cL_law 508 = .ok (.iload 6, 2) := by decide +kernel
theorem dL_law_510 : decode cL_law 510 = .ok (.i2l, 1) := by decide +kernel
theorem dL_law_511 : decode cL_law 511 = .ok (.lcmp, 1) := by decide +kernel
theorem dL_law_512 : decode cL_law 512 = .ok (.ifCond .eq 5, 3) := by decide +kernel
theorem dL_law_515 : decode cL_law 515 = .ok (.iconst 0, 1) := by decide +kernel
theorem dL_law_516 : decode cL_law 516 = .ok (.ireturn, 1) := by decide +kernel
theorem dL_law_517 : decode cL_law 517 = .ok (.goto 78, 3) := by decide +kernel
theorem dL_law_520 : decode cL_law 520 = .ok (.aload_n 1, 1) := by decide +kernel
theorem dL_law_521 : decode cL_law 521 = .ok (.aload_n 0, 1) := by decide +kernel
theorem dL_law_522 : decode cL_law 522 = .ok (.iload 4, 2) := by decide +kernel
theorem dL_law_524 : decode cL_law 524 = .ok (.iconst 1, 1) := by decide +kernel
theorem dL_law_525 : decode cL_law 525 = .ok (.iadd, 1) := by decide +kernel
theorem dL_law_526 : decode cL_law 526 = .ok (.iaload, 1) := by decide +kernel
theorem dL_law_527 : decode cL_law 527 = .ok (.invokevirtual 88, 3) := by decide +kernel
theorem dL_law_530 : decode cL_law 530 = .ok (.aload_n 2, 1) := by decide +kernel
theorem dL_law_531 : decode cL_law 531 = .ok (.aload_n 0, 1) := by decide +kernel
theorem dL_law_532 : decode cL_law 532 = .ok (.iload 4, 2) := by decide +kernel
theorem dL_law_534 : decode cL_law 534 = .ok (.iconst 1, 1) := by decide +kernel
theorem dL_law_535 : decode cL_law 535 = .ok (.iadd, 1) := by decide +kernel
theorem dL_law_536 : decode cL_law 536 = .ok (.iaload, 1) := by decide +kernel
theorem dL_law_537 : decode cL_law 537 = .ok (.invokevirtual 91, 3) := by decide +kernel
theorem dL_law_540 : decode cL_law 540 = .ok (.if_icmp .eq 55, 3) := by decide +kernel
theorem dL_law_543 : decode cL_law 543 = .ok (.iconst 0, 1) := by decide +kernel
theorem dL_law_544 : decode cL_law 544 = .ok (.ireturn, 1) := by decide +kernel
theorem dL_law_545 : decode cL_law 545 = .ok (.aload_n 1, 1) := by decide +kernel
theorem dL_law_546 : decode cL_law 546 = .ok (.aload_n 0, 1) := by decide +kernel
theorem dL_law_547 : decode cL_law 547 = .ok (.iload 4, 2) := by decide +kernel
theorem dL_law_549 : decode cL_law 549 = .ok (.iconst 1, 1) := by decide +kernel
theorem dL_law_550 : decode cL_law 550 = .ok (.iadd, 1) := by decide +kernel
theorem dL_law_551 : decode cL_law 551 = .ok (.iaload, 1) := by decide +kernel
theorem dL_law_552 : decode cL_law 552 = .ok (.invokevirtual 92, 3) := by decide +kernel
theorem dL_law_555 : decode cL_law 555 = .ok (.aload_n 2, 1) := by decide +kernel
theorem dL_law_556 : decode cL_law 556 = .ok (.aload_n 0, 1) := by decide +kernel
theorem dL_law_557 : decode cL_law 557 = .ok (.iload 4, 2) := by decide +kernel
theorem dL_law_559 : decode cL_law 559 = .ok (.iconst 1, 1) := by decide +kernel
theorem dL_law_560 : decode cL_law 560 = .ok (.iadd, 1) := by decide +kernel
theorem dL_law_561 : decode cL_law 561 = .ok (.iaload, 1) := by decide +kernel
theorem dL_law_562 : decode cL_law 562 = .ok (.invokevirtual 95, 3) := by decide +kernel
theorem dL_law_565 : decode cL_law 565 = .ok (.if_icmp .eq 30, 3) := by decide +kernel
theorem dL_law_568 : decode cL_law 568 = .ok (.iconst 0, 1) := by decide +kernel
theorem dL_law_569 : decode cL_law 569 = .ok (.ireturn, 1) := by decide +kernel
theorem dL_law_570 : decode cL_law 570 = .ok (.aload_n 1, 1) := by decide +kernel
theorem dL_law_571 : decode cL_law 571 = .ok (.aload_n 0, 1) := by decide +kernel
theorem dL_law_572 : decode cL_law 572 = .ok (.iload 4, 2) := by decide +kernel
theorem dL_law_574 : decode cL_law 574 = .ok (.iconst 1, 1) := by decide +kernel
theorem dL_law_575 : decode cL_law 575 = .ok (.iadd, 1) := by decide +kernel
theorem dL_law_576 : decode cL_law 576 = .ok (.iaload, 1) := by decide +kernel
theorem dL_law_577 : decode cL_law 577 = .ok (.invokevirtual 96, 3) := by decide +kernel
theorem dL_law_580 : decode cL_law 580 = .ok (.aload_n 2, 1) := by decide +kernel
theorem dL_law_581 : decode cL_law 581 = .ok (.aload_n 0, 1) := by decide +kernel
theorem dL_law_582 : decode cL_law 582 = .ok (.iload 4, 2) := by decide +kernel
theorem dL_law_584 : decode cL_law 584 = .ok (.iconst 1, 1) := by decide +kernel
theorem dL_law_585 : decode cL_law 585 = .ok (.iadd, 1) := by decide +kernel
theorem dL_law_586 : decode cL_law 586 = .ok (.iaload, 1) := by decide +kernel
theorem dL_law_587 : decode cL_law 587 = .ok (.invokevirtual 99, 3) := by decide +kernel
theorem dL_law_590 : decode cL_law 590 = .ok (.if_icmp .eq 5, 3) := by decide +kernel
theorem dL_law_593 : decode cL_law 593 = .ok (.iconst 0, 1) := by decide +kernel
theorem dL_law_594 : decode cL_law 594 = .ok (.ireturn, 1) := by decide +kernel
theorem dL_law_595 : decode cL_law 595 = .ok (.iinc 4 4, 3) := by decide +kernel
theorem dL_law_598 : decode cL_law 598 = .ok (.goto (-565), 3) := by decide +kernel
theorem dL_law_601 : decode cL_law 601 = .ok (.iconst 1, 1) := by decide +kernel
theorem dL_law_602 : decode cL_law 602 = .ok (.ireturn, 1) := by decide +kernel


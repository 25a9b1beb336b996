/-! What the law's callees need stands among its words; the helper's decode rows. -/
theorem dL_cell_0 : decode cL_cell 0 = .ok (.aload_n 0, 1) := by decide +kernel
theorem dL_cell_1 : decode cL_cell 1 = .ok (.arraylength, 1) := by decide +kernel
theorem dL_cell_2 : decode cL_cell 2 = .ok (.ifCond .ne 12, 3) := by decide +kernel
theorem dL_cell_5 : decode cL_cell 5 = .ok (.iload_n 1, 1) := by decide +kernel
theorem dL_cell_6 : decode cL_cell 6 = .ok (.bipush 37, 2) := by decide +kernel
theorem dL_cell_8 : decode cL_cell 8 = .ok (.imul, 1) := by decide +kernel
theorem dL_cell_9 : decode cL_cell 9 = .ok (.iconst 5, 1) := by decide +kernel
theorem dL_cell_10 : decode cL_cell 10 = .ok (.iadd, 1) := by decide +kernel
theorem dL_cell_11 : decode cL_cell 11 = .ok (.goto 17, 3) := by decide +kernel
theorem dL_cell_14 : decode cL_cell 14 = .ok (.aload_n 0, 1) := by decide +kernel
theorem dL_cell_15 : decode cL_cell 15 = .ok (.iload_n 1, 1) := by decide +kernel
theorem dL_cell_16 : decode cL_cell 16 = .ok (.aload_n 0, 1) := by decide +kernel
theorem dL_cell_17 : decode cL_cell 17 = .ok (.arraylength, 1) := by decide +kernel
theorem dL_cell_18 : decode cL_cell 18 = .ok (.irem, 1) := by decide +kernel
theorem dL_cell_19 : decode cL_cell 19 = .ok (.iaload, 1) := by decide +kernel
theorem dL_cell_20 : decode cL_cell 20 = .ok (.iload_n 1, 1) := by decide +kernel
theorem dL_cell_21 : decode cL_cell 21 = .ok (.bipush 7, 2) := by decide +kernel
theorem dL_cell_23 : decode cL_cell 23 = .ok (.irem, 1) := by decide +kernel
theorem dL_cell_24 : decode cL_cell 24 = .ok (.ishr, 1) := by decide +kernel
theorem dL_cell_25 : decode cL_cell 25 = .ok (.ldc 7, 2) := by decide +kernel
theorem dL_cell_27 : decode cL_cell 27 = .ok (.iand, 1) := by decide +kernel
theorem dL_cell_28 : decode cL_cell 28 = .ok (.iload_n 2, 1) := by decide +kernel
theorem dL_cell_29 : decode cL_cell 29 = .ok (.irem, 1) := by decide +kernel
theorem dL_cell_30 : decode cL_cell 30 = .ok (.ireturn, 1) := by decide +kernel
set_option maxRecDepth 20000 in
theorem ggL_law_X7_init : GoodIn wsL_law wsX7_init := goodIn_r _ [6, 7, 8, 9, 10, 11, 12, 13, 14, 15, 16, 17, 18, 19, 20, 21, 22, 23, 24, 25, 26, 27, 28, 29, 30, 31, 32, 33, 34, 35, 36, 37, 38, 39, 40, 41, 42, 43, 2, 44, 45, 46, 47, 48, 49, 50, 51, 52, 53, 54, 55, 56, 57, 58, 59, 60, 61, 62, 63, 64, 65, 66, 67, 68, 69, 70, 384, 385, 386, 375, 376, 377, 378, 379, 380, 381, 382, 383, 387, 388, 389, 390, 391, 392, 393, 394, 395, 396, 397, 398, 399] (by decide +kernel) (by decide +kernel)
set_option maxRecDepth 20000 in
theorem gL_law_X7_init : GoodIn wsL_law (wsX7_init) := ggL_law_X7_init
set_option maxRecDepth 20000 in
theorem ggL_law_L_cell : GoodIn wsL_law wsL_cell := goodIn_r _ [74, 75] (by decide +kernel) (by decide +kernel)
set_option maxRecDepth 20000 in
theorem gL_law_L_cell : GoodIn wsL_law (va_wsS RL 11 yL_cell wsL_cell) := goodIn_app (goodIn_of _ (by decide +kernel)) ggL_law_L_cell
set_option maxRecDepth 20000 in
theorem ggL_law_X7_told : GoodIn wsL_law wsX7_told := goodIn_r _ [79, 13, 19, 23, 24, 80, 81, 82, 43, 2, 44, 83, 84, 85, 12, 86, 30, 87, 88, 89, 90, 91, 92, 93, 31, 94, 95, 96, 18, 97, 98, 99, 100, 101, 22, 102, 103, 104, 105, 106, 107, 108, 109, 110, 111, 112, 113, 114, 115, 116, 117, 118, 119, 375, 376, 377, 378, 379, 380, 381, 382, 383, 384, 385, 386, 387, 388, 389, 390, 391, 392, 393, 394] (by decide +kernel) (by decide +kernel)
set_option maxRecDepth 20000 in
theorem gL_law_X7_told : GoodIn wsL_law (wsV RL 17 RX7 yX7_told wsX7_told) := goodIn_app (goodIn_of _ (by decide +kernel)) ggL_law_X7_told
set_option maxRecDepth 20000 in
theorem ggL_law_X7_ruler : GoodIn wsL_law wsX7_ruler := goodIn_r _ [123, 23, 124, 125, 2, 126, 127, 128, 129, 130, 131, 132, 22, 133, 63, 134, 135, 136, 137, 138, 139, 140, 103, 61, 115, 141, 142, 143, 144, 145, 146, 147, 148, 149, 41, 38, 42, 43, 44, 150, 151, 152, 65, 153, 154, 155, 156, 157, 158, 159, 160, 161, 162, 163, 164, 165, 166, 167, 168, 169, 170, 171, 172, 173, 174, 175, 176, 177, 178, 179, 180, 181, 182, 183, 184, 37, 39, 40, 375, 376, 377, 378, 379, 380, 381, 382, 383, 391, 392, 393, 394, 395, 396, 397, 398, 399] (by decide +kernel) (by decide +kernel)
set_option maxRecDepth 20000 in
theorem gL_law_X7_ruler : GoodIn wsL_law (wsV RL 21 RX7 yX7_ruler wsX7_ruler) := goodIn_app (goodIn_of _ (by decide +kernel)) ggL_law_X7_ruler
set_option maxRecDepth 20000 in
theorem ggL_law_X7_cover : GoodIn wsL_law wsX7_cover := goodIn_r _ [188, 24, 124, 125, 2, 126, 127, 128, 129, 130, 131, 132, 22, 133, 63, 134, 135, 136, 137, 138, 139, 140, 103, 61, 115, 141, 142, 143, 144, 145, 146, 147, 148, 149, 41, 38, 42, 43, 44, 150, 151, 152, 65, 153, 154, 155, 156, 157, 158, 159, 160, 161, 162, 163, 164, 165, 166, 167, 168, 169, 170, 171, 172, 173, 174, 175, 176, 177, 178, 179, 180, 181, 182, 183, 184, 37, 39, 40, 375, 376, 377, 378, 379, 380, 381, 382, 383, 391, 392, 393, 394, 395, 396, 397, 398, 399] (by decide +kernel) (by decide +kernel)
set_option maxRecDepth 20000 in
theorem gL_law_X7_cover : GoodIn wsL_law (wsV RL 25 RX7 yX7_cover wsX7_cover) := goodIn_app (goodIn_of _ (by decide +kernel)) ggL_law_X7_cover
set_option maxRecDepth 20000 in
theorem ggL_law_X7_stand : GoodIn wsL_law wsX7_stand := goodIn_r _ [192, 23, 24, 13, 19, 124, 125, 2, 126, 82, 43, 44, 130, 131, 132, 22, 133, 63, 134, 135, 136, 137, 138, 139, 140, 103, 61, 115, 141, 142, 143, 144, 145, 146, 147, 148, 149, 41, 38, 42, 150, 151, 152, 65, 153, 154, 155, 156, 157, 158, 159, 160, 161, 162, 163, 164, 165, 166, 167, 168, 169, 170, 171, 172, 173, 174, 193, 194, 195, 196, 197, 198, 199, 200, 201, 182, 183, 184, 37, 39, 40, 202, 33, 34, 12, 35, 36, 45, 46, 47, 48, 30, 49, 50, 51, 203, 204, 205, 18, 206, 98, 207, 208, 209, 210, 211, 375, 376, 377, 378, 379, 380, 381, 382, 383, 391, 392, 393, 394, 395, 396, 397, 398, 399, 384, 385, 386, 387, 388, 389, 390] (by decide +kernel) (by decide +kernel)
set_option maxRecDepth 20000 in
theorem gL_law_X7_stand : GoodIn wsL_law (wsV RL 29 RX7 yX7_stand wsX7_stand) := goodIn_app (goodIn_of _ (by decide +kernel)) ggL_law_X7_stand
set_option maxRecDepth 20000 in
theorem ggL_law_X7_facts : GoodIn wsL_law wsX7_facts := goodIn_r _ [215, 13, 216, 217, 218, 12, 219, 49, 207, 208, 209, 210, 211, 168, 169, 170, 171, 172, 173, 197, 198, 38, 199, 200, 201, 182, 183, 184, 37, 39, 40, 41, 42, 43, 2, 44, 220, 221, 222, 223, 224, 225, 88, 89, 226, 227, 228, 229, 230, 231, 232, 233, 234, 235, 236, 237, 238, 239, 375, 376, 377, 378, 379, 380, 381, 382, 383, 384, 385, 386] (by decide +kernel) (by decide +kernel)
set_option maxRecDepth 20000 in
theorem gL_law_X7_facts : GoodIn wsL_law (wsV RL 33 RX7 yX7_facts wsX7_facts) := goodIn_app (goodIn_of _ (by decide +kernel)) ggL_law_X7_facts
set_option maxRecDepth 20000 in
theorem ggL_law_X7_station : GoodIn wsL_law wsX7_station := goodIn_r _ [243, 13, 216, 217, 218, 12, 219, 49, 244, 182, 38, 183, 184, 37, 39, 40, 41, 42, 43, 2, 44, 375, 376, 377, 378, 379, 380, 381, 382, 383, 384, 385, 386] (by decide +kernel) (by decide +kernel)
set_option maxRecDepth 20000 in
theorem gL_law_X7_station : GoodIn wsL_law (wsV RL 36 RX7 yX7_station wsX7_station) := goodIn_app (goodIn_of _ (by decide +kernel)) ggL_law_X7_station
set_option maxRecDepth 20000 in
theorem ggL_law_X7_sky : GoodIn wsL_law wsX7_sky := goodIn_r _ [248, 13, 81, 87, 88, 2, 89, 249, 250, 251, 90, 91, 92, 12, 93, 31, 252, 253, 254, 255, 375, 376, 377, 378, 379, 380, 381, 382, 383, 384, 385, 386] (by decide +kernel) (by decide +kernel)
set_option maxRecDepth 20000 in
theorem gL_law_X7_sky : GoodIn wsL_law (wsV RL 39 RX7 yX7_sky wsX7_sky) := goodIn_app (goodIn_of _ (by decide +kernel)) ggL_law_X7_sky
set_option maxRecDepth 20000 in
theorem ggL_law_X7_closure : GoodIn wsL_law wsX7_closure := goodIn_r _ [259, 13, 260, 261, 262, 12, 263, 49, 36, 37, 38, 39, 40, 41, 42, 43, 2, 44, 264, 265, 266, 267, 268, 135, 136, 137, 269, 139, 140, 270, 91, 92, 93, 31, 88, 89, 271, 84, 85, 86, 30, 272, 273, 274, 275, 276, 375, 376, 377, 378, 379, 380, 381, 382, 383, 384, 385, 386] (by decide +kernel) (by decide +kernel)
set_option maxRecDepth 20000 in
theorem gL_law_X7_closure : GoodIn wsL_law (wsV RL 42 RX7 yX7_closure wsX7_closure) := goodIn_app (goodIn_of _ (by decide +kernel)) ggL_law_X7_closure
set_option maxRecDepth 20000 in
theorem ggL_law_X7_error : GoodIn wsL_law wsX7_error := goodIn_r _ [280, 13, 81, 260, 261, 262, 12, 263, 49, 36, 37, 38, 39, 40, 41, 42, 43, 2, 44, 249, 250, 251, 83, 84, 85, 86, 30, 281, 282, 283, 284, 19, 285, 286, 287, 18, 288, 289, 55, 56, 98, 290, 291, 292, 293, 273, 274, 275, 294, 46, 47, 48, 50, 51, 375, 376, 377, 378, 379, 380, 381, 382, 383, 384, 385, 386, 387, 388, 389, 390] (by decide +kernel) (by decide +kernel)
set_option maxRecDepth 20000 in
theorem gL_law_X7_error : GoodIn wsL_law (wsV RL 45 RX7 yX7_error wsX7_error) := goodIn_app (goodIn_of _ (by decide +kernel)) ggL_law_X7_error
set_option maxRecDepth 20000 in
theorem ggL_law_X7_left : GoodIn wsL_law wsX7_left := goodIn_r _ [298, 13, 260, 261, 262, 12, 263, 49, 36, 37, 38, 39, 40, 41, 42, 43, 2, 44, 216, 217, 218, 219, 299, 300, 301, 302, 236, 221, 222, 223, 224, 225, 88, 89, 200, 168, 169, 170, 171, 172, 173, 375, 376, 377, 378, 379, 380, 381, 382, 383, 384, 385, 386] (by decide +kernel) (by decide +kernel)
set_option maxRecDepth 20000 in
theorem gL_law_X7_left : GoodIn wsL_law (wsV RL 48 RX7 yX7_left wsX7_left) := goodIn_app (goodIn_of _ (by decide +kernel)) ggL_law_X7_left
set_option maxRecDepth 20000 in
theorem ggL_law_X7_image : GoodIn wsL_law wsX7_image := goodIn_r _ [306, 13, 307, 308, 309, 2, 310, 311, 312, 313, 314, 14, 15, 315, 316, 317, 12, 318, 49, 30, 319, 320, 321, 322, 31, 375, 376, 377, 378, 379, 380, 381, 382, 383, 384, 385, 386] (by decide +kernel) (by decide +kernel)
set_option maxRecDepth 20000 in
theorem gL_law_X7_image : GoodIn wsL_law (wsV RL 51 RX7 yX7_image wsX7_image) := goodIn_app (goodIn_of _ (by decide +kernel)) ggL_law_X7_image
set_option maxRecDepth 20000 in
theorem ggL_law_X7_lift : GoodIn wsL_law wsX7_lift := goodIn_r _ [326, 13, 260, 261, 262, 12, 263, 49, 36, 37, 38, 39, 40, 41, 42, 43, 2, 44, 281, 282, 283, 284, 19, 83, 84, 85, 86, 30, 285, 286, 287, 18, 288, 289, 55, 56, 98, 290, 291, 292, 293, 273, 274, 275, 294, 46, 47, 48, 50, 51, 207, 208, 209, 210, 211, 168, 169, 170, 171, 172, 173, 375, 376, 377, 378, 379, 380, 381, 382, 383, 384, 385, 386, 387, 388, 389, 390] (by decide +kernel) (by decide +kernel)
set_option maxRecDepth 20000 in
theorem gL_law_X7_lift : GoodIn wsL_law (wsV RL 54 RX7 yX7_lift wsX7_lift) := goodIn_app (goodIn_of _ (by decide +kernel)) ggL_law_X7_lift
set_option maxRecDepth 20000 in
theorem ggL_law_X7_phase : GoodIn wsL_law wsX7_phase := goodIn_r _ [330, 13, 260, 261, 262, 12, 263, 49, 36, 37, 38, 39, 40, 41, 42, 43, 2, 44, 264, 265, 266, 267, 268, 135, 136, 137, 269, 139, 140, 270, 91, 92, 93, 31, 88, 89, 271, 84, 85, 86, 30, 272, 273, 274, 275, 375, 376, 377, 378, 379, 380, 381, 382, 383, 384, 385, 386] (by decide +kernel) (by decide +kernel)
set_option maxRecDepth 20000 in
theorem gL_law_X7_phase : GoodIn wsL_law (wsV RL 57 RX7 yX7_phase wsX7_phase) := goodIn_app (goodIn_of _ (by decide +kernel)) ggL_law_X7_phase
set_option maxRecDepth 20000 in
theorem ggL_law_X7_undo : GoodIn wsL_law wsX7_undo := goodIn_r _ [334, 19, 13, 80, 94, 95, 96, 18, 97, 98, 335, 336, 337, 338, 55, 289, 290, 291, 292, 293, 273, 274, 275, 339, 340, 341, 342, 56, 294, 46, 47, 12, 48, 30, 49, 50, 43, 2, 44, 51, 41, 38, 42, 343, 344, 345, 346, 375, 376, 377, 378, 379, 380, 381, 382, 383, 387, 388, 389, 390, 384, 385, 386] (by decide +kernel) (by decide +kernel)
set_option maxRecDepth 20000 in
theorem gL_law_X7_undo : GoodIn wsL_law (wsV RL 60 RX7 yX7_undo wsX7_undo) := goodIn_app (goodIn_of _ (by decide +kernel)) ggL_law_X7_undo
set_option maxRecDepth 20000 in
theorem ggL_law_X7_sure : GoodIn wsL_law wsX7_sure := goodIn_r _ [350, 13, 207, 208, 209, 12, 210, 49, 211, 168, 169, 170, 171, 172, 173, 216, 217, 218, 219, 351, 352, 353, 2, 354, 355, 37, 38, 39, 40, 41, 42, 43, 44, 299, 300, 301, 302, 236, 221, 222, 223, 224, 225, 88, 89, 200, 375, 376, 377, 378, 379, 380, 381, 382, 383, 384, 385, 386] (by decide +kernel) (by decide +kernel)
set_option maxRecDepth 20000 in
theorem gL_law_X7_sure : GoodIn wsL_law (wsV RL 64 RX7 yX7_sure wsX7_sure) := goodIn_app (goodIn_of _ (by decide +kernel)) ggL_law_X7_sure
set_option maxRecDepth 20000 in
theorem ggL_law_X7_missed : GoodIn wsL_law wsX7_missed := goodIn_r _ [359, 13, 360, 207, 208, 209, 12, 210, 49, 211, 168, 169, 170, 171, 172, 173, 216, 217, 218, 219, 351, 352, 353, 2, 354, 355, 37, 38, 39, 40, 41, 42, 43, 44, 299, 300, 301, 302, 236, 221, 222, 223, 224, 225, 88, 89, 200, 361, 375, 376, 377, 378, 379, 380, 381, 382, 383, 384, 385, 386] (by decide +kernel) (by decide +kernel)
set_option maxRecDepth 20000 in
theorem gL_law_X7_missed : GoodIn wsL_law (wsV RL 67 RX7 yX7_missed wsX7_missed) := goodIn_app (goodIn_of _ (by decide +kernel)) ggL_law_X7_missed
set_option maxRecDepth 20000 in
theorem ggL_law_X7_restore : GoodIn wsL_law wsX7_restore := goodIn_r _ [365, 307, 13, 19, 308, 309, 2, 310, 311, 312, 313, 314, 14, 15, 315, 316, 317, 12, 318, 49, 30, 319, 320, 321, 322, 31, 203, 204, 205, 18, 206, 98, 375, 376, 377, 378, 379, 380, 381, 382, 383, 384, 385, 386, 387, 388, 389, 390] (by decide +kernel) (by decide +kernel)
set_option maxRecDepth 20000 in
theorem gL_law_X7_restore : GoodIn wsL_law (wsV RL 70 RX7 yX7_restore wsX7_restore) := goodIn_app (goodIn_of _ (by decide +kernel)) ggL_law_X7_restore
set_option maxRecDepth 20000 in
theorem ggL_law_X7_put : GoodIn wsL_law wsX7_put := goodIn_r _ [369, 13, 82, 43, 2, 44, 260, 261, 262, 12, 263, 49, 36, 37, 38, 39, 40, 41, 42, 207, 208, 209, 210, 211, 168, 169, 170, 171, 172, 173, 281, 282, 283, 284, 19, 83, 84, 85, 86, 30, 285, 286, 287, 18, 288, 289, 55, 56, 98, 290, 291, 292, 293, 273, 274, 275, 294, 46, 47, 48, 50, 51, 375, 376, 377, 378, 379, 380, 381, 382, 383, 384, 385, 386, 387, 388, 389, 390] (by decide +kernel) (by decide +kernel)
set_option maxRecDepth 20000 in
theorem gL_law_X7_put : GoodIn wsL_law (wsV RL 73 RX7 yX7_put wsX7_put) := goodIn_app (goodIn_of _ (by decide +kernel)) ggL_law_X7_put
set_option maxRecDepth 20000 in
theorem ggL_law_X7_spacing : GoodIn wsL_law wsX7_spacing := goodIn_r _ [373, 13, 87, 88, 2, 89, 216, 217, 218, 12, 219, 49, 374, 224, 38, 225, 200, 168, 169, 170, 171, 172, 173, 375, 376, 377, 378, 379, 380, 381, 382, 383, 384, 385, 386] (by decide +kernel) (by decide +kernel)
set_option maxRecDepth 20000 in
theorem gL_law_X7_spacing : GoodIn wsL_law (wsV RL 76 RX7 yX7_spacing wsX7_spacing) := goodIn_app (goodIn_of _ (by decide +kernel)) ggL_law_X7_spacing

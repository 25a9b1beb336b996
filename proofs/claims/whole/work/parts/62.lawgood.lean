/-! What the law's callees need stands among its words. -/
set_option maxRecDepth 20000 in
theorem ggL_law_X7_init : GoodIn wsL_law wsX7_init := goodIn_r _ [8, 9, 10, 11, 12, 13, 14, 15, 16, 17, 18, 19, 20, 21, 22, 23, 24, 25, 26, 27, 28, 29, 30, 31, 32, 33, 34, 35, 36, 37, 38, 39, 40, 41, 42, 43, 44, 45, 2, 46, 47, 48, 49, 50, 51, 52, 53, 54, 55, 56, 57, 58, 59, 60, 61, 62, 63, 64, 65, 66, 67, 68, 69, 70, 71, 72, 629, 630, 631, 593, 594, 595, 596, 597, 598, 599, 600, 601, 632, 633, 634, 635, 636, 637, 638, 639, 640, 641, 642, 643, 644] (by decide +kernel) (by decide +kernel)
set_option maxRecDepth 20000 in
theorem gL_law_X7_init : GoodIn wsL_law (wsX7_init) := ggL_law_X7_init
set_option maxRecDepth 20000 in
theorem ggL_law_X8_init : GoodIn wsL_law wsX8_init := goodIn_r _ [75, 76, 10, 11, 31, 77, 78, 79, 80, 81, 82, 83, 84, 85, 86, 87, 88, 89, 90, 91, 92, 93, 94, 95, 602, 603, 604, 605, 606, 607, 608, 609, 610, 611, 612, 613, 614, 615, 616, 617, 618, 619, 620, 621, 622, 623, 624, 625, 626, 627, 628] (by decide +kernel) (by decide +kernel)
set_option maxRecDepth 20000 in
theorem gL_law_X8_init : GoodIn wsL_law (wsX8_init) := ggL_law_X8_init
set_option maxRecDepth 20000 in
theorem ggL_law_X7_put : GoodIn wsL_law wsX7_put := goodIn_r _ [99, 15, 100, 45, 2, 46, 101, 102, 103, 14, 104, 51, 38, 39, 40, 41, 42, 43, 44, 105, 106, 107, 108, 109, 110, 111, 112, 113, 114, 115, 116, 117, 118, 119, 21, 120, 121, 122, 123, 32, 124, 125, 126, 20, 127, 128, 57, 58, 129, 130, 131, 132, 133, 134, 135, 136, 137, 48, 49, 50, 52, 53, 593, 594, 595, 596, 597, 598, 599, 600, 601, 629, 630, 631, 632, 633, 634, 635] (by decide +kernel) (by decide +kernel)
set_option maxRecDepth 20000 in
theorem gL_law_X7_put : GoodIn wsL_law (wsV RL 13 RX7 yX7_put wsX7_put) := goodIn_app (goodIn_of _ (by decide +kernel)) ggL_law_X7_put
set_option maxRecDepth 20000 in
theorem ggL_law_X8_put : GoodIn wsL_law wsX8_put := goodIn_r _ [141, 142, 77, 78, 143, 144, 5, 145, 146, 147, 148, 149, 150, 151, 152, 153, 154, 155, 156, 157, 158, 80, 81, 82, 602, 603, 604, 605, 606, 607, 608, 609, 610, 611, 612, 613, 614, 615, 616, 617, 618, 619, 620, 621, 622, 623, 624, 625, 626, 627, 628] (by decide +kernel) (by decide +kernel)
set_option maxRecDepth 20000 in
theorem gL_law_X8_put : GoodIn wsL_law (wsV RL 17 RX8 yX8_put wsX8_put) := goodIn_app (goodIn_of _ (by decide +kernel)) ggL_law_X8_put
set_option maxRecDepth 20000 in
theorem ggL_law_X7_lift : GoodIn wsL_law wsX7_lift := goodIn_r _ [162, 15, 101, 102, 103, 14, 104, 51, 38, 39, 40, 41, 42, 43, 44, 45, 2, 46, 116, 117, 118, 119, 21, 120, 121, 122, 123, 32, 124, 125, 126, 20, 127, 128, 57, 58, 129, 130, 131, 132, 133, 134, 135, 136, 137, 48, 49, 50, 52, 53, 105, 106, 107, 108, 109, 110, 111, 112, 113, 114, 115, 593, 594, 595, 596, 597, 598, 599, 600, 601, 629, 630, 631, 632, 633, 634, 635] (by decide +kernel) (by decide +kernel)
set_option maxRecDepth 20000 in
theorem gL_law_X7_lift : GoodIn wsL_law (wsV RL 18 RX7 yX7_lift wsX7_lift) := goodIn_app (goodIn_of _ (by decide +kernel)) ggL_law_X7_lift
set_option maxRecDepth 20000 in
theorem ggL_law_X8_lift : GoodIn wsL_law wsX8_lift := goodIn_r _ [166, 77, 78, 146, 147, 148, 5, 149, 142, 143, 144, 145, 154, 155, 156, 157, 158, 80, 81, 82, 150, 151, 152, 153, 602, 603, 604, 605, 606, 607, 608, 609, 610, 611, 612, 613, 614, 615, 616, 617, 618, 619, 620, 621, 622, 623, 624, 625, 626, 627, 628] (by decide +kernel) (by decide +kernel)
set_option maxRecDepth 20000 in
theorem gL_law_X8_lift : GoodIn wsL_law (wsV RL 21 RX8 yX8_lift wsX8_lift) := goodIn_app (goodIn_of _ (by decide +kernel)) ggL_law_X8_lift
set_option maxRecDepth 20000 in
theorem ggL_law_X7_undo : GoodIn wsL_law wsX7_undo := goodIn_r _ [170, 21, 15, 171, 172, 173, 174, 20, 175, 129, 176, 177, 178, 179, 57, 128, 130, 131, 132, 133, 134, 135, 136, 180, 181, 182, 183, 58, 137, 48, 49, 14, 50, 32, 51, 52, 45, 2, 46, 53, 43, 40, 44, 184, 185, 186, 187, 593, 594, 595, 596, 597, 598, 599, 600, 601, 632, 633, 634, 635, 629, 630, 631] (by decide +kernel) (by decide +kernel)
set_option maxRecDepth 20000 in
theorem gL_law_X7_undo : GoodIn wsL_law (wsV RL 22 RX7 yX7_undo wsX7_undo) := goodIn_app (goodIn_of _ (by decide +kernel)) ggL_law_X7_undo
set_option maxRecDepth 20000 in
theorem ggL_law_X8_undo : GoodIn wsL_law wsX8_undo := goodIn_r _ [191, 158, 192, 81, 77, 80, 78, 82, 602, 603, 604, 605, 606, 607, 608, 609, 610, 611, 612, 613, 614, 615, 616, 617, 618, 619, 620, 621, 622, 623, 624, 625, 626, 627, 628] (by decide +kernel) (by decide +kernel)
set_option maxRecDepth 20000 in
theorem gL_law_X8_undo : GoodIn wsL_law (wsV RL 26 RX8 yX8_undo wsX8_undo) := goodIn_app (goodIn_of _ (by decide +kernel)) ggL_law_X8_undo
set_option maxRecDepth 20000 in
theorem ggL_law_X7_station : GoodIn wsL_law wsX7_station := goodIn_r _ [196, 15, 197, 198, 199, 14, 200, 51, 201, 202, 40, 203, 204, 39, 41, 42, 43, 44, 45, 2, 46, 593, 594, 595, 596, 597, 598, 599, 600, 601, 629, 630, 631] (by decide +kernel) (by decide +kernel)
set_option maxRecDepth 20000 in
theorem gL_law_X7_station : GoodIn wsL_law (wsV RL 27 RX7 yX7_station wsX7_station) := goodIn_app (goodIn_of _ (by decide +kernel)) ggL_law_X7_station
set_option maxRecDepth 20000 in
theorem ggL_law_X8_station : GoodIn wsL_law wsX8_station := goodIn_r _ [208, 77, 602, 603, 604, 605, 606, 607, 608, 609, 610, 611, 612, 613, 614, 615, 616, 617, 618, 619, 620, 621, 622, 623, 624, 625, 626, 627, 628] (by decide +kernel) (by decide +kernel)
set_option maxRecDepth 20000 in
theorem gL_law_X8_station : GoodIn wsL_law (wsV RL 30 RX8 yX8_station wsX8_station) := goodIn_app (goodIn_of _ (by decide +kernel)) ggL_law_X8_station
set_option maxRecDepth 20000 in
theorem ggL_law_X7_spacing : GoodIn wsL_law wsX7_spacing := goodIn_r _ [212, 15, 213, 214, 2, 215, 197, 198, 199, 14, 200, 51, 216, 217, 40, 218, 219, 110, 111, 112, 113, 114, 115, 593, 594, 595, 596, 597, 598, 599, 600, 601, 629, 630, 631] (by decide +kernel) (by decide +kernel)
set_option maxRecDepth 20000 in
theorem gL_law_X7_spacing : GoodIn wsL_law (wsV RL 31 RX7 yX7_spacing wsX7_spacing) := goodIn_app (goodIn_of _ (by decide +kernel)) ggL_law_X7_spacing
set_option maxRecDepth 20000 in
theorem ggL_law_X8_spacing : GoodIn wsL_law wsX8_spacing := goodIn_r _ [223, 142, 143, 144, 5, 145, 224, 225, 226, 227, 77, 602, 603, 604, 605, 606, 607, 608, 609, 610, 611, 612, 613, 614, 615, 616, 617, 618, 619, 620, 621, 622, 623, 624, 625, 626, 627, 628] (by decide +kernel) (by decide +kernel)
set_option maxRecDepth 20000 in
theorem gL_law_X8_spacing : GoodIn wsL_law (wsV RL 34 RX8 yX8_spacing wsX8_spacing) := goodIn_app (goodIn_of _ (by decide +kernel)) ggL_law_X8_spacing
set_option maxRecDepth 20000 in
theorem ggL_law_X7_facts : GoodIn wsL_law wsX7_facts := goodIn_r _ [231, 15, 197, 198, 199, 14, 200, 51, 105, 106, 107, 108, 109, 110, 111, 112, 113, 114, 115, 232, 233, 40, 234, 219, 235, 202, 203, 204, 39, 41, 42, 43, 44, 45, 2, 46, 236, 237, 238, 239, 217, 218, 214, 215, 240, 241, 242, 243, 244, 245, 246, 247, 248, 249, 250, 251, 252, 253, 593, 594, 595, 596, 597, 598, 599, 600, 601, 629, 630, 631] (by decide +kernel) (by decide +kernel)
set_option maxRecDepth 20000 in
theorem gL_law_X7_facts : GoodIn wsL_law (wsV RL 35 RX7 yX7_facts wsX7_facts) := goodIn_app (goodIn_of _ (by decide +kernel)) ggL_law_X7_facts
set_option maxRecDepth 20000 in
theorem ggL_law_X8_facts : GoodIn wsL_law wsX8_facts := goodIn_r _ [257, 150, 151, 152, 5, 153, 77, 258, 259, 260, 261, 224, 225, 226, 227, 262, 263, 264, 265, 266, 267, 268, 269, 270, 271, 272, 273, 274, 275, 276, 277, 278, 279, 280, 281, 602, 603, 604, 605, 606, 607, 608, 609, 610, 611, 612, 613, 614, 615, 616, 617, 618, 619, 620, 621, 622, 623, 624, 625, 626, 627, 628] (by decide +kernel) (by decide +kernel)
set_option maxRecDepth 20000 in
theorem gL_law_X8_facts : GoodIn wsL_law (wsV RL 38 RX8 yX8_facts wsX8_facts) := goodIn_app (goodIn_of _ (by decide +kernel)) ggL_law_X8_facts
set_option maxRecDepth 20000 in
theorem ggL_law_X7_ruler : GoodIn wsL_law wsX7_ruler := goodIn_r _ [285, 25, 286, 287, 2, 288, 289, 290, 291, 292, 293, 294, 24, 295, 65, 296, 297, 298, 299, 300, 301, 302, 303, 63, 304, 305, 306, 307, 308, 309, 310, 311, 312, 313, 43, 40, 44, 45, 46, 314, 315, 316, 67, 317, 318, 319, 320, 321, 322, 323, 324, 325, 326, 327, 328, 329, 330, 331, 110, 111, 112, 113, 114, 115, 332, 333, 334, 335, 336, 337, 338, 339, 202, 203, 204, 39, 41, 42, 593, 594, 595, 596, 597, 598, 599, 600, 601, 636, 637, 638, 639, 640, 641, 642, 643, 644] (by decide +kernel) (by decide +kernel)
set_option maxRecDepth 20000 in
theorem gL_law_X7_ruler : GoodIn wsL_law (wsV RL 39 RX7 yX7_ruler wsX7_ruler) := goodIn_app (goodIn_of _ (by decide +kernel)) ggL_law_X7_ruler
set_option maxRecDepth 20000 in
theorem ggL_law_X8_ruler : GoodIn wsL_law wsX8_ruler := goodIn_r _ [343, 344, 345, 86, 83, 84, 85, 143, 144, 5, 145, 346, 347, 348, 349, 350, 351, 352, 353, 354, 355, 356, 357, 358, 359, 360, 361, 362, 91, 92, 363, 364, 365, 366, 367, 368, 369, 370, 602, 603, 604, 605, 606, 607, 608, 609, 610, 611, 612, 613, 614, 615, 616, 617, 618, 619, 620, 621, 622, 623, 624, 625, 626, 627, 628] (by decide +kernel) (by decide +kernel)
set_option maxRecDepth 20000 in
theorem gL_law_X8_ruler : GoodIn wsL_law (wsV RL 43 RX8 yX8_ruler wsX8_ruler) := goodIn_app (goodIn_of _ (by decide +kernel)) ggL_law_X8_ruler
set_option maxRecDepth 20000 in
theorem ggL_law_X7_cover : GoodIn wsL_law wsX7_cover := goodIn_r _ [374, 26, 286, 287, 2, 288, 289, 290, 291, 292, 293, 294, 24, 295, 65, 296, 297, 298, 299, 300, 301, 302, 303, 63, 304, 305, 306, 307, 308, 309, 310, 311, 312, 313, 43, 40, 44, 45, 46, 314, 315, 316, 67, 317, 318, 319, 320, 321, 322, 323, 324, 325, 326, 327, 328, 329, 330, 331, 110, 111, 112, 113, 114, 115, 332, 333, 334, 335, 336, 337, 338, 339, 202, 203, 204, 39, 41, 42, 593, 594, 595, 596, 597, 598, 599, 600, 601, 636, 637, 638, 639, 640, 641, 642, 643, 644] (by decide +kernel) (by decide +kernel)
set_option maxRecDepth 20000 in
theorem gL_law_X7_cover : GoodIn wsL_law (wsV RL 44 RX7 yX7_cover wsX7_cover) := goodIn_app (goodIn_of _ (by decide +kernel)) ggL_law_X7_cover
set_option maxRecDepth 20000 in
theorem ggL_law_X8_cover : GoodIn wsL_law wsX8_cover := goodIn_r _ [378, 379, 87, 90, 88, 89, 143, 144, 5, 145, 346, 347, 348, 344, 380, 381, 382, 383, 384, 354, 355, 356, 357, 358, 385, 386, 387, 388, 91, 92, 389, 390, 391, 392, 393, 394, 395, 396, 602, 603, 604, 605, 606, 607, 608, 609, 610, 611, 612, 613, 614, 615, 616, 617, 618, 619, 620, 621, 622, 623, 624, 625, 626, 627, 628] (by decide +kernel) (by decide +kernel)
set_option maxRecDepth 20000 in
theorem gL_law_X8_cover : GoodIn wsL_law (wsV RL 47 RX8 yX8_cover wsX8_cover) := goodIn_app (goodIn_of _ (by decide +kernel)) ggL_law_X8_cover
set_option maxRecDepth 20000 in
theorem ggL_law_X7_stand : GoodIn wsL_law wsX7_stand := goodIn_r _ [400, 25, 26, 15, 21, 286, 287, 2, 288, 100, 45, 46, 292, 293, 294, 24, 295, 65, 296, 297, 298, 299, 300, 301, 302, 303, 63, 304, 305, 306, 307, 308, 309, 310, 311, 312, 313, 43, 40, 44, 314, 315, 316, 67, 317, 318, 319, 320, 321, 322, 323, 324, 325, 326, 327, 328, 329, 330, 331, 110, 111, 112, 113, 114, 115, 332, 401, 402, 403, 404, 232, 233, 234, 219, 235, 202, 203, 204, 39, 41, 42, 405, 35, 36, 14, 37, 38, 47, 48, 49, 50, 32, 51, 52, 53, 406, 407, 408, 20, 409, 129, 105, 106, 107, 108, 109, 593, 594, 595, 596, 597, 598, 599, 600, 601, 636, 637, 638, 639, 640, 641, 642, 643, 644, 629, 630, 631, 632, 633, 634, 635] (by decide +kernel) (by decide +kernel)
set_option maxRecDepth 20000 in
theorem gL_law_X7_stand : GoodIn wsL_law (wsV RL 48 RX7 yX7_stand wsX7_stand) := goodIn_app (goodIn_of _ (by decide +kernel)) ggL_law_X7_stand
set_option maxRecDepth 20000 in
theorem ggL_law_X8_stand : GoodIn wsL_law wsX8_stand := goodIn_r _ [413, 344, 345, 379, 142, 87, 83, 77, 78, 86, 90, 158, 143, 144, 5, 145, 349, 350, 351, 352, 353, 354, 84, 355, 85, 356, 357, 358, 359, 360, 361, 362, 91, 92, 363, 364, 365, 366, 367, 368, 369, 370, 380, 381, 382, 383, 384, 88, 89, 385, 386, 387, 388, 389, 390, 391, 392, 393, 394, 395, 396, 602, 603, 604, 605, 606, 607, 608, 609, 610, 611, 612, 613, 614, 615, 616, 617, 618, 619, 620, 621, 622, 623, 624, 625, 626, 627, 628] (by decide +kernel) (by decide +kernel)
set_option maxRecDepth 20000 in
theorem gL_law_X8_stand : GoodIn wsL_law (wsV RL 52 RX8 yX8_stand wsX8_stand) := goodIn_app (goodIn_of _ (by decide +kernel)) ggL_law_X8_stand

/-! the law: what it calls (4) -/
set_option maxRecDepth 20000 in
theorem ggL_law_X7_got : GoodIn wsL_law wsX7_got := goodIn_r _ [467, 44, 42, 255, 256, 2, 257, 258, 259, 260, 261, 23, 24, 468, 469, 470, 41, 471, 118, 116, 109, 113, 111, 472, 162, 163, 22, 164, 71, 473, 474, 475, 476, 114, 477, 290, 291, 292, 72, 73, 70, 293, 294, 295, 296, 297, 298, 299, 300, 67, 301, 209, 210, 18, 211, 62, 212, 213, 214, 215, 61, 216, 217, 218, 219, 60, 220, 221, 222, 14, 223, 51, 224, 225, 226, 227, 228, 229, 230, 231, 302, 478, 479, 341, 342, 29, 343, 344, 345, 346, 347, 78, 79, 81, 82, 83, 84, 348, 349, 350, 351, 85, 80, 352, 353, 354, 355, 356, 357, 358, 359, 360, 361, 362, 363, 50, 364, 365, 366, 367, 480, 481, 482, 483, 484, 485, 486, 487, 488, 369, 370, 371, 372, 373, 374, 375, 489, 490, 491, 492, 493, 110, 494, 495, 496, 497, 498, 499, 500, 501, 112, 502, 503, 504, 505, 506, 507, 508, 509, 510, 511, 512, 263, 264, 265, 513, 514, 515, 516, 517, 518, 519, 601, 602, 603, 604, 605, 606, 607, 608, 609, 610, 611, 612, 671, 672, 673, 674, 675, 676, 677, 678, 647, 648, 649, 650, 651, 652, 653, 654, 655, 656, 657, 658, 659, 660, 661, 642, 643, 644, 645, 646] rfl (by decide +kernel)
set_option maxRecDepth 20000 in
theorem gL_law_X7_got : GoodIn wsL_law (wsV RL 67 RX7 yX7_got wsX7_got) := goodIn_app (goodIn_of _ (by decide +kernel)) ggL_law_X7_got
set_option maxRecDepth 20000 in
theorem ggL_law_X8_got : GoodIn wsL_law wsX8_got := goodIn_r _ [523, 524, 147, 143, 144, 145, 270, 271, 5, 272, 169, 170, 171, 525, 526, 527, 528, 307, 142, 125, 135, 380, 146, 247, 248, 249, 250, 308, 309, 310, 311, 129, 130, 128, 131, 132, 133, 243, 244, 245, 246, 126, 127, 385, 386, 387, 388, 136, 137, 138, 389, 390, 391, 392, 529, 530, 531, 532, 393, 394, 395, 396, 533, 534, 535, 536, 148, 537, 538, 539, 540, 613, 614, 615, 616, 617, 618, 619, 620, 621, 622, 623, 624, 625, 626, 627, 628, 629, 630, 631, 632, 633, 634, 635, 636, 637, 638, 639, 640, 641] rfl (by decide +kernel)
set_option maxRecDepth 20000 in
theorem gL_law_X8_got : GoodIn wsL_law (wsV RL 70 RX8 yX8_got wsX8_got) := goodIn_app (goodIn_of _ (by decide +kernel)) ggL_law_X8_got
set_option maxRecDepth 20000 in
theorem ggL_law_X7_right : GoodIn wsL_law wsX7_right := goodIn_r _ [544, 44, 42, 255, 256, 2, 257, 285, 286, 287, 288, 15, 198, 199, 200, 14, 201, 51, 258, 259, 260, 261, 23, 24, 468, 469, 470, 41, 471, 118, 116, 109, 113, 111, 472, 162, 163, 22, 164, 71, 473, 474, 475, 476, 114, 477, 290, 291, 292, 72, 73, 70, 293, 294, 295, 296, 297, 298, 299, 300, 67, 301, 209, 210, 18, 211, 62, 212, 213, 214, 215, 61, 216, 217, 218, 219, 60, 220, 221, 222, 223, 224, 225, 226, 227, 228, 229, 230, 231, 302, 478, 479, 341, 342, 29, 343, 344, 345, 346, 347, 78, 79, 81, 82, 83, 84, 348, 349, 350, 351, 85, 80, 352, 353, 354, 355, 356, 357, 358, 359, 360, 361, 362, 363, 50, 364, 365, 366, 367, 480, 481, 482, 483, 484, 485, 486, 487, 488, 369, 370, 371, 372, 373, 374, 375, 489, 490, 491, 492, 493, 110, 494, 495, 496, 497, 498, 499, 500, 501, 112, 502, 503, 504, 505, 506, 507, 508, 509, 510, 511, 512, 263, 264, 265, 513, 514, 515, 516, 517, 518, 289, 601, 602, 603, 604, 605, 606, 607, 608, 609, 610, 611, 612, 671, 672, 673, 674, 675, 676, 677, 678, 642, 643, 654, 655, 656, 657, 658, 659, 660, 661, 647, 648, 649, 650, 651, 652, 653, 644, 645, 646] rfl (by decide +kernel)
set_option maxRecDepth 20000 in
theorem gL_law_X7_right : GoodIn wsL_law (wsV RL 71 RX7 yX7_right wsX7_right) := goodIn_app (goodIn_of _ (by decide +kernel)) ggL_law_X7_right
set_option maxRecDepth 20000 in
theorem ggL_law_X8_right : GoodIn wsL_law wsX8_right := goodIn_r _ [548, 307, 524, 147, 143, 125, 144, 145, 270, 271, 5, 272, 169, 170, 171, 239, 240, 241, 242, 525, 526, 527, 528, 142, 135, 380, 146, 247, 248, 249, 250, 308, 309, 310, 311, 129, 130, 128, 131, 132, 133, 243, 244, 245, 246, 126, 127, 385, 386, 387, 388, 136, 137, 138, 389, 390, 391, 392, 529, 530, 531, 532, 393, 394, 395, 396, 533, 534, 535, 536, 148, 537, 538, 539, 540, 613, 614, 615, 616, 617, 618, 619, 620, 621, 622, 623, 624, 625, 626, 627, 628, 629, 630, 631, 632, 633, 634, 635, 636, 637, 638, 639, 640, 641] rfl (by decide +kernel)
set_option maxRecDepth 20000 in
theorem gL_law_X8_right : GoodIn wsL_law (wsV RL 74 RX8 yX8_right wsX8_right) := goodIn_app (goodIn_of _ (by decide +kernel)) ggL_law_X8_right
set_option maxRecDepth 20000 in
theorem ggL_law_X7_zeros : GoodIn wsL_law wsX7_zeros := goodIn_r _ [552, 15, 255, 256, 2, 257, 258, 259, 260, 261, 23, 24, 553, 554, 555, 22, 556, 72, 68, 73, 70, 301, 209, 210, 18, 211, 62, 212, 213, 214, 215, 61, 216, 217, 218, 219, 60, 220, 221, 222, 14, 223, 51, 224, 225, 226, 227, 228, 229, 230, 231, 557, 558, 559, 560, 69, 71, 293, 294, 295, 296, 297, 298, 299, 300, 67, 302, 561, 562, 563, 564, 203, 204, 565, 566, 567, 568, 601, 602, 603, 604, 605, 606, 607, 608, 609, 610, 611, 612, 642, 643, 647, 648, 649, 650, 651, 652, 653, 644, 645, 646] rfl (by decide +kernel)
set_option maxRecDepth 20000 in
theorem gL_law_X7_zeros : GoodIn wsL_law (wsV RL 75 RX7 yX7_zeros wsX7_zeros) := goodIn_app (goodIn_of _ (by decide +kernel)) ggL_law_X7_zeros
set_option maxRecDepth 20000 in
theorem ggL_law_X8_zeros : GoodIn wsL_law wsX8_zeros := goodIn_r _ [572, 125, 270, 271, 5, 272, 169, 170, 171, 308, 309, 310, 311, 129, 130, 128, 131, 132, 133, 243, 244, 245, 246, 126, 127, 247, 248, 249, 250, 613, 614, 615, 616, 617, 618, 619, 620, 621, 622, 623, 624, 625, 626, 627, 628, 629, 630, 631, 632, 633, 634, 635, 636, 637, 638, 639, 640, 641] rfl (by decide +kernel)
set_option maxRecDepth 20000 in
theorem gL_law_X8_zeros : GoodIn wsL_law (wsV RL 78 RX8 yX8_zeros wsX8_zeros) := goodIn_app (goodIn_of _ (by decide +kernel)) ggL_law_X8_zeros
set_option maxRecDepth 20000 in
theorem ggL_law_X7_meet : GoodIn wsL_law wsX7_meet := goodIn_r _ [576, 15, 23, 24, 553, 554, 555, 22, 556, 72, 68, 73, 70, 301, 209, 210, 18, 211, 62, 212, 213, 214, 215, 61, 216, 217, 218, 219, 60, 220, 221, 222, 14, 223, 51, 224, 225, 226, 227, 228, 229, 230, 231, 557, 558, 559, 560, 69, 71, 293, 294, 295, 296, 297, 298, 299, 300, 67, 302, 561, 562, 563, 564, 203, 2, 204, 577, 578, 579, 580, 601, 602, 603, 604, 605, 606, 607, 608, 609, 610, 611, 612, 642, 643, 647, 648, 649, 650, 651, 652, 653, 644, 645, 646] rfl (by decide +kernel)
set_option maxRecDepth 20000 in
theorem gL_law_X7_meet : GoodIn wsL_law (wsV RL 79 RX7 yX7_meet wsX7_meet) := goodIn_app (goodIn_of _ (by decide +kernel)) ggL_law_X7_meet
set_option maxRecDepth 20000 in
theorem ggL_law_X8_meet : GoodIn wsL_law wsX8_meet := goodIn_r _ [584, 125, 308, 309, 310, 5, 311, 129, 130, 128, 131, 132, 133, 243, 244, 245, 246, 126, 127, 247, 248, 249, 250, 613, 614, 615, 616, 617, 618, 619, 620, 621, 622, 623, 624, 625, 626, 627, 628, 629, 630, 631, 632, 633, 634, 635, 636, 637, 638, 639, 640, 641] rfl (by decide +kernel)
set_option maxRecDepth 20000 in
theorem gL_law_X8_meet : GoodIn wsL_law (wsV RL 82 RX8 yX8_meet wsX8_meet) := goodIn_app (goodIn_of _ (by decide +kernel)) ggL_law_X8_meet
set_option maxRecDepth 20000 in
theorem ggL_law_X7_count : GoodIn wsL_law wsX7_count := goodIn_r _ [588, 15, 23, 24, 43, 44, 601, 602, 603, 604, 605, 606, 607, 608, 609, 610, 611, 612, 642, 643, 647, 648, 649, 650, 651, 652, 653] rfl (by decide +kernel)
set_option maxRecDepth 20000 in
theorem gL_law_X7_count : GoodIn wsL_law (wsV RL 83 RX7 yX7_count wsX7_count) := goodIn_app (goodIn_of _ (by decide +kernel)) ggL_law_X7_count
set_option maxRecDepth 20000 in
theorem ggL_law_X8_count : GoodIn wsL_law wsX8_count := goodIn_r _ [592, 125, 129, 149, 307, 613, 614, 615, 616, 617, 618, 619, 620, 621, 622, 623, 624, 625, 626, 627, 628, 629, 630, 631, 632, 633, 634, 635, 636, 637, 638, 639, 640, 641] rfl (by decide +kernel)
set_option maxRecDepth 20000 in
theorem gL_law_X8_count : GoodIn wsL_law (wsV RL 86 RX8 yX8_count wsX8_count) := goodIn_app (goodIn_of _ (by decide +kernel)) ggL_law_X8_count
set_option maxRecDepth 20000 in
theorem ggL_law_X7_trace : GoodIn wsL_law wsX7_trace := goodIn_r _ [596, 45, 601, 602, 603, 604, 605, 606, 607, 608, 609, 610, 611, 612] rfl (by decide +kernel)
set_option maxRecDepth 20000 in
theorem gL_law_X7_trace : GoodIn wsL_law (wsV RL 87 RX7 yX7_trace wsX7_trace) := goodIn_app (goodIn_of _ (by decide +kernel)) ggL_law_X7_trace
set_option maxRecDepth 20000 in
theorem ggL_law_X8_trace : GoodIn wsL_law wsX8_trace := goodIn_r _ [600, 236, 613, 614, 615, 616, 617, 618, 619, 620, 621, 622, 623, 624, 625, 626, 627, 628, 629, 630, 631, 632, 633, 634, 635, 636, 637, 638, 639, 640, 641] rfl (by decide +kernel)
set_option maxRecDepth 20000 in
theorem gL_law_X8_trace : GoodIn wsL_law (wsV RL 91 RX8 yX8_trace wsX8_trace) := goodIn_app (goodIn_of _ (by decide +kernel)) ggL_law_X8_trace

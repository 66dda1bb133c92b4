/-! the law: what it calls (4) -/
set_option maxRecDepth 20000 in
theorem ggL_law_X7_got : GoodIn wsL_law wsX7_got := goodIn_r _ [459, 44, 42, 247, 248, 2, 249, 250, 251, 252, 253, 23, 24, 460, 461, 462, 41, 463, 118, 116, 109, 113, 111, 464, 162, 163, 22, 164, 71, 465, 466, 467, 468, 114, 469, 282, 283, 284, 72, 73, 70, 285, 286, 287, 288, 289, 290, 291, 292, 67, 293, 209, 210, 18, 211, 62, 60, 61, 212, 213, 214, 14, 215, 51, 216, 217, 218, 219, 220, 221, 222, 223, 294, 470, 471, 333, 334, 29, 335, 336, 337, 338, 339, 78, 79, 81, 82, 83, 84, 340, 341, 342, 343, 85, 80, 344, 345, 346, 347, 348, 349, 350, 351, 352, 353, 354, 355, 50, 356, 357, 358, 359, 472, 473, 474, 475, 476, 477, 478, 479, 480, 361, 362, 363, 364, 365, 366, 367, 481, 482, 483, 484, 485, 110, 486, 487, 488, 489, 490, 491, 492, 493, 112, 494, 495, 496, 497, 498, 499, 500, 501, 502, 503, 504, 255, 256, 257, 505, 506, 507, 508, 509, 510, 511, 593, 594, 595, 596, 597, 598, 599, 600, 601, 602, 603, 604, 663, 664, 665, 666, 667, 668, 669, 670, 639, 640, 641, 642, 643, 644, 645, 646, 647, 648, 649, 650, 651, 652, 653, 634, 635, 636, 637, 638] rfl (by decide +kernel)
set_option maxRecDepth 20000 in
theorem gL_law_X7_got : GoodIn wsL_law (wsV RL 67 RX7 yX7_got wsX7_got) := goodIn_app (goodIn_of _ (by decide +kernel)) ggL_law_X7_got
set_option maxRecDepth 20000 in
theorem ggL_law_X8_got : GoodIn wsL_law wsX8_got := goodIn_r _ [515, 516, 147, 143, 144, 145, 262, 263, 5, 264, 169, 170, 171, 517, 518, 519, 520, 299, 142, 125, 135, 372, 146, 239, 240, 241, 242, 300, 301, 302, 303, 129, 130, 128, 131, 132, 133, 235, 236, 237, 238, 126, 127, 377, 378, 379, 380, 136, 137, 138, 381, 382, 383, 384, 521, 522, 523, 524, 385, 386, 387, 388, 525, 526, 527, 528, 148, 529, 530, 531, 532, 605, 606, 607, 608, 609, 610, 611, 612, 613, 614, 615, 616, 617, 618, 619, 620, 621, 622, 623, 624, 625, 626, 627, 628, 629, 630, 631, 632, 633] rfl (by decide +kernel)
set_option maxRecDepth 20000 in
theorem gL_law_X8_got : GoodIn wsL_law (wsV RL 70 RX8 yX8_got wsX8_got) := goodIn_app (goodIn_of _ (by decide +kernel)) ggL_law_X8_got
set_option maxRecDepth 20000 in
theorem ggL_law_X7_right : GoodIn wsL_law wsX7_right := goodIn_r _ [536, 44, 42, 247, 248, 2, 249, 277, 278, 279, 280, 15, 198, 199, 200, 14, 201, 51, 250, 251, 252, 253, 23, 24, 460, 461, 462, 41, 463, 118, 116, 109, 113, 111, 464, 162, 163, 22, 164, 71, 465, 466, 467, 468, 114, 469, 282, 283, 284, 72, 73, 70, 285, 286, 287, 288, 289, 290, 291, 292, 67, 293, 209, 210, 18, 211, 62, 60, 61, 212, 213, 214, 215, 216, 217, 218, 219, 220, 221, 222, 223, 294, 470, 471, 333, 334, 29, 335, 336, 337, 338, 339, 78, 79, 81, 82, 83, 84, 340, 341, 342, 343, 85, 80, 344, 345, 346, 347, 348, 349, 350, 351, 352, 353, 354, 355, 50, 356, 357, 358, 359, 472, 473, 474, 475, 476, 477, 478, 479, 480, 361, 362, 363, 364, 365, 366, 367, 481, 482, 483, 484, 485, 110, 486, 487, 488, 489, 490, 491, 492, 493, 112, 494, 495, 496, 497, 498, 499, 500, 501, 502, 503, 504, 255, 256, 257, 505, 506, 507, 508, 509, 510, 281, 593, 594, 595, 596, 597, 598, 599, 600, 601, 602, 603, 604, 663, 664, 665, 666, 667, 668, 669, 670, 634, 635, 646, 647, 648, 649, 650, 651, 652, 653, 639, 640, 641, 642, 643, 644, 645, 636, 637, 638] rfl (by decide +kernel)
set_option maxRecDepth 20000 in
theorem gL_law_X7_right : GoodIn wsL_law (wsV RL 71 RX7 yX7_right wsX7_right) := goodIn_app (goodIn_of _ (by decide +kernel)) ggL_law_X7_right
set_option maxRecDepth 20000 in
theorem ggL_law_X8_right : GoodIn wsL_law wsX8_right := goodIn_r _ [540, 299, 516, 147, 143, 125, 144, 145, 262, 263, 5, 264, 169, 170, 171, 231, 232, 233, 234, 517, 518, 519, 520, 142, 135, 372, 146, 239, 240, 241, 242, 300, 301, 302, 303, 129, 130, 128, 131, 132, 133, 235, 236, 237, 238, 126, 127, 377, 378, 379, 380, 136, 137, 138, 381, 382, 383, 384, 521, 522, 523, 524, 385, 386, 387, 388, 525, 526, 527, 528, 148, 529, 530, 531, 532, 605, 606, 607, 608, 609, 610, 611, 612, 613, 614, 615, 616, 617, 618, 619, 620, 621, 622, 623, 624, 625, 626, 627, 628, 629, 630, 631, 632, 633] rfl (by decide +kernel)
set_option maxRecDepth 20000 in
theorem gL_law_X8_right : GoodIn wsL_law (wsV RL 74 RX8 yX8_right wsX8_right) := goodIn_app (goodIn_of _ (by decide +kernel)) ggL_law_X8_right
set_option maxRecDepth 20000 in
theorem ggL_law_X7_zeros : GoodIn wsL_law wsX7_zeros := goodIn_r _ [544, 15, 247, 248, 2, 249, 250, 251, 252, 253, 23, 24, 545, 546, 547, 22, 548, 72, 68, 73, 70, 293, 209, 210, 18, 211, 62, 60, 61, 212, 213, 214, 14, 215, 51, 216, 217, 218, 219, 220, 221, 222, 223, 549, 550, 551, 552, 69, 71, 285, 286, 287, 288, 289, 290, 291, 292, 67, 294, 553, 554, 555, 556, 203, 204, 557, 558, 559, 560, 593, 594, 595, 596, 597, 598, 599, 600, 601, 602, 603, 604, 634, 635, 639, 640, 641, 642, 643, 644, 645, 636, 637, 638] rfl (by decide +kernel)
set_option maxRecDepth 20000 in
theorem gL_law_X7_zeros : GoodIn wsL_law (wsV RL 75 RX7 yX7_zeros wsX7_zeros) := goodIn_app (goodIn_of _ (by decide +kernel)) ggL_law_X7_zeros
set_option maxRecDepth 20000 in
theorem ggL_law_X8_zeros : GoodIn wsL_law wsX8_zeros := goodIn_r _ [564, 125, 262, 263, 5, 264, 169, 170, 171, 300, 301, 302, 303, 129, 130, 128, 131, 132, 133, 235, 236, 237, 238, 126, 127, 239, 240, 241, 242, 605, 606, 607, 608, 609, 610, 611, 612, 613, 614, 615, 616, 617, 618, 619, 620, 621, 622, 623, 624, 625, 626, 627, 628, 629, 630, 631, 632, 633] rfl (by decide +kernel)
set_option maxRecDepth 20000 in
theorem gL_law_X8_zeros : GoodIn wsL_law (wsV RL 78 RX8 yX8_zeros wsX8_zeros) := goodIn_app (goodIn_of _ (by decide +kernel)) ggL_law_X8_zeros
set_option maxRecDepth 20000 in
theorem ggL_law_X7_meet : GoodIn wsL_law wsX7_meet := goodIn_r _ [568, 15, 23, 24, 545, 546, 547, 22, 548, 72, 68, 73, 70, 293, 209, 210, 18, 211, 62, 60, 61, 212, 213, 214, 14, 215, 51, 216, 217, 218, 219, 220, 221, 222, 223, 549, 550, 551, 552, 69, 71, 285, 286, 287, 288, 289, 290, 291, 292, 67, 294, 553, 554, 555, 556, 203, 2, 204, 569, 570, 571, 572, 593, 594, 595, 596, 597, 598, 599, 600, 601, 602, 603, 604, 634, 635, 639, 640, 641, 642, 643, 644, 645, 636, 637, 638] rfl (by decide +kernel)
set_option maxRecDepth 20000 in
theorem gL_law_X7_meet : GoodIn wsL_law (wsV RL 79 RX7 yX7_meet wsX7_meet) := goodIn_app (goodIn_of _ (by decide +kernel)) ggL_law_X7_meet
set_option maxRecDepth 20000 in
theorem ggL_law_X8_meet : GoodIn wsL_law wsX8_meet := goodIn_r _ [576, 125, 300, 301, 302, 5, 303, 129, 130, 128, 131, 132, 133, 235, 236, 237, 238, 126, 127, 239, 240, 241, 242, 605, 606, 607, 608, 609, 610, 611, 612, 613, 614, 615, 616, 617, 618, 619, 620, 621, 622, 623, 624, 625, 626, 627, 628, 629, 630, 631, 632, 633] rfl (by decide +kernel)
set_option maxRecDepth 20000 in
theorem gL_law_X8_meet : GoodIn wsL_law (wsV RL 82 RX8 yX8_meet wsX8_meet) := goodIn_app (goodIn_of _ (by decide +kernel)) ggL_law_X8_meet
set_option maxRecDepth 20000 in
theorem ggL_law_X7_count : GoodIn wsL_law wsX7_count := goodIn_r _ [580, 15, 23, 24, 43, 44, 593, 594, 595, 596, 597, 598, 599, 600, 601, 602, 603, 604, 634, 635, 639, 640, 641, 642, 643, 644, 645] rfl (by decide +kernel)
set_option maxRecDepth 20000 in
theorem gL_law_X7_count : GoodIn wsL_law (wsV RL 83 RX7 yX7_count wsX7_count) := goodIn_app (goodIn_of _ (by decide +kernel)) ggL_law_X7_count
set_option maxRecDepth 20000 in
theorem ggL_law_X8_count : GoodIn wsL_law wsX8_count := goodIn_r _ [584, 125, 129, 149, 299, 605, 606, 607, 608, 609, 610, 611, 612, 613, 614, 615, 616, 617, 618, 619, 620, 621, 622, 623, 624, 625, 626, 627, 628, 629, 630, 631, 632, 633] rfl (by decide +kernel)
set_option maxRecDepth 20000 in
theorem gL_law_X8_count : GoodIn wsL_law (wsV RL 86 RX8 yX8_count wsX8_count) := goodIn_app (goodIn_of _ (by decide +kernel)) ggL_law_X8_count
set_option maxRecDepth 20000 in
theorem ggL_law_X7_trace : GoodIn wsL_law wsX7_trace := goodIn_r _ [588, 45, 593, 594, 595, 596, 597, 598, 599, 600, 601, 602, 603, 604] rfl (by decide +kernel)
set_option maxRecDepth 20000 in
theorem gL_law_X7_trace : GoodIn wsL_law (wsV RL 87 RX7 yX7_trace wsX7_trace) := goodIn_app (goodIn_of _ (by decide +kernel)) ggL_law_X7_trace
set_option maxRecDepth 20000 in
theorem ggL_law_X8_trace : GoodIn wsL_law wsX8_trace := goodIn_r _ [592, 228, 605, 606, 607, 608, 609, 610, 611, 612, 613, 614, 615, 616, 617, 618, 619, 620, 621, 622, 623, 624, 625, 626, 627, 628, 629, 630, 631, 632, 633] rfl (by decide +kernel)
set_option maxRecDepth 20000 in
theorem gL_law_X8_trace : GoodIn wsL_law (wsV RL 91 RX8 yX8_trace wsX8_trace) := goodIn_app (goodIn_of _ (by decide +kernel)) ggL_law_X8_trace

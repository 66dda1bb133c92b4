/-! the law: what it calls (3) -/
set_option maxRecDepth 20000 in
theorem ggL_law_X7_say : GoodIn wsL_law wsX7_say := goodIn_r _ [307, 15, 43, 26, 198, 199, 200, 14, 201, 51, 593, 594, 595, 596, 597, 598, 599, 600, 601, 602, 603, 604, 634, 635] rfl (by decide +kernel)
set_option maxRecDepth 20000 in
theorem gL_law_X7_say : GoodIn wsL_law (wsV RL 42 RX7 yX7_say wsX7_say) := goodIn_app (goodIn_of _ (by decide +kernel)) ggL_law_X7_say
set_option maxRecDepth 20000 in
theorem ggL_law_X8_say : GoodIn wsL_law wsX8_say := goodIn_r _ [311, 149, 134, 231, 232, 233, 5, 234, 125, 169, 170, 171, 605, 606, 607, 608, 609, 610, 611, 612, 613, 614, 615, 616, 617, 618, 619, 620, 621, 622, 623, 624, 625, 626, 627, 628, 629, 630, 631, 632, 633] rfl (by decide +kernel)
set_option maxRecDepth 20000 in
theorem gL_law_X8_say : GoodIn wsL_law (wsV RL 45 RX8 yX8_say wsX8_say) := goodIn_app (goodIn_of _ (by decide +kernel)) ggL_law_X8_say
set_option maxRecDepth 20000 in
theorem ggL_law_X7_change : GoodIn wsL_law wsX7_change := goodIn_r _ [315, 43, 26, 15, 198, 199, 200, 14, 201, 51, 593, 594, 595, 596, 597, 598, 599, 600, 601, 602, 603, 604, 634, 635] rfl (by decide +kernel)
set_option maxRecDepth 20000 in
theorem gL_law_X7_change : GoodIn wsL_law (wsV RL 46 RX7 yX7_change wsX7_change) := goodIn_app (goodIn_of _ (by decide +kernel)) ggL_law_X7_change
set_option maxRecDepth 20000 in
theorem ggL_law_X8_change : GoodIn wsL_law wsX8_change := goodIn_r _ [319, 149, 134, 169, 170, 5, 171, 231, 232, 233, 234, 125, 605, 606, 607, 608, 609, 610, 611, 612, 613, 614, 615, 616, 617, 618, 619, 620, 621, 622, 623, 624, 625, 626, 627, 628, 629, 630, 631, 632, 633] rfl (by decide +kernel)
set_option maxRecDepth 20000 in
theorem gL_law_X8_change : GoodIn wsL_law (wsV RL 49 RX8 yX8_change wsX8_change) := goodIn_app (goodIn_of _ (by decide +kernel)) ggL_law_X8_change
set_option maxRecDepth 20000 in
theorem ggL_law_X7_clear : GoodIn wsL_law wsX7_clear := goodIn_r _ [323, 43, 593, 594, 595, 596, 597, 598, 599, 600, 601, 602, 603, 604] rfl (by decide +kernel)
set_option maxRecDepth 20000 in
theorem gL_law_X7_clear : GoodIn wsL_law (wsV RL 50 RX7 yX7_clear wsX7_clear) := goodIn_app (goodIn_of _ (by decide +kernel)) ggL_law_X7_clear
set_option maxRecDepth 20000 in
theorem ggL_law_X8_clear : GoodIn wsL_law wsX8_clear := goodIn_r _ [327, 149, 605, 606, 607, 608, 609, 610, 611, 612, 613, 614, 615, 616, 617, 618, 619, 620, 621, 622, 623, 624, 625, 626, 627, 628, 629, 630, 631, 632, 633] rfl (by decide +kernel)
set_option maxRecDepth 20000 in
theorem gL_law_X8_clear : GoodIn wsL_law (wsV RL 54 RX8 yX8_clear wsX8_clear) := goodIn_app (goodIn_of _ (by decide +kernel)) ggL_law_X8_clear
set_option maxRecDepth 20000 in
theorem ggL_law_X7_register : GoodIn wsL_law wsX7_register := goodIn_r _ [331, 30, 26, 43, 332, 333, 334, 29, 335, 336, 337, 338, 339, 78, 79, 81, 82, 83, 84, 340, 341, 342, 343, 85, 80, 344, 345, 346, 347, 348, 349, 350, 351, 352, 353, 354, 14, 355, 51, 50, 356, 357, 358, 359, 360, 361, 362, 363, 364, 365, 366, 367, 593, 594, 595, 596, 597, 598, 599, 600, 601, 602, 603, 604, 646, 647, 648, 649, 650, 651, 652, 653, 634, 635] rfl (by decide +kernel)
set_option maxRecDepth 20000 in
theorem gL_law_X7_register : GoodIn wsL_law (wsV RL 55 RX7 yX7_register wsX7_register) := goodIn_app (goodIn_of _ (by decide +kernel)) ggL_law_X7_register
set_option maxRecDepth 20000 in
theorem ggL_law_X8_register : GoodIn wsL_law wsX8_register := goodIn_r _ [371, 149, 372, 373, 374, 375, 5, 376, 135, 134, 377, 378, 379, 380, 136, 137, 125, 138, 381, 382, 383, 384, 169, 170, 171, 385, 386, 387, 388, 605, 606, 607, 608, 609, 610, 611, 612, 613, 614, 615, 616, 617, 618, 619, 620, 621, 622, 623, 624, 625, 626, 627, 628, 629, 630, 631, 632, 633] rfl (by decide +kernel)
set_option maxRecDepth 20000 in
theorem gL_law_X8_register : GoodIn wsL_law (wsV RL 58 RX8 yX8_register wsX8_register) := goodIn_app (goodIn_of _ (by decide +kernel)) ggL_law_X8_register
set_option maxRecDepth 20000 in
theorem ggL_law_X7_far : GoodIn wsL_law wsX7_far := goodIn_r _ [392, 393, 43, 26, 30, 34, 332, 333, 334, 29, 335, 336, 337, 338, 339, 78, 79, 81, 82, 83, 84, 340, 341, 342, 343, 85, 80, 344, 345, 346, 347, 348, 349, 350, 351, 352, 353, 354, 14, 355, 51, 50, 356, 357, 358, 359, 394, 395, 396, 33, 397, 93, 91, 94, 398, 399, 400, 401, 90, 402, 361, 362, 363, 364, 365, 366, 367, 403, 404, 405, 406, 407, 408, 409, 410, 92, 411, 412, 413, 414, 593, 594, 595, 596, 597, 598, 599, 600, 601, 602, 603, 604, 646, 647, 648, 649, 650, 651, 652, 653, 634, 635, 654, 655, 656, 657, 658] rfl (by decide +kernel)
set_option maxRecDepth 20000 in
theorem gL_law_X7_far : GoodIn wsL_law (wsV RL 59 RX7 yX7_far wsX7_far) := goodIn_app (goodIn_of _ (by decide +kernel)) ggL_law_X7_far
set_option maxRecDepth 20000 in
theorem ggL_law_X8_far : GoodIn wsL_law wsX8_far := goodIn_r _ [418, 419, 149, 134, 372, 139, 140, 125, 169, 170, 5, 171, 373, 374, 375, 376, 135, 377, 378, 379, 380, 136, 137, 138, 381, 382, 383, 384, 385, 386, 387, 388, 420, 421, 422, 423, 141, 605, 606, 607, 608, 609, 610, 611, 612, 613, 614, 615, 616, 617, 618, 619, 620, 621, 622, 623, 624, 625, 626, 627, 628, 629, 630, 631, 632, 633] rfl (by decide +kernel)
set_option maxRecDepth 20000 in
theorem gL_law_X8_far : GoodIn wsL_law (wsV RL 62 RX8 yX8_far wsX8_far) := goodIn_app (goodIn_of _ (by decide +kernel)) ggL_law_X8_far
set_option maxRecDepth 20000 in
theorem ggL_law_X7_lie : GoodIn wsL_law wsX7_lie := goodIn_r _ [427, 30, 26, 43, 428, 38, 332, 333, 334, 29, 335, 336, 337, 338, 339, 78, 79, 81, 82, 83, 84, 340, 341, 342, 343, 85, 80, 344, 345, 346, 347, 348, 349, 350, 351, 352, 353, 354, 14, 355, 51, 50, 356, 357, 358, 359, 429, 430, 431, 37, 432, 99, 433, 434, 435, 436, 102, 437, 438, 439, 440, 441, 100, 442, 443, 444, 445, 103, 446, 447, 448, 449, 450, 593, 594, 595, 596, 597, 598, 599, 600, 601, 602, 603, 604, 646, 647, 648, 649, 650, 651, 652, 653, 634, 635, 659, 660, 661, 662] rfl (by decide +kernel)
set_option maxRecDepth 20000 in
theorem gL_law_X7_lie : GoodIn wsL_law (wsV RL 63 RX7 yX7_lie wsX7_lie) := goodIn_app (goodIn_of _ (by decide +kernel)) ggL_law_X7_lie
set_option maxRecDepth 20000 in
theorem ggL_law_X8_lie : GoodIn wsL_law wsX8_lie := goodIn_r _ [454, 149, 372, 455, 125, 135, 134, 169, 170, 5, 171, 373, 374, 375, 376, 377, 378, 379, 380, 136, 137, 138, 381, 382, 383, 384, 605, 606, 607, 608, 609, 610, 611, 612, 613, 614, 615, 616, 617, 618, 619, 620, 621, 622, 623, 624, 625, 626, 627, 628, 629, 630, 631, 632, 633] rfl (by decide +kernel)
set_option maxRecDepth 20000 in
theorem gL_law_X8_lie : GoodIn wsL_law (wsV RL 66 RX8 yX8_lie wsX8_lie) := goodIn_app (goodIn_of _ (by decide +kernel)) ggL_law_X8_lie

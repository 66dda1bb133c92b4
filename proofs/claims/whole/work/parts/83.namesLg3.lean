/-! the law: what it calls (3) -/
set_option maxRecDepth 20000 in
theorem ggL_law_X7_say : GoodIn wsL_law wsX7_say := goodIn_r _ [315, 15, 43, 26, 198, 199, 200, 14, 201, 51, 601, 602, 603, 604, 605, 606, 607, 608, 609, 610, 611, 612, 642, 643] rfl (by decide +kernel)
set_option maxRecDepth 20000 in
theorem gL_law_X7_say : GoodIn wsL_law (wsV RL 42 RX7 yX7_say wsX7_say) := goodIn_app (goodIn_of _ (by decide +kernel)) ggL_law_X7_say
set_option maxRecDepth 20000 in
theorem ggL_law_X8_say : GoodIn wsL_law wsX8_say := goodIn_r _ [319, 149, 134, 239, 240, 241, 5, 242, 125, 169, 170, 171, 613, 614, 615, 616, 617, 618, 619, 620, 621, 622, 623, 624, 625, 626, 627, 628, 629, 630, 631, 632, 633, 634, 635, 636, 637, 638, 639, 640, 641] rfl (by decide +kernel)
set_option maxRecDepth 20000 in
theorem gL_law_X8_say : GoodIn wsL_law (wsV RL 45 RX8 yX8_say wsX8_say) := goodIn_app (goodIn_of _ (by decide +kernel)) ggL_law_X8_say
set_option maxRecDepth 20000 in
theorem ggL_law_X7_change : GoodIn wsL_law wsX7_change := goodIn_r _ [323, 43, 26, 15, 198, 199, 200, 14, 201, 51, 601, 602, 603, 604, 605, 606, 607, 608, 609, 610, 611, 612, 642, 643] rfl (by decide +kernel)
set_option maxRecDepth 20000 in
theorem gL_law_X7_change : GoodIn wsL_law (wsV RL 46 RX7 yX7_change wsX7_change) := goodIn_app (goodIn_of _ (by decide +kernel)) ggL_law_X7_change
set_option maxRecDepth 20000 in
theorem ggL_law_X8_change : GoodIn wsL_law wsX8_change := goodIn_r _ [327, 149, 134, 169, 170, 5, 171, 239, 240, 241, 242, 125, 613, 614, 615, 616, 617, 618, 619, 620, 621, 622, 623, 624, 625, 626, 627, 628, 629, 630, 631, 632, 633, 634, 635, 636, 637, 638, 639, 640, 641] rfl (by decide +kernel)
set_option maxRecDepth 20000 in
theorem gL_law_X8_change : GoodIn wsL_law (wsV RL 49 RX8 yX8_change wsX8_change) := goodIn_app (goodIn_of _ (by decide +kernel)) ggL_law_X8_change
set_option maxRecDepth 20000 in
theorem ggL_law_X7_clear : GoodIn wsL_law wsX7_clear := goodIn_r _ [331, 43, 601, 602, 603, 604, 605, 606, 607, 608, 609, 610, 611, 612] rfl (by decide +kernel)
set_option maxRecDepth 20000 in
theorem gL_law_X7_clear : GoodIn wsL_law (wsV RL 50 RX7 yX7_clear wsX7_clear) := goodIn_app (goodIn_of _ (by decide +kernel)) ggL_law_X7_clear
set_option maxRecDepth 20000 in
theorem ggL_law_X8_clear : GoodIn wsL_law wsX8_clear := goodIn_r _ [335, 149, 613, 614, 615, 616, 617, 618, 619, 620, 621, 622, 623, 624, 625, 626, 627, 628, 629, 630, 631, 632, 633, 634, 635, 636, 637, 638, 639, 640, 641] rfl (by decide +kernel)
set_option maxRecDepth 20000 in
theorem gL_law_X8_clear : GoodIn wsL_law (wsV RL 54 RX8 yX8_clear wsX8_clear) := goodIn_app (goodIn_of _ (by decide +kernel)) ggL_law_X8_clear
set_option maxRecDepth 20000 in
theorem ggL_law_X7_register : GoodIn wsL_law wsX7_register := goodIn_r _ [339, 30, 26, 43, 340, 341, 342, 29, 343, 344, 345, 346, 347, 78, 79, 81, 82, 83, 84, 348, 349, 350, 351, 85, 80, 352, 353, 354, 355, 356, 357, 358, 359, 360, 361, 362, 14, 363, 51, 50, 364, 365, 366, 367, 368, 369, 370, 371, 372, 373, 374, 375, 601, 602, 603, 604, 605, 606, 607, 608, 609, 610, 611, 612, 654, 655, 656, 657, 658, 659, 660, 661, 642, 643] rfl (by decide +kernel)
set_option maxRecDepth 20000 in
theorem gL_law_X7_register : GoodIn wsL_law (wsV RL 55 RX7 yX7_register wsX7_register) := goodIn_app (goodIn_of _ (by decide +kernel)) ggL_law_X7_register
set_option maxRecDepth 20000 in
theorem ggL_law_X8_register : GoodIn wsL_law wsX8_register := goodIn_r _ [379, 149, 380, 381, 382, 383, 5, 384, 135, 134, 385, 386, 387, 388, 136, 137, 125, 138, 389, 390, 391, 392, 169, 170, 171, 393, 394, 395, 396, 613, 614, 615, 616, 617, 618, 619, 620, 621, 622, 623, 624, 625, 626, 627, 628, 629, 630, 631, 632, 633, 634, 635, 636, 637, 638, 639, 640, 641] rfl (by decide +kernel)
set_option maxRecDepth 20000 in
theorem gL_law_X8_register : GoodIn wsL_law (wsV RL 58 RX8 yX8_register wsX8_register) := goodIn_app (goodIn_of _ (by decide +kernel)) ggL_law_X8_register
set_option maxRecDepth 20000 in
theorem ggL_law_X7_far : GoodIn wsL_law wsX7_far := goodIn_r _ [400, 401, 43, 26, 30, 34, 340, 341, 342, 29, 343, 344, 345, 346, 347, 78, 79, 81, 82, 83, 84, 348, 349, 350, 351, 85, 80, 352, 353, 354, 355, 356, 357, 358, 359, 360, 361, 362, 14, 363, 51, 50, 364, 365, 366, 367, 402, 403, 404, 33, 405, 93, 91, 94, 406, 407, 408, 409, 90, 410, 369, 370, 371, 372, 373, 374, 375, 411, 412, 413, 414, 415, 416, 417, 418, 92, 419, 420, 421, 422, 601, 602, 603, 604, 605, 606, 607, 608, 609, 610, 611, 612, 654, 655, 656, 657, 658, 659, 660, 661, 642, 643, 662, 663, 664, 665, 666] rfl (by decide +kernel)
set_option maxRecDepth 20000 in
theorem gL_law_X7_far : GoodIn wsL_law (wsV RL 59 RX7 yX7_far wsX7_far) := goodIn_app (goodIn_of _ (by decide +kernel)) ggL_law_X7_far
set_option maxRecDepth 20000 in
theorem ggL_law_X8_far : GoodIn wsL_law wsX8_far := goodIn_r _ [426, 427, 149, 134, 380, 139, 140, 125, 169, 170, 5, 171, 381, 382, 383, 384, 135, 385, 386, 387, 388, 136, 137, 138, 389, 390, 391, 392, 393, 394, 395, 396, 428, 429, 430, 431, 141, 613, 614, 615, 616, 617, 618, 619, 620, 621, 622, 623, 624, 625, 626, 627, 628, 629, 630, 631, 632, 633, 634, 635, 636, 637, 638, 639, 640, 641] rfl (by decide +kernel)
set_option maxRecDepth 20000 in
theorem gL_law_X8_far : GoodIn wsL_law (wsV RL 62 RX8 yX8_far wsX8_far) := goodIn_app (goodIn_of _ (by decide +kernel)) ggL_law_X8_far
set_option maxRecDepth 20000 in
theorem ggL_law_X7_lie : GoodIn wsL_law wsX7_lie := goodIn_r _ [435, 30, 26, 43, 436, 38, 340, 341, 342, 29, 343, 344, 345, 346, 347, 78, 79, 81, 82, 83, 84, 348, 349, 350, 351, 85, 80, 352, 353, 354, 355, 356, 357, 358, 359, 360, 361, 362, 14, 363, 51, 50, 364, 365, 366, 367, 437, 438, 439, 37, 440, 99, 441, 442, 443, 444, 102, 445, 446, 447, 448, 449, 100, 450, 451, 452, 453, 103, 454, 455, 456, 457, 458, 601, 602, 603, 604, 605, 606, 607, 608, 609, 610, 611, 612, 654, 655, 656, 657, 658, 659, 660, 661, 642, 643, 667, 668, 669, 670] rfl (by decide +kernel)
set_option maxRecDepth 20000 in
theorem gL_law_X7_lie : GoodIn wsL_law (wsV RL 63 RX7 yX7_lie wsX7_lie) := goodIn_app (goodIn_of _ (by decide +kernel)) ggL_law_X7_lie
set_option maxRecDepth 20000 in
theorem ggL_law_X8_lie : GoodIn wsL_law wsX8_lie := goodIn_r _ [462, 149, 380, 463, 125, 135, 134, 169, 170, 5, 171, 381, 382, 383, 384, 385, 386, 387, 388, 136, 137, 138, 389, 390, 391, 392, 613, 614, 615, 616, 617, 618, 619, 620, 621, 622, 623, 624, 625, 626, 627, 628, 629, 630, 631, 632, 633, 634, 635, 636, 637, 638, 639, 640, 641] rfl (by decide +kernel)
set_option maxRecDepth 20000 in
theorem gL_law_X8_lie : GoodIn wsL_law (wsV RL 66 RX8 yX8_lie wsX8_lie) := goodIn_app (goodIn_of _ (by decide +kernel)) ggL_law_X8_lie

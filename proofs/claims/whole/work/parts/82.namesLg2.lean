/-! the law: what it calls (2) -/
set_option maxRecDepth 20000 in
theorem ggL_law_X7_field : GoodIn wsL_law wsX7_field := goodIn_r _ [153, 15, 23, 24, 43, 154, 155, 156, 14, 157, 51, 158, 159, 160, 52, 53, 54, 55, 50, 161, 162, 163, 22, 164, 71, 593, 594, 595, 596, 597, 598, 599, 600, 601, 602, 603, 604, 634, 635, 639, 640, 641, 642, 643, 644, 645] rfl (by decide +kernel)
set_option maxRecDepth 20000 in
theorem gL_law_X7_field : GoodIn wsL_law (wsV RL 13 RX7 yX7_field wsX7_field) := goodIn_app (goodIn_of _ (by decide +kernel)) ggL_law_X7_field
set_option maxRecDepth 20000 in
theorem ggL_law_X8_field : GoodIn wsL_law wsX8_field := goodIn_r _ [168, 125, 129, 149, 169, 170, 5, 171, 605, 606, 607, 608, 609, 610, 611, 612, 613, 614, 615, 616, 617, 618, 619, 620, 621, 622, 623, 624, 625, 626, 627, 628, 629, 630, 631, 632, 633] rfl (by decide +kernel)
set_option maxRecDepth 20000 in
theorem gL_law_X8_field : GoodIn wsL_law (wsV RL 17 RX8 yX8_field wsX8_field) := goodIn_app (goodIn_of _ (by decide +kernel)) ggL_law_X8_field
set_option maxRecDepth 20000 in
theorem ggL_law_X7_set : GoodIn wsL_law wsX7_set := goodIn_r _ [175, 23, 24, 176, 177, 178, 2, 179, 19, 180, 181, 182, 183, 184, 185, 186, 187, 188, 189, 593, 594, 595, 596, 597, 598, 599, 600, 601, 602, 603, 604, 636, 637, 638, 639, 640, 641, 642, 643, 644, 645] rfl (by decide +kernel)
set_option maxRecDepth 20000 in
theorem gL_law_X7_set : GoodIn wsL_law (wsV RL 18 RX7 yX7_set wsX7_set) := goodIn_app (goodIn_of _ (by decide +kernel)) ggL_law_X7_set
set_option maxRecDepth 20000 in
theorem ggL_law_X8_set : GoodIn wsL_law wsX8_set := goodIn_r _ [193, 126, 127, 128, 169, 170, 5, 171, 605, 606, 607, 608, 609, 610, 611, 612, 613, 614, 615, 616, 617, 618, 619, 620, 621, 622, 623, 624, 625, 626, 627, 628, 629, 630, 631, 632, 633] rfl (by decide +kernel)
set_option maxRecDepth 20000 in
theorem gL_law_X8_set : GoodIn wsL_law (wsV RL 22 RX8 yX8_set wsX8_set) := goodIn_app (goodIn_of _ (by decide +kernel)) ggL_law_X8_set
set_option maxRecDepth 20000 in
theorem ggL_law_X7_form : GoodIn wsL_law wsX7_form := goodIn_r _ [197, 15, 45, 19, 187, 188, 2, 189, 198, 199, 200, 14, 201, 51, 202, 203, 204, 205, 206, 18, 207, 208, 209, 210, 211, 62, 60, 61, 212, 213, 214, 215, 216, 217, 218, 219, 220, 221, 222, 223, 593, 594, 595, 596, 597, 598, 599, 600, 601, 602, 603, 604, 634, 635, 636, 637, 638] rfl (by decide +kernel)
set_option maxRecDepth 20000 in
theorem gL_law_X7_form : GoodIn wsL_law (wsV RL 23 RX7 yX7_form wsX7_form) := goodIn_app (goodIn_of _ (by decide +kernel)) ggL_law_X7_form
set_option maxRecDepth 20000 in
theorem ggL_law_X8_form : GoodIn wsL_law wsX8_form := goodIn_r _ [227, 228, 229, 230, 169, 170, 5, 171, 231, 232, 233, 234, 125, 235, 236, 237, 238, 126, 127, 239, 240, 241, 242, 605, 606, 607, 608, 609, 610, 611, 612, 613, 614, 615, 616, 617, 618, 619, 620, 621, 622, 623, 624, 625, 626, 627, 628, 629, 630, 631, 632, 633] rfl (by decide +kernel)
set_option maxRecDepth 20000 in
theorem gL_law_X8_form : GoodIn wsL_law (wsV RL 27 RX8 yX8_form wsX8_form) := goodIn_app (goodIn_of _ (by decide +kernel)) ggL_law_X8_form
set_option maxRecDepth 20000 in
theorem ggL_law_X7_term : GoodIn wsL_law wsX7_term := goodIn_r _ [246, 15, 247, 248, 2, 249, 198, 199, 200, 14, 201, 51, 202, 203, 204, 250, 251, 252, 253, 23, 24, 254, 255, 256, 22, 257, 71, 67, 593, 594, 595, 596, 597, 598, 599, 600, 601, 602, 603, 604, 639, 640, 641, 642, 643, 644, 645, 634, 635] rfl (by decide +kernel)
set_option maxRecDepth 20000 in
theorem gL_law_X7_term : GoodIn wsL_law (wsV RL 28 RX7 yX7_term wsX7_term) := goodIn_app (goodIn_of _ (by decide +kernel)) ggL_law_X7_term
set_option maxRecDepth 20000 in
theorem ggL_law_X8_term : GoodIn wsL_law wsX8_term := goodIn_r _ [261, 125, 129, 130, 131, 132, 133, 262, 263, 5, 264, 169, 170, 171, 605, 606, 607, 608, 609, 610, 611, 612, 613, 614, 615, 616, 617, 618, 619, 620, 621, 622, 623, 624, 625, 626, 627, 628, 629, 630, 631, 632, 633] rfl (by decide +kernel)
set_option maxRecDepth 20000 in
theorem gL_law_X8_term : GoodIn wsL_law (wsV RL 32 RX8 yX8_term wsX8_term) := goodIn_app (goodIn_of _ (by decide +kernel)) ggL_law_X8_term
set_option maxRecDepth 20000 in
theorem ggL_law_X7_empty : GoodIn wsL_law wsX7_empty := goodIn_r _ [268, 247, 248, 2, 249, 250, 251, 252, 253, 23, 24, 161, 162, 163, 22, 164, 71, 639, 640, 641, 642, 643, 644, 645, 593, 594, 595, 596, 597, 598, 599, 600, 601, 602, 603, 604] rfl (by decide +kernel)
set_option maxRecDepth 20000 in
theorem gL_law_X7_empty : GoodIn wsL_law (wsV RL 33 RX7 yX7_empty wsX7_empty) := goodIn_app (goodIn_of _ (by decide +kernel)) ggL_law_X7_empty
set_option maxRecDepth 20000 in
theorem ggL_law_X8_empty : GoodIn wsL_law wsX8_empty := goodIn_r _ [272, 129, 262, 263, 5, 264, 169, 170, 171, 605, 606, 607, 608, 609, 610, 611, 612, 613, 614, 615, 616, 617, 618, 619, 620, 621, 622, 623, 624, 625, 626, 627, 628, 629, 630, 631, 632, 633] rfl (by decide +kernel)
set_option maxRecDepth 20000 in
theorem gL_law_X8_empty : GoodIn wsL_law (wsV RL 36 RX8 yX8_empty wsX8_empty) := goodIn_app (goodIn_of _ (by decide +kernel)) ggL_law_X8_empty
set_option maxRecDepth 20000 in
theorem ggL_law_X7_ask : GoodIn wsL_law wsX7_ask := goodIn_r _ [276, 44, 247, 248, 2, 249, 277, 278, 279, 280, 15, 198, 199, 200, 14, 201, 51, 250, 251, 252, 253, 23, 24, 281, 282, 283, 22, 284, 71, 72, 73, 70, 285, 286, 287, 288, 289, 290, 291, 292, 67, 293, 209, 210, 18, 211, 62, 60, 61, 212, 213, 214, 215, 216, 217, 218, 219, 220, 221, 222, 223, 294, 593, 594, 595, 596, 597, 598, 599, 600, 601, 602, 603, 604, 634, 635, 639, 640, 641, 642, 643, 644, 645, 636, 637, 638] rfl (by decide +kernel)
set_option maxRecDepth 20000 in
theorem gL_law_X7_ask : GoodIn wsL_law (wsV RL 37 RX7 yX7_ask wsX7_ask) := goodIn_app (goodIn_of _ (by decide +kernel)) ggL_law_X7_ask
set_option maxRecDepth 20000 in
theorem ggL_law_X8_ask : GoodIn wsL_law wsX8_ask := goodIn_r _ [298, 299, 262, 263, 5, 264, 169, 170, 171, 231, 232, 233, 234, 125, 300, 301, 302, 303, 129, 130, 128, 131, 132, 133, 235, 236, 237, 238, 126, 127, 239, 240, 241, 242, 605, 606, 607, 608, 609, 610, 611, 612, 613, 614, 615, 616, 617, 618, 619, 620, 621, 622, 623, 624, 625, 626, 627, 628, 629, 630, 631, 632, 633] rfl (by decide +kernel)
set_option maxRecDepth 20000 in
theorem gL_law_X8_ask : GoodIn wsL_law (wsV RL 41 RX8 yX8_ask wsX8_ask) := goodIn_app (goodIn_of _ (by decide +kernel)) ggL_law_X8_ask

/-! the words of the law are in its tables -/
set_option maxRecDepth 20000 in
theorem inL_r1 : GoodIn lw_tbl wsL_law_r1 := goodIn_p _ [55, 58] rfl (by decide +kernel)
set_option maxRecDepth 20000 in
theorem inL_r2 : GoodIn lw_tbl wsL_law_r2 := goodIn_p _ [] rfl (by decide +kernel)
set_option maxRecDepth 20000 in
theorem inL_r3 : GoodIn lw_tbl wsL_law_r3 := goodIn_p _ [63, 68, 87, 105] rfl (by decide +kernel)
set_option maxRecDepth 20000 in
theorem inL_r4 : GoodIn lw_tbl wsL_law_r4 := goodIn_p _ [135, 170] rfl (by decide +kernel)
set_option maxRecDepth 20000 in
theorem inL_r5 : GoodIn lw_tbl wsL_law_r5 := goodIn_p _ [192, 213] rfl (by decide +kernel)
set_option maxRecDepth 20000 in
theorem inL_r6 : GoodIn lw_tbl wsL_law_r6 := goodIn_p _ [598] rfl (by decide +kernel)
set_option maxRecDepth 20000 in
theorem inL_r7 : GoodIn lw_tbl wsL_law_r7 := goodIn_p _ [285, 289, 292, 296] rfl (by decide +kernel)
set_option maxRecDepth 20000 in
theorem inL_r8 : GoodIn lw_tbl wsL_law_r8 := goodIn_p _ [691, 694, 300, 304, 308, 311, 314] rfl (by decide +kernel)
set_option maxRecDepth 20000 in
theorem inL_r9 : GoodIn lw_tbl wsL_law_r9 := goodIn_p _ [698, 318, 322, 325, 328, 332, 336] rfl (by decide +kernel)
set_option maxRecDepth 20000 in
theorem inL_r10 : GoodIn lw_tbl wsL_law_r10 := goodIn_p _ [340, 344, 348, 352, 702] rfl (by decide +kernel)
set_option maxRecDepth 20000 in
theorem inL_r11 : GoodIn lw_tbl wsL_law_r11 := goodIn_p _ [706, 712, 716, 356, 359, 363] rfl (by decide +kernel)
set_option maxRecDepth 20000 in
theorem inL_r12 : GoodIn lw_tbl wsL_law_r12 := goodIn_p _ [367, 720, 723, 371, 727, 375] rfl (by decide +kernel)
set_option maxRecDepth 20000 in
theorem inL_r13 : GoodIn lw_tbl wsL_law_r13 := goodIn_p _ [379, 383, 387, 391, 731, 735] rfl (by decide +kernel)
set_option maxRecDepth 20000 in
theorem inL_r14 : GoodIn lw_tbl wsL_law_r14 := goodIn_p _ [397, 739, 401, 743, 405, 747] rfl (by decide +kernel)
set_option maxRecDepth 20000 in
theorem inL_r15 : GoodIn lw_tbl wsL_law_r15 := goodIn_p _ [409, 413, 417, 421, 425] rfl (by decide +kernel)
set_option maxRecDepth 20000 in
theorem inL_r16 : GoodIn lw_tbl wsL_law_r16 := goodIn_p _ [429, 433, 440, 444, 751] rfl (by decide +kernel)
set_option maxRecDepth 20000 in
theorem inL_r17 : GoodIn lw_tbl wsL_law_r17 := goodIn_p _ [755, 759, 763, 767, 448, 453] rfl (by decide +kernel)
set_option maxRecDepth 20000 in
theorem inL_r18 : GoodIn lw_tbl wsL_law_r18 := goodIn_p _ [457, 462, 466, 470, 771, 776] rfl (by decide +kernel)
set_option maxRecDepth 20000 in
theorem inL_r19 : GoodIn lw_tbl wsL_law_r19 := goodIn_p _ [474, 479, 482, 487, 491] rfl (by decide +kernel)
set_option maxRecDepth 20000 in
theorem inL_r20 : GoodIn lw_tbl wsL_law_r20 := goodIn_p _ [495, 780, 500, 504, 509] rfl (by decide +kernel)
set_option maxRecDepth 20000 in
theorem inL_r21 : GoodIn lw_tbl wsL_law_r21 := goodIn_p _ [516, 520, 526, 530, 534] rfl (by decide +kernel)
set_option maxRecDepth 20000 in
theorem inL_r22 : GoodIn lw_tbl wsL_law_r22 := goodIn_p _ [538, 542, 549, 785] rfl (by decide +kernel)
set_option maxRecDepth 20000 in
theorem inL_r23 : GoodIn lw_tbl wsL_law_r23 := goodIn_p _ [789, 793, 797, 801, 556, 805] rfl (by decide +kernel)
set_option maxRecDepth 20000 in
theorem inL_r24 : GoodIn lw_tbl wsL_law_r24 := goodIn_p _ [560, 564, 568, 572, 577, 809] rfl (by decide +kernel)
set_option maxRecDepth 20000 in
theorem inL_r25 : GoodIn lw_tbl wsL_law_r25 := goodIn_p _ [581, 585, 813, 589, 817, 593] rfl (by decide +kernel)
set_option maxRecDepth 20000 in
theorem inL_r26 : GoodIn lw_tbl wsL_law_r26 := goodIn_p _ [821] rfl (by decide +kernel)
set_option maxRecDepth 20000 in
theorem inL_X70 : GoodIn lw_tbl wsX70 := goodIn_p _ [] rfl (by decide +kernel)
set_option maxRecDepth 20000 in
theorem inL_X80 : GoodIn lw_tbl wsX80 := goodIn_p _ [] rfl (by decide +kernel)
set_option maxRecDepth 20000 in
theorem inL_X40 : GoodIn lw_tbl wsX40 := goodIn_p _ [] rfl (by decide +kernel)
set_option maxRecDepth 20000 in
theorem inL_X00 : GoodIn lw_tbl wsX00 := goodIn_p _ [] rfl (by decide +kernel)
set_option maxRecDepth 20000 in
theorem inL_X10 : GoodIn lw_tbl wsX10 := goodIn_p _ [] rfl (by decide +kernel)
set_option maxRecDepth 20000 in
theorem inL_X60 : GoodIn lw_tbl wsX60 := goodIn_p _ [] rfl (by decide +kernel)
set_option maxRecDepth 20000 in
theorem inL_X30 : GoodIn lw_tbl wsX30 := goodIn_p _ [] rfl (by decide +kernel)
set_option maxRecDepth 20000 in
theorem inL_X20 : GoodIn lw_tbl wsX20 := goodIn_p _ [] rfl (by decide +kernel)
set_option maxRecDepth 20000 in
theorem inL_X50 : GoodIn lw_tbl wsX50 := goodIn_p _ [] rfl (by decide +kernel)
theorem wsL_law_good : GoodIn lw_tbl wsL_law := goodIn_app (goodIn_app (goodIn_app (goodIn_app (goodIn_app (goodIn_app (goodIn_app (goodIn_app (goodIn_app (goodIn_app (goodIn_app inL_r1 (goodIn_app inL_r2 (goodIn_app inL_r3 (goodIn_app inL_r4 (goodIn_app inL_r5 (goodIn_app inL_r6 (goodIn_app inL_r7 (goodIn_app inL_r8 (goodIn_app inL_r9 (goodIn_app inL_r10 (goodIn_app inL_r11 (goodIn_app inL_r12 (goodIn_app inL_r13 (goodIn_app inL_r14 (goodIn_app inL_r15 (goodIn_app inL_r16 (goodIn_app inL_r17 (goodIn_app inL_r18 (goodIn_app inL_r19 (goodIn_app inL_r20 (goodIn_app inL_r21 (goodIn_app inL_r22 (goodIn_app inL_r23 (goodIn_app inL_r24 (goodIn_app inL_r25 (inL_r26)))))))))))))))))))))))))) inL_X70) inL_X80) inL_X40) inL_X00) inL_X10) inL_X60) inL_X30) inL_X20) inL_X50) (fun w h => by cases h)
theorem wsL_law_in : ∀ w ∈ wsL_law, w ∈ lw_tbl := fun w h => (wsL_law_good w h).1

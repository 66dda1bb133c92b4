/-! the words of the law are in its tables -/
set_option maxRecDepth 20000 in
theorem inL_r1 : GoodIn lw_tbl wsL_law_r1 := goodIn_p _ [53, 56] rfl (by decide +kernel)
set_option maxRecDepth 20000 in
theorem inL_r2 : GoodIn lw_tbl wsL_law_r2 := goodIn_p _ [] rfl (by decide +kernel)
set_option maxRecDepth 20000 in
theorem inL_r3 : GoodIn lw_tbl wsL_law_r3 := goodIn_p _ [61, 66, 85, 103] rfl (by decide +kernel)
set_option maxRecDepth 20000 in
theorem inL_r4 : GoodIn lw_tbl wsL_law_r4 := goodIn_p _ [133, 168] rfl (by decide +kernel)
set_option maxRecDepth 20000 in
theorem inL_r5 : GoodIn lw_tbl wsL_law_r5 := goodIn_p _ [190, 211] rfl (by decide +kernel)
set_option maxRecDepth 20000 in
theorem inL_r6 : GoodIn lw_tbl wsL_law_r6 := goodIn_p _ [588] rfl (by decide +kernel)
set_option maxRecDepth 20000 in
theorem inL_r7 : GoodIn lw_tbl wsL_law_r7 := goodIn_p _ [283, 287, 290, 294] rfl (by decide +kernel)
set_option maxRecDepth 20000 in
theorem inL_r8 : GoodIn lw_tbl wsL_law_r8 := goodIn_p _ [681, 684, 298, 302, 306, 309, 312] rfl (by decide +kernel)
set_option maxRecDepth 20000 in
theorem inL_r9 : GoodIn lw_tbl wsL_law_r9 := goodIn_p _ [688, 316, 320, 323, 326, 330, 334] rfl (by decide +kernel)
set_option maxRecDepth 20000 in
theorem inL_r10 : GoodIn lw_tbl wsL_law_r10 := goodIn_p _ [338, 342, 692, 696, 702] rfl (by decide +kernel)
set_option maxRecDepth 20000 in
theorem inL_r11 : GoodIn lw_tbl wsL_law_r11 := goodIn_p _ [706, 346, 349, 353, 357, 710] rfl (by decide +kernel)
set_option maxRecDepth 20000 in
theorem inL_r12 : GoodIn lw_tbl wsL_law_r12 := goodIn_p _ [713, 361, 717, 365, 369, 373] rfl (by decide +kernel)
set_option maxRecDepth 20000 in
theorem inL_r13 : GoodIn lw_tbl wsL_law_r13 := goodIn_p _ [377, 381, 721, 725, 387, 729] rfl (by decide +kernel)
set_option maxRecDepth 20000 in
theorem inL_r14 : GoodIn lw_tbl wsL_law_r14 := goodIn_p _ [391, 733, 395, 737, 399, 403] rfl (by decide +kernel)
set_option maxRecDepth 20000 in
theorem inL_r15 : GoodIn lw_tbl wsL_law_r15 := goodIn_p _ [407, 411, 415, 419, 423] rfl (by decide +kernel)
set_option maxRecDepth 20000 in
theorem inL_r16 : GoodIn lw_tbl wsL_law_r16 := goodIn_p _ [430, 434, 741, 745, 749] rfl (by decide +kernel)
set_option maxRecDepth 20000 in
theorem inL_r17 : GoodIn lw_tbl wsL_law_r17 := goodIn_p _ [753, 757, 438, 443, 447, 452] rfl (by decide +kernel)
set_option maxRecDepth 20000 in
theorem inL_r18 : GoodIn lw_tbl wsL_law_r18 := goodIn_p _ [456, 460, 761, 766, 464] rfl (by decide +kernel)
set_option maxRecDepth 20000 in
theorem inL_r19 : GoodIn lw_tbl wsL_law_r19 := goodIn_p _ [469, 472, 477, 481, 485, 770] rfl (by decide +kernel)
set_option maxRecDepth 20000 in
theorem inL_r20 : GoodIn lw_tbl wsL_law_r20 := goodIn_p _ [490, 494, 499, 506, 510] rfl (by decide +kernel)
set_option maxRecDepth 20000 in
theorem inL_r21 : GoodIn lw_tbl wsL_law_r21 := goodIn_p _ [516, 520, 524, 528, 532] rfl (by decide +kernel)
set_option maxRecDepth 20000 in
theorem inL_r22 : GoodIn lw_tbl wsL_law_r22 := goodIn_p _ [539, 775, 779, 783] rfl (by decide +kernel)
set_option maxRecDepth 20000 in
theorem inL_r23 : GoodIn lw_tbl wsL_law_r23 := goodIn_p _ [787, 791, 546, 795, 550, 554] rfl (by decide +kernel)
set_option maxRecDepth 20000 in
theorem inL_r24 : GoodIn lw_tbl wsL_law_r24 := goodIn_p _ [558, 562, 567, 799, 571, 575] rfl (by decide +kernel)
set_option maxRecDepth 20000 in
theorem inL_r25 : GoodIn lw_tbl wsL_law_r25 := goodIn_p _ [803, 579, 807, 583, 811] rfl (by decide +kernel)
set_option maxRecDepth 20000 in
theorem inL_X70 : GoodIn lw_tbl wsX70 := goodIn_p _ [] rfl (by decide +kernel)
set_option maxRecDepth 20000 in
theorem inL_X80 : GoodIn lw_tbl wsX80 := goodIn_p _ [] rfl (by decide +kernel)
set_option maxRecDepth 20000 in
theorem inL_X40 : GoodIn lw_tbl wsX40 := goodIn_p _ [] rfl (by decide +kernel)
set_option maxRecDepth 20000 in
theorem inL_X00 : GoodIn lw_tbl wsX00 := goodIn_p _ [] rfl (by decide +kernel)
set_option maxRecDepth 20000 in
theorem inL_X10 : GoodIn lw_tbl wsX10 := goodIn_p _ [] rfl (by decide +kernel)
set_option maxRecDepth 20000 in
theorem inL_X60 : GoodIn lw_tbl wsX60 := goodIn_p _ [] rfl (by decide +kernel)
set_option maxRecDepth 20000 in
theorem inL_X30 : GoodIn lw_tbl wsX30 := goodIn_p _ [] rfl (by decide +kernel)
set_option maxRecDepth 20000 in
theorem inL_X20 : GoodIn lw_tbl wsX20 := goodIn_p _ [] rfl (by decide +kernel)
set_option maxRecDepth 20000 in
theorem inL_X50 : GoodIn lw_tbl wsX50 := goodIn_p _ [] rfl (by decide +kernel)
theorem wsL_law_good : GoodIn lw_tbl wsL_law := goodIn_app (goodIn_app (goodIn_app (goodIn_app (goodIn_app (goodIn_app (goodIn_app (goodIn_app (goodIn_app (goodIn_app (goodIn_app inL_r1 (goodIn_app inL_r2 (goodIn_app inL_r3 (goodIn_app inL_r4 (goodIn_app inL_r5 (goodIn_app inL_r6 (goodIn_app inL_r7 (goodIn_app inL_r8 (goodIn_app inL_r9 (goodIn_app inL_r10 (goodIn_app inL_r11 (goodIn_app inL_r12 (goodIn_app inL_r13 (goodIn_app inL_r14 (goodIn_app inL_r15 (goodIn_app inL_r16 (goodIn_app inL_r17 (goodIn_app inL_r18 (goodIn_app inL_r19 (goodIn_app inL_r20 (goodIn_app inL_r21 (goodIn_app inL_r22 (goodIn_app inL_r23 (goodIn_app inL_r24 (inL_r25))))))))))))))))))))))))) inL_X70) inL_X80) inL_X40) inL_X00) inL_X10) inL_X60) inL_X30) inL_X20) inL_X50) (fun w h => by cases h)
theorem wsL_law_in : ∀ w ∈ wsL_law, w ∈ lw_tbl := fun w h => (wsL_law_good w h).1

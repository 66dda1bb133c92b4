set_option maxRecDepth 20000 in
theorem ggX5_init_X6_init : GoodIn wsX5_init wsX6_init := goodIn_r _ [21, 22, 2, 3, 4, 23, 24, 25, 26, 27, 28, 29, 30, 50, 51, 52, 53, 54, 55, 56, 57] (by decide +kernel) (by decide +kernel)
set_option maxRecDepth 20000 in
theorem gX5_init_X6_init : GoodIn wsX5_init (wsX6_init) := ggX5_init_X6_init
set_option maxRecDepth 20000 in
theorem ggX5_init_X1_init : GoodIn wsX5_init wsX1_init := goodIn_r _ [33, 34, 2, 3, 4, 35, 36, 37, 38, 39, 40, 41, 58, 59, 60, 61, 62, 63, 64] (by decide +kernel) (by decide +kernel)
set_option maxRecDepth 20000 in
theorem gX5_init_X1_init : GoodIn wsX5_init (wsX1_init) := ggX5_init_X1_init
theorem dX5_init_0 : decode cX5_init 0 = .ok (.aload_n 0, 1) := by decide +kernel
theorem dX5_init_1 : decode cX5_init 1 = .ok (.invokespecial 3, 3) := by decide +kernel
theorem dX5_init_4 : decode cX5_init 4 = .ok (.aload_n 0, 1) := by decide +kernel
theorem dX5_init_5 : decode cX5_init 5 = .ok (.bipush 9, 2) := by decide +kernel
theorem dX5_init_7 : decode cX5_init 7 = .ok (.newarray .int, 2) := by decide +kernel
theorem dX5_init_9 : decode cX5_init 9 = .ok (.putfield 11, 3) := by decide +kernel
theorem dX5_init_12 : decode cX5_init 12 = .ok (.aload_n 0, 1) := by decide +kernel
theorem dX5_init_13 : decode cX5_init 13 = .ok (.iconst 4, 1) := by decide +kernel
theorem dX5_init_14 : decode cX5_init 14 = .ok (.newarray .int, 2) := by decide +kernel
theorem dX5_init_16 : decode cX5_init 16 = .ok (.putfield 15, 3) := by decide +kernel
theorem dX5_init_19 : decode cX5_init 19 = .ok (.aload_n 0, 1) := by decide +kernel
theorem dX5_init_20 : decode cX5_init 20 = .ok (.bipush 12, 2) := by decide +kernel
theorem dX5_init_22 : decode cX5_init 22 = .ok (.newarray .int, 2) := by decide +kernel
theorem dX5_init_24 : decode cX5_init 24 = .ok (.putfield 18, 3) := by decide +kernel
theorem dX5_init_27 : decode cX5_init 27 = .ok (.aload_n 0, 1) := by decide +kernel
theorem dX5_init_28 : decode cX5_init 28 = .ok (.iconst 5, 1) := by decide +kernel
theorem dX5_init_29 : decode cX5_init 29 = .ok (.newarray .int, 2) := by decide +kernel
theorem dX5_init_31 : decode cX5_init 31 = .ok (.putfield 21, 3) := by decide +kernel
theorem dX5_init_34 : decode cX5_init 34 = .ok (.aload_n 0, 1) := by decide +kernel
theorem dX5_init_35 : decode cX5_init 35 = .ok (.iconst 0, 1) := by decide +kernel
theorem dX5_init_36 : decode cX5_init 36 = .ok (.putfield 24, 3) := by decide +kernel
theorem dX5_init_39 : decode cX5_init 39 = .ok (.aload_n 0, 1) := by decide +kernel
theorem dX5_init_40 : decode cX5_init 40 = .ok (.aload_n 1, 1) := by decide +kernel
theorem dX5_init_41 : decode cX5_init 41 = .ok (.putfield 28, 3) := by decide +kernel
theorem dX5_init_44 : decode cX5_init 44 = .ok (.aload_n 0, 1) := by decide +kernel
theorem dX5_init_45 : decode cX5_init 45 = .ok (.new 32, 3) := by decide +kernel
theorem dX5_init_48 : decode cX5_init 48 = .ok (.dup, 1) := by decide +kernel
theorem dX5_init_49 : decode cX5_init 49 = .ok (.aload_n 1, 1) := by decide +kernel
theorem dX5_init_50 : decode cX5_init 50 = .ok (.invokespecial 34, 3) := by decide +kernel
theorem dX5_init_53 : decode cX5_init 53 = .ok (.putfield 37, 3) := by decide +kernel
theorem dX5_init_56 : decode cX5_init 56 = .ok (.aload_n 0, 1) := by decide +kernel
theorem dX5_init_57 : decode cX5_init 57 = .ok (.new 41, 3) := by decide +kernel
theorem dX5_init_60 : decode cX5_init 60 = .ok (.dup, 1) := by decide +kernel
theorem dX5_init_61 : decode cX5_init 61 = .ok (.aload_n 1, 1) := by decide +kernel
theorem dX5_init_62 : decode cX5_init 62 = .ok (.aload_n 2, 1) := by decide +kernel
theorem dX5_init_63 : decode cX5_init 63 = .ok (.invokespecial 43, 3) := by decide +kernel
theorem dX5_init_66 : decode cX5_init 66 = .ok (.putfield 46, 3) := by decide +kernel
theorem dX5_init_69 : decode cX5_init 69 = .ok (.return_, 1) := by decide +kernel
set_option maxRecDepth 20000 in
theorem ggX5_recover_X1_drop : GoodIn wsX5_recover wsX1_drop := goodIn_r _ [10, 11, 163, 164, 165, 166, 167, 168, 169] (by decide +kernel) (by decide +kernel)
set_option maxRecDepth 20000 in
theorem gX5_recover_X1_drop : GoodIn wsX5_recover (wsV RX5 50 RX1 yX1_drop wsX1_drop) := goodIn_app (goodIn_of _ (by decide +kernel)) ggX5_recover_X1_drop
set_option maxRecDepth 20000 in
theorem ggX5_recover_X5_askPowers : GoodIn wsX5_recover wsX5_askPowers := goodIn_r _ [16, 3, 17, 18, 19, 20, 9, 21, 11, 22, 23, 24, 25, 26, 27, 28, 29, 30, 31, 32, 33, 34, 35, 36, 37, 38, 39, 40, 41, 42, 43, 44, 45, 46, 47, 48, 49, 50, 51, 52, 53, 54, 55, 56, 57, 147, 148, 149, 150, 151, 152, 153, 154, 163, 164, 165, 166, 167, 168, 169, 170, 171, 172, 173, 174] (by decide +kernel) (by decide +kernel)
set_option maxRecDepth 20000 in
theorem gX5_recover_X5_askPowers : GoodIn wsX5_recover (wsV RX5 53 RX5 yX5_askPowers wsX5_askPowers) := goodIn_app (goodIn_of _ (by decide +kernel)) ggX5_recover_X5_askPowers
set_option maxRecDepth 20000 in
theorem ggX5_recover_X6_read : GoodIn wsX5_recover wsX6_read := goodIn_r _ [62, 63, 64, 65, 61, 66, 67, 68, 69, 70, 71, 72, 73, 74, 75, 76, 77, 78, 79, 80, 81, 82, 83, 84, 85, 86, 87, 88, 89, 45, 90, 47, 91, 92, 93, 94, 95, 155, 156, 157, 158, 159, 160, 161, 162, 170, 171] (by decide +kernel) (by decide +kernel)
set_option maxRecDepth 20000 in
theorem gX5_recover_X6_read : GoodIn wsX5_recover (wsV RX5 57 RX6 yX6_read wsX6_read) := goodIn_app (goodIn_of _ (by decide +kernel)) ggX5_recover_X6_read
set_option maxRecDepth 20000 in
theorem ggX5_recover_X5_findKeys : GoodIn wsX5_recover wsX5_findKeys := goodIn_r _ [99, 4, 17, 2, 100, 101, 102, 15, 103, 57, 53, 54, 45, 55, 47, 104, 105, 106, 61, 107, 67, 77, 108, 109, 110, 111, 112, 113, 114, 115, 116, 117, 5, 147, 148, 149, 150, 151, 152, 153, 154, 155, 156, 157, 158, 159, 160, 161, 162, 170, 171] (by decide +kernel) (by decide +kernel)
set_option maxRecDepth 20000 in
theorem gX5_recover_X5_findKeys : GoodIn wsX5_recover (wsV RX5 64 RX5 yX5_findKeys wsX5_findKeys) := goodIn_app (goodIn_of _ (by decide +kernel)) ggX5_recover_X5_findKeys
set_option maxRecDepth 20000 in
theorem ggX5_recover_X5_keysDiffer : GoodIn wsX5_recover wsX5_keysDiffer := goodIn_r _ [121, 4, 117, 147, 148, 149, 150, 151, 152, 153, 154] (by decide +kernel) (by decide +kernel)
set_option maxRecDepth 20000 in
theorem gX5_recover_X5_keysDiffer : GoodIn wsX5_recover (wsV RX5 68 RX5 yX5_keysDiffer wsX5_keysDiffer) := goodIn_app (goodIn_of _ (by decide +kernel)) ggX5_recover_X5_keysDiffer
set_option maxRecDepth 20000 in
theorem ggX5_recover_X5_coefficient : GoodIn wsX5_recover wsX5_coefficient := goodIn_r _ [125, 4, 126, 3, 17, 117, 127, 128, 129, 15, 130, 131, 132, 133, 134, 57, 53, 54, 45, 55, 47, 112, 109, 110, 111, 135, 43, 44, 46, 136, 88, 89, 90, 91, 147, 148, 149, 150, 151, 152, 153, 154, 170, 171] (by decide +kernel) (by decide +kernel)
set_option maxRecDepth 20000 in
theorem gX5_recover_X5_coefficient : GoodIn wsX5_recover (wsV RX5 71 RX5 yX5_coefficient wsX5_coefficient) := goodIn_app (goodIn_of _ (by decide +kernel)) ggX5_recover_X5_coefficient
set_option maxRecDepth 20000 in
theorem ggX5_recover_X1_add : GoodIn wsX5_recover wsX1_add := goodIn_r _ [140, 11, 33, 163, 164, 165, 166, 167, 168, 169] (by decide +kernel) (by decide +kernel)
set_option maxRecDepth 20000 in
theorem gX5_recover_X1_add : GoodIn wsX5_recover (wsV RX5 75 RX1 yX1_add wsX1_add) := goodIn_app (goodIn_of _ (by decide +kernel)) ggX5_recover_X1_add
set_option maxRecDepth 20000 in
theorem ggX5_recover_X5_lastAnswerFits : GoodIn wsX5_recover wsX5_lastAnswerFits := goodIn_r _ [144, 4, 17, 1, 117, 3, 145, 30, 31, 9, 32, 33, 146, 49, 50, 45, 51, 47, 57, 53, 54, 55, 147, 148, 149, 150, 151, 152, 153, 154, 170, 171, 163, 164, 165, 166, 167, 168, 169] (by decide +kernel) (by decide +kernel)
set_option maxRecDepth 20000 in
theorem gX5_recover_X5_lastAnswerFits : GoodIn wsX5_recover (wsV RX5 79 RX5 yX5_lastAnswerFits wsX5_lastAnswerFits) := goodIn_app (goodIn_of _ (by decide +kernel)) ggX5_recover_X5_lastAnswerFits
theorem dX5_recover_0 : decode cX5_recover 0 = .ok (.aload_n 0, 1) := by decide +kernel
theorem dX5_recover_1 : decode cX5_recover 1 = .ok (.getfield 46, 3) := by decide +kernel
theorem dX5_recover_4 : decode cX5_recover 4 = .ok (.invokevirtual 50, 3) := by decide +kernel
theorem dX5_recover_7 : decode cX5_recover 7 = .ok (.aload_n 0, 1) := by decide +kernel
theorem dX5_recover_8 : decode cX5_recover 8 = .ok (.aload_n 1, 1) := by decide +kernel
theorem dX5_recover_9 : decode cX5_recover 9 = .ok (.invokevirtual 53, 3) := by decide +kernel
theorem dX5_recover_12 : decode cX5_recover 12 = .ok (.aload_n 0, 1) := by decide +kernel
theorem dX5_recover_13 : decode cX5_recover 13 = .ok (.getfield 37, 3) := by decide +kernel
theorem dX5_recover_16 : decode cX5_recover 16 = .ok (.aload_n 0, 1) := by decide +kernel
theorem dX5_recover_17 : decode cX5_recover 17 = .ok (.getfield 11, 3) := by decide +kernel
theorem dX5_recover_20 : decode cX5_recover 20 = .ok (.bipush 8, 2) := by decide +kernel
theorem dX5_recover_22 : decode cX5_recover 22 = .ok (.invokevirtual 57, 3) := by decide +kernel
theorem dX5_recover_25 : decode cX5_recover 25 = .ok (.aload_n 0, 1) := by decide +kernel
theorem dX5_recover_26 : decode cX5_recover 26 = .ok (.getfield 37, 3) := by decide +kernel
theorem dX5_recover_29 : decode cX5_recover 29 = .ok (.getfield 61, 3) := by decide +kernel
theorem dX5_recover_32 : decode cX5_recover 32 = .ok (.iconst 4, 1) := by decide +kernel
theorem dX5_recover_33 : decode cX5_recover 33 = .ok (.if_icmp .gt 17, 3) := by decide +kernel
theorem dX5_recover_36 : decode cX5_recover 36 = .ok (.aload_n 0, 1) := by decide +kernel
theorem dX5_recover_37 : decode cX5_recover 37 = .ok (.invokevirtual 64, 3) := by decide +kernel
theorem dX5_recover_40 : decode cX5_recover 40 = .ok (.ifCond .eq 10, 3) := by decide +kernel
theorem dX5_recover_43 : decode cX5_recover 43 = .ok (.aload_n 0, 1) := by decide +kernel
theorem dX5_recover_44 : decode cX5_recover 44 = .ok (.invokevirtual 68, 3) := by decide +kernel
theorem dX5_recover_47 : decode cX5_recover 47 = .ok (.ifCond .ne 5, 3) := by decide +kernel
theorem dX5_recover_50 : decode cX5_recover 50 = .ok (.iconst 0, 1) := by decide +kernel
theorem dX5_recover_51 : decode cX5_recover 51 = .ok (.ireturn, 1) := by decide +kernel
theorem dX5_recover_52 : decode cX5_recover 52 = .ok (.iconst 0, 1) := by decide +kernel
theorem dX5_recover_53 : decode cX5_recover 53 = .ok (.istore_n 2, 1) := by decide +kernel
theorem dX5_recover_54 : decode cX5_recover 54 = .ok (.iload_n 2, 1) := by decide +kernel
theorem dX5_recover_55 : decode cX5_recover 55 = .ok (.aload_n 0, 1) := by decide +kernel
theorem dX5_recover_56 : decode cX5_recover 56 = .ok (.getfield 24, 3) := by decide +kernel
theorem dX5_recover_59 : decode cX5_recover 59 = .ok (.if_icmp .ge 48, 3) := by decide +kernel
theorem dX5_recover_62 : decode cX5_recover 62 = .ok (.iload_n 2, 1) := by decide +kernel
theorem dX5_recover_63 : decode cX5_recover 63 = .ok (.iconst 3, 1) := by decide +kernel
theorem dX5_recover_64 : decode cX5_recover 64 = .ok (.imul, 1) := by decide +kernel
theorem dX5_recover_65 : decode cX5_recover 65 = .ok (.istore_n 3, 1) := by decide +kernel
theorem dX5_recover_66 : decode cX5_recover 66 = .ok (.aload_n 0, 1) := by decide +kernel
theorem dX5_recover_67 : decode cX5_recover 67 = .ok (.getfield 46, 3) := by decide +kernel
theorem dX5_recover_70 : decode cX5_recover 70 = .ok (.aload_n 0, 1) := by decide +kernel
theorem dX5_recover_71 : decode cX5_recover 71 = .ok (.iload_n 2, 1) := by decide +kernel
theorem dX5_recover_72 : decode cX5_recover 72 = .ok (.invokevirtual 71, 3) := by decide +kernel
theorem dX5_recover_75 : decode cX5_recover 75 = .ok (.aload_n 0, 1) := by decide +kernel
theorem dX5_recover_76 : decode cX5_recover 76 = .ok (.getfield 18, 3) := by decide +kernel
theorem dX5_recover_79 : decode cX5_recover 79 = .ok (.iload_n 3, 1) := by decide +kernel
theorem dX5_recover_80 : decode cX5_recover 80 = .ok (.iaload, 1) := by decide +kernel
theorem dX5_recover_81 : decode cX5_recover 81 = .ok (.aload_n 0, 1) := by decide +kernel
theorem dX5_recover_82 : decode cX5_recover 82 = .ok (.getfield 18, 3) := by decide +kernel
theorem dX5_recover_85 : decode cX5_recover 85 = .ok (.iload_n 3, 1) := by decide +kernel
theorem dX5_recover_86 : decode cX5_recover 86 = .ok (.iconst 1, 1) := by decide +kernel
theorem dX5_recover_87 : decode cX5_recover 87 = .ok (.iadd, 1) := by decide +kernel
theorem dX5_recover_88 : decode cX5_recover 88 = .ok (.iaload, 1) := by decide +kernel
theorem dX5_recover_89 : decode cX5_recover 89 = .ok (.aload_n 0, 1) := by decide +kernel
theorem dX5_recover_90 : decode cX5_recover 90 = .ok (.getfield 18, 3) := by decide +kernel
theorem dX5_recover_93 : decode cX5_recover 93 = .ok (.iload_n 3, 1) := by decide +kernel
theorem dX5_recover_94 : decode cX5_recover 94 = .ok (.iconst 2, 1) := by decide +kernel
theorem dX5_recover_95 : decode cX5_recover 95 = .ok (.iadd, 1) := by decide +kernel
theorem dX5_recover_96 : decode cX5_recover 96 = .ok (.iaload, 1) := by decide +kernel
theorem dX5_recover_97 : decode cX5_recover 97 = .ok (.invokevirtual 75, 3) := by decide +kernel
theorem dX5_recover_100 : decode cX5_recover 100 = .ok (.pop, 1) := by decide +kernel
theorem dX5_recover_101 : decode cX5_recover 101 = .ok (.iinc 2 1, 3) := by decide +kernel
theorem dX5_recover_104 : decode cX5_recover 104 = .ok (.goto (-50), 3) := by decide +kernel
theorem dX5_recover_107 : decode cX5_recover 107 = .ok (.aload_n 0, 1) := by decide +kernel
theorem dX5_recover_108 : decode cX5_recover 108 = .ok (.invokevirtual 79, 3) := by decide +kernel
theorem dX5_recover_111 : decode cX5_recover 111 = .ok (.ireturn, 1) := by decide +kernel
set_option maxRecDepth 20000 in
theorem ggX5_askPowers_X1_answer : GoodIn wsX5_askPowers wsX1_answer := goodIn_r _ [7, 8, 9, 10, 11, 12, 13, 14, 6, 15, 16, 17, 18, 19, 20, 21, 22, 23, 24, 25, 26, 27, 28, 29, 30, 31, 32, 33, 34, 35, 36, 37, 38, 39, 40, 41, 42, 43, 53, 54, 55, 56, 57, 58, 59, 60, 61, 62, 63, 64] (by decide +kernel) (by decide +kernel)
set_option maxRecDepth 20000 in
theorem gX5_askPowers_X1_answer : GoodIn wsX5_askPowers (wsV RX5 82 RX1 yX1_answer wsX1_answer) := goodIn_app (goodIn_of _ (by decide +kernel)) ggX5_askPowers_X1_answer
set_option maxRecDepth 20000 in
theorem ggX5_askPowers_X4_times : GoodIn wsX5_askPowers wsX4_times := goodIn_r _ [42, 34, 60, 61] (by decide +kernel) (by decide +kernel)
set_option maxRecDepth 20000 in
theorem gX5_askPowers_X4_times : GoodIn wsX5_askPowers (wsV RX5 86 RX4 yX4_times wsX4_times) := goodIn_app (goodIn_of _ (by decide +kernel)) ggX5_askPowers_X4_times
theorem dX5_askPowers_0 : decode cX5_askPowers 0 = .ok (.iconst 1, 1) := by decide +kernel
theorem dX5_askPowers_1 : decode cX5_askPowers 1 = .ok (.istore_n 2, 1) := by decide +kernel
theorem dX5_askPowers_2 : decode cX5_askPowers 2 = .ok (.iconst 1, 1) := by decide +kernel
theorem dX5_askPowers_3 : decode cX5_askPowers 3 = .ok (.istore_n 3, 1) := by decide +kernel
theorem dX5_askPowers_4 : decode cX5_askPowers 4 = .ok (.iconst 1, 1) := by decide +kernel
theorem dX5_askPowers_5 : decode cX5_askPowers 5 = .ok (.istore 4, 2) := by decide +kernel
theorem dX5_askPowers_7 : decode cX5_askPowers 7 = .ok (.iconst 0, 1) := by decide +kernel
theorem dX5_askPowers_8 : decode cX5_askPowers 8 = .ok (.istore 5, 2) := by decide +kernel
theorem dX5_askPowers_10 : decode cX5_askPowers 10 = .ok (.iload 5, 2) := by decide +kernel
theorem dX5_askPowers_12 : decode cX5_askPowers 12 = .ok (.aload_n 0, 1) := by decide +kernel
theorem dX5_askPowers_13 : decode cX5_askPowers 13 = .ok (.getfield 11, 3) := by decide +kernel
theorem dX5_askPowers_16 : decode cX5_askPowers 16 = .ok (.arraylength, 1) := by decide +kernel
theorem dX5_askPowers_17 : decode cX5_askPowers 17 = .ok (.if_icmp .ge 56, 3) := by decide +kernel
theorem dX5_askPowers_20 : decode cX5_askPowers 20 = .ok (.aload_n 0, 1) := by decide +kernel
theorem dX5_askPowers_21 : decode cX5_askPowers 21 = .ok (.getfield 11, 3) := by decide +kernel
theorem dX5_askPowers_24 : decode cX5_askPowers 24 = .ok (.iload 5, 2) := by decide +kernel
theorem dX5_askPowers_26 : decode cX5_askPowers 26 = .ok (.aload_n 1, 1) := by decide +kernel
theorem dX5_askPowers_27 : decode cX5_askPowers 27 = .ok (.iload_n 2, 1) := by decide +kernel
theorem dX5_askPowers_28 : decode cX5_askPowers 28 = .ok (.iload_n 3, 1) := by decide +kernel
theorem dX5_askPowers_29 : decode cX5_askPowers 29 = .ok (.iload 4, 2) := by decide +kernel
theorem dX5_askPowers_31 : decode cX5_askPowers 31 = .ok (.invokevirtual 82, 3) := by decide +kernel
theorem dX5_askPowers_34 : decode cX5_askPowers 34 = .ok (.iastore, 1) := by decide +kernel
theorem dX5_askPowers_35 : decode cX5_askPowers 35 = .ok (.aload_n 0, 1) := by decide +kernel
theorem dX5_askPowers_36 : decode cX5_askPowers 36 = .ok (.getfield 28, 3) := by decide +kernel
theorem dX5_askPowers_39 : decode cX5_askPowers 39 = .ok (.iload_n 2, 1) := by decide +kernel
theorem dX5_askPowers_40 : decode cX5_askPowers 40 = .ok (.iconst 2, 1) := by decide +kernel
theorem dX5_askPowers_41 : decode cX5_askPowers 41 = .ok (.invokevirtual 86, 3) := by decide +kernel
theorem dX5_askPowers_44 : decode cX5_askPowers 44 = .ok (.istore_n 2, 1) := by decide +kernel
theorem dX5_askPowers_45 : decode cX5_askPowers 45 = .ok (.aload_n 0, 1) := by decide +kernel
theorem dX5_askPowers_46 : decode cX5_askPowers 46 = .ok (.getfield 28, 3) := by decide +kernel
theorem dX5_askPowers_49 : decode cX5_askPowers 49 = .ok (.iload_n 3, 1) := by decide +kernel
theorem dX5_askPowers_50 : decode cX5_askPowers 50 = .ok (.iconst 3, 1) := by decide +kernel
theorem dX5_askPowers_51 : decode cX5_askPowers 51 = .ok (.invokevirtual 86, 3) := by decide +kernel
theorem dX5_askPowers_54 : decode cX5_askPowers 54 = .ok (.istore_n 3, 1) := by decide +kernel
theorem dX5_askPowers_55 : decode cX5_askPowers 55 = .ok (.aload_n 0, 1) := by decide +kernel
theorem dX5_askPowers_56 : decode cX5_askPowers 56 = .ok (.getfield 28, 3) := by decide +kernel
theorem dX5_askPowers_59 : decode cX5_askPowers 59 = .ok (.iload 4, 2) := by decide +kernel
theorem dX5_askPowers_61 : decode cX5_askPowers 61 = .ok (.iconst 5, 1) := by decide +kernel
theorem dX5_askPowers_62 : decode cX5_askPowers 62 = .ok (.invokevirtual 86, 3) := by decide +kernel
theorem dX5_askPowers_65 : decode cX5_askPowers 65 = .ok (.istore 4, 2) := by decide +kernel
theorem dX5_askPowers_67 : decode cX5_askPowers 67 = .ok (.iinc 5 1, 3) := by decide +kernel
theorem dX5_askPowers_70 : decode cX5_askPowers 70 = .ok (.goto (-60), 3) := by decide +kernel
theorem dX5_askPowers_73 : decode cX5_askPowers 73 = .ok (.return_, 1) := by decide +kernel
set_option maxRecDepth 20000 in
theorem ggX5_findKeys_X5_isRoot : GoodIn wsX5_findKeys wsX5_isRoot := goodIn_r _ [8, 3, 2, 9, 10, 11, 12, 13, 14, 15, 16, 17, 18, 19, 20, 21, 22, 23, 24, 25, 26, 33, 34, 35, 36, 37, 38, 39, 40, 41, 42, 43, 44, 45, 46, 47, 48, 49, 50] (by decide +kernel) (by decide +kernel)
set_option maxRecDepth 20000 in
theorem gX5_findKeys_X5_isRoot : GoodIn wsX5_findKeys (wsV RX5 92 RX5 yX5_isRoot wsX5_isRoot) := goodIn_app (goodIn_of _ (by decide +kernel)) ggX5_findKeys_X5_isRoot
set_option maxRecDepth 20000 in
theorem ggX5_findKeys_X5_addKey : GoodIn wsX5_findKeys wsX5_addKey := goodIn_r _ [30, 1, 3, 31, 32, 33, 34, 35, 36, 37, 38, 39, 40, 41, 42, 43, 44, 45, 46, 47, 48] (by decide +kernel) (by decide +kernel)
set_option maxRecDepth 20000 in
theorem gX5_findKeys_X5_addKey : GoodIn wsX5_findKeys (wsV RX5 96 RX5 yX5_addKey wsX5_addKey) := goodIn_app (goodIn_of _ (by decide +kernel)) ggX5_findKeys_X5_addKey
set_option maxRecDepth 20000 in
theorem ggX5_findKeys_X4_times : GoodIn wsX5_findKeys wsX4_times := goodIn_r _ [13, 14, 49, 50] (by decide +kernel) (by decide +kernel)
set_option maxRecDepth 20000 in
theorem gX5_findKeys_X4_times : GoodIn wsX5_findKeys (wsV RX5 86 RX4 yX4_times wsX4_times) := goodIn_app (goodIn_of _ (by decide +kernel)) ggX5_findKeys_X4_times
theorem dX5_findKeys_0 : decode cX5_findKeys 0 = .ok (.aload_n 0, 1) := by decide +kernel
theorem dX5_findKeys_1 : decode cX5_findKeys 1 = .ok (.iconst 0, 1) := by decide +kernel
theorem dX5_findKeys_2 : decode cX5_findKeys 2 = .ok (.putfield 24, 3) := by decide +kernel
theorem dX5_findKeys_5 : decode cX5_findKeys 5 = .ok (.iconst 1, 1) := by decide +kernel
theorem dX5_findKeys_6 : decode cX5_findKeys 6 = .ok (.istore_n 1, 1) := by decide +kernel
theorem dX5_findKeys_7 : decode cX5_findKeys 7 = .ok (.iconst 0, 1) := by decide +kernel
theorem dX5_findKeys_8 : decode cX5_findKeys 8 = .ok (.istore_n 2, 1) := by decide +kernel
theorem dX5_findKeys_9 : decode cX5_findKeys 9 = .ok (.iload_n 2, 1) := by decide +kernel
theorem dX5_findKeys_10 : decode cX5_findKeys 10 = .ok (.iconst 4, 1) := by decide +kernel
theorem dX5_findKeys_11 : decode cX5_findKeys 11 = .ok (.if_icmp .gt 101, 3) := by decide +kernel
theorem dX5_findKeys_14 : decode cX5_findKeys 14 = .ok (.iload_n 1, 1) := by decide +kernel
theorem dX5_findKeys_15 : decode cX5_findKeys 15 = .ok (.istore_n 3, 1) := by decide +kernel
theorem dX5_findKeys_16 : decode cX5_findKeys 16 = .ok (.iconst 0, 1) := by decide +kernel
theorem dX5_findKeys_17 : decode cX5_findKeys 17 = .ok (.istore 4, 2) := by decide +kernel
theorem dX5_findKeys_19 : decode cX5_findKeys 19 = .ok (.iload 4, 2) := by decide +kernel
theorem dX5_findKeys_21 : decode cX5_findKeys 21 = .ok (.iconst 4, 1) := by decide +kernel
theorem dX5_findKeys_22 : decode cX5_findKeys 22 = .ok (.if_icmp .gt 74, 3) := by decide +kernel
theorem dX5_findKeys_25 : decode cX5_findKeys 25 = .ok (.iload_n 3, 1) := by decide +kernel
theorem dX5_findKeys_26 : decode cX5_findKeys 26 = .ok (.istore 5, 2) := by decide +kernel
theorem dX5_findKeys_28 : decode cX5_findKeys 28 = .ok (.iconst 0, 1) := by decide +kernel
theorem dX5_findKeys_29 : decode cX5_findKeys 29 = .ok (.istore 6, 2) := by decide +kernel
theorem dX5_findKeys_31 : decode cX5_findKeys 31 = .ok (.iload 6, 2) := by decide +kernel
theorem dX5_findKeys_33 : decode cX5_findKeys 33 = .ok (.iconst 4, 1) := by decide +kernel
theorem dX5_findKeys_34 : decode cX5_findKeys 34 = .ok (.if_icmp .gt 46, 3) := by decide +kernel
theorem dX5_findKeys_37 : decode cX5_findKeys 37 = .ok (.aload_n 0, 1) := by decide +kernel
theorem dX5_findKeys_38 : decode cX5_findKeys 38 = .ok (.iload 5, 2) := by decide +kernel
theorem dX5_findKeys_40 : decode cX5_findKeys 40 = .ok (.invokevirtual 92, 3) := by decide +kernel
theorem dX5_findKeys_43 : decode cX5_findKeys 43 = .ok (.ifCond .eq 19, 3) := by decide +kernel
theorem dX5_findKeys_46 : decode cX5_findKeys 46 = .ok (.aload_n 0, 1) := by decide +kernel
theorem dX5_findKeys_47 : decode cX5_findKeys 47 = .ok (.iload 5, 2) := by decide +kernel
theorem dX5_findKeys_49 : decode cX5_findKeys 49 = .ok (.iload_n 2, 1) := by decide +kernel
theorem dX5_findKeys_50 : decode cX5_findKeys 50 = .ok (.iload 4, 2) := by decide +kernel
theorem dX5_findKeys_52 : decode cX5_findKeys 52 = .ok (.iload 6, 2) := by decide +kernel
theorem dX5_findKeys_54 : decode cX5_findKeys 54 = .ok (.invokevirtual 96, 3) := by decide +kernel
theorem dX5_findKeys_57 : decode cX5_findKeys 57 = .ok (.ifCond .ne 5, 3) := by decide +kernel
theorem dX5_findKeys_60 : decode cX5_findKeys 60 = .ok (.iconst 0, 1) := by decide +kernel
theorem dX5_findKeys_61 : decode cX5_findKeys 61 = .ok (.ireturn, 1) := by decide +kernel
theorem dX5_findKeys_62 : decode cX5_findKeys 62 = .ok (.aload_n 0, 1) := by decide +kernel
theorem dX5_findKeys_63 : decode cX5_findKeys 63 = .ok (.getfield 28, 3) := by decide +kernel
theorem dX5_findKeys_66 : decode cX5_findKeys 66 = .ok (.iload 5, 2) := by decide +kernel
theorem dX5_findKeys_68 : decode cX5_findKeys 68 = .ok (.iconst 5, 1) := by decide +kernel
theorem dX5_findKeys_69 : decode cX5_findKeys 69 = .ok (.invokevirtual 86, 3) := by decide +kernel
theorem dX5_findKeys_72 : decode cX5_findKeys 72 = .ok (.istore 5, 2) := by decide +kernel
theorem dX5_findKeys_74 : decode cX5_findKeys 74 = .ok (.iinc 6 1, 3) := by decide +kernel
theorem dX5_findKeys_77 : decode cX5_findKeys 77 = .ok (.goto (-46), 3) := by decide +kernel
theorem dX5_findKeys_80 : decode cX5_findKeys 80 = .ok (.aload_n 0, 1) := by decide +kernel
theorem dX5_findKeys_81 : decode cX5_findKeys 81 = .ok (.getfield 28, 3) := by decide +kernel
theorem dX5_findKeys_84 : decode cX5_findKeys 84 = .ok (.iload_n 3, 1) := by decide +kernel
theorem dX5_findKeys_85 : decode cX5_findKeys 85 = .ok (.iconst 3, 1) := by decide +kernel
theorem dX5_findKeys_86 : decode cX5_findKeys 86 = .ok (.invokevirtual 86, 3) := by decide +kernel
theorem dX5_findKeys_89 : decode cX5_findKeys 89 = .ok (.istore_n 3, 1) := by decide +kernel
theorem dX5_findKeys_90 : decode cX5_findKeys 90 = .ok (.iinc 4 1, 3) := by decide +kernel
theorem dX5_findKeys_93 : decode cX5_findKeys 93 = .ok (.goto (-74), 3) := by decide +kernel
theorem dX5_findKeys_96 : decode cX5_findKeys 96 = .ok (.aload_n 0, 1) := by decide +kernel
theorem dX5_findKeys_97 : decode cX5_findKeys 97 = .ok (.getfield 28, 3) := by decide +kernel
theorem dX5_findKeys_100 : decode cX5_findKeys 100 = .ok (.iload_n 1, 1) := by decide +kernel
theorem dX5_findKeys_101 : decode cX5_findKeys 101 = .ok (.iconst 2, 1) := by decide +kernel
theorem dX5_findKeys_102 : decode cX5_findKeys 102 = .ok (.invokevirtual 86, 3) := by decide +kernel
theorem dX5_findKeys_105 : decode cX5_findKeys 105 = .ok (.istore_n 1, 1) := by decide +kernel
theorem dX5_findKeys_106 : decode cX5_findKeys 106 = .ok (.iinc 2 1, 3) := by decide +kernel
theorem dX5_findKeys_109 : decode cX5_findKeys 109 = .ok (.goto (-100), 3) := by decide +kernel
theorem dX5_findKeys_112 : decode cX5_findKeys 112 = .ok (.aload_n 0, 1) := by decide +kernel
theorem dX5_findKeys_113 : decode cX5_findKeys 113 = .ok (.getfield 24, 3) := by decide +kernel
theorem dX5_findKeys_116 : decode cX5_findKeys 116 = .ok (.aload_n 0, 1) := by decide +kernel
theorem dX5_findKeys_117 : decode cX5_findKeys 117 = .ok (.getfield 37, 3) := by decide +kernel
theorem dX5_findKeys_120 : decode cX5_findKeys 120 = .ok (.getfield 61, 3) := by decide +kernel
theorem dX5_findKeys_123 : decode cX5_findKeys 123 = .ok (.if_icmp .ne 7, 3) := by decide +kernel
theorem dX5_findKeys_126 : decode cX5_findKeys 126 = .ok (.iconst 1, 1) := by decide +kernel
theorem dX5_findKeys_127 : decode cX5_findKeys 127 = .ok (.goto 4, 3) := by decide +kernel
theorem dX5_findKeys_130 : decode cX5_findKeys 130 = .ok (.iconst 0, 1) := by decide +kernel
theorem dX5_findKeys_131 : decode cX5_findKeys 131 = .ok (.ireturn, 1) := by decide +kernel
set_option maxRecDepth 20000 in
theorem ggX5_isRoot_X4_times : GoodIn wsX5_isRoot wsX4_times := goodIn_r _ [7, 8, 37, 38] (by decide +kernel) (by decide +kernel)
set_option maxRecDepth 20000 in
theorem gX5_isRoot_X4_times : GoodIn wsX5_isRoot (wsV RX5 86 RX4 yX4_times wsX4_times) := goodIn_app (goodIn_of _ (by decide +kernel)) ggX5_isRoot_X4_times
set_option maxRecDepth 20000 in
theorem ggX5_isRoot_X6_weight : GoodIn wsX5_isRoot wsX6_weight := goodIn_r _ [13, 14, 15, 16, 17, 18, 6, 19, 8, 29, 30, 31, 32, 33, 34, 35, 36, 37, 38] (by decide +kernel) (by decide +kernel)
set_option maxRecDepth 20000 in
theorem gX5_isRoot_X6_weight : GoodIn wsX5_isRoot (wsV RX5 99 RX6 yX6_weight wsX6_weight) := goodIn_app (goodIn_of _ (by decide +kernel)) ggX5_isRoot_X6_weight
set_option maxRecDepth 20000 in
theorem ggX5_isRoot_X4_less : GoodIn wsX5_isRoot wsX4_less := goodIn_r _ [19, 8, 37, 38] (by decide +kernel) (by decide +kernel)
set_option maxRecDepth 20000 in
theorem gX5_isRoot_X4_less : GoodIn wsX5_isRoot (wsV RX5 102 RX4 yX4_less wsX4_less) := goodIn_app (goodIn_of _ (by decide +kernel)) ggX5_isRoot_X4_less
theorem dX5_isRoot_0 : decode cX5_isRoot 0 = .ok (.iconst 1, 1) := by decide +kernel
theorem dX5_isRoot_1 : decode cX5_isRoot 1 = .ok (.istore_n 2, 1) := by decide +kernel
theorem dX5_isRoot_2 : decode cX5_isRoot 2 = .ok (.iconst 1, 1) := by decide +kernel
theorem dX5_isRoot_3 : decode cX5_isRoot 3 = .ok (.istore_n 3, 1) := by decide +kernel
theorem dX5_isRoot_4 : decode cX5_isRoot 4 = .ok (.iload_n 3, 1) := by decide +kernel
theorem dX5_isRoot_5 : decode cX5_isRoot 5 = .ok (.aload_n 0, 1) := by decide +kernel
theorem dX5_isRoot_6 : decode cX5_isRoot 6 = .ok (.getfield 37, 3) := by decide +kernel
theorem dX5_isRoot_9 : decode cX5_isRoot 9 = .ok (.getfield 61, 3) := by decide +kernel
theorem dX5_isRoot_12 : decode cX5_isRoot 12 = .ok (.if_icmp .gt 34, 3) := by decide +kernel
theorem dX5_isRoot_15 : decode cX5_isRoot 15 = .ok (.aload_n 0, 1) := by decide +kernel
theorem dX5_isRoot_16 : decode cX5_isRoot 16 = .ok (.getfield 28, 3) := by decide +kernel
theorem dX5_isRoot_19 : decode cX5_isRoot 19 = .ok (.aload_n 0, 1) := by decide +kernel
theorem dX5_isRoot_20 : decode cX5_isRoot 20 = .ok (.getfield 28, 3) := by decide +kernel
theorem dX5_isRoot_23 : decode cX5_isRoot 23 = .ok (.iload_n 2, 1) := by decide +kernel
theorem dX5_isRoot_24 : decode cX5_isRoot 24 = .ok (.iload_n 1, 1) := by decide +kernel
theorem dX5_isRoot_25 : decode cX5_isRoot 25 = .ok (.invokevirtual 86, 3) := by decide +kernel
theorem dX5_isRoot_28 : decode cX5_isRoot 28 = .ok (.aload_n 0, 1) := by decide +kernel
theorem dX5_isRoot_29 : decode cX5_isRoot 29 = .ok (.getfield 37, 3) := by decide +kernel
theorem dX5_isRoot_32 : decode cX5_isRoot 32 = .ok (.iload_n 3, 1) := by decide +kernel
theorem dX5_isRoot_33 : decode cX5_isRoot 33 = .ok (.invokevirtual 99, 3) := by decide +kernel
theorem dX5_isRoot_36 : decode cX5_isRoot 36 = .ok (.invokevirtual 102, 3) := by decide +kernel
theorem dX5_isRoot_39 : decode cX5_isRoot 39 = .ok (.istore_n 2, 1) := by decide +kernel
theorem dX5_isRoot_40 : decode cX5_isRoot 40 = .ok (.iinc 3 1, 3) := by decide +kernel
theorem dX5_isRoot_43 : decode cX5_isRoot 43 = .ok (.goto (-39), 3) := by decide +kernel
theorem dX5_isRoot_46 : decode cX5_isRoot 46 = .ok (.iload_n 2, 1) := by decide +kernel
theorem dX5_isRoot_47 : decode cX5_isRoot 47 = .ok (.ifCond .ne 7, 3) := by decide +kernel
theorem dX5_isRoot_50 : decode cX5_isRoot 50 = .ok (.iconst 1, 1) := by decide +kernel
theorem dX5_isRoot_51 : decode cX5_isRoot 51 = .ok (.goto 4, 3) := by decide +kernel
theorem dX5_isRoot_54 : decode cX5_isRoot 54 = .ok (.iconst 0, 1) := by decide +kernel
theorem dX5_isRoot_55 : decode cX5_isRoot 55 = .ok (.ireturn, 1) := by decide +kernel
theorem dX5_addKey_0 : decode cX5_addKey 0 = .ok (.aload_n 0, 1) := by decide +kernel
theorem dX5_addKey_1 : decode cX5_addKey 1 = .ok (.getfield 24, 3) := by decide +kernel
theorem dX5_addKey_4 : decode cX5_addKey 4 = .ok (.aload_n 0, 1) := by decide +kernel
theorem dX5_addKey_5 : decode cX5_addKey 5 = .ok (.getfield 37, 3) := by decide +kernel
theorem dX5_addKey_8 : decode cX5_addKey 8 = .ok (.getfield 61, 3) := by decide +kernel
theorem dX5_addKey_11 : decode cX5_addKey 11 = .ok (.if_icmp .ge 11, 3) := by decide +kernel
theorem dX5_addKey_14 : decode cX5_addKey 14 = .ok (.aload_n 0, 1) := by decide +kernel
theorem dX5_addKey_15 : decode cX5_addKey 15 = .ok (.getfield 24, 3) := by decide +kernel
theorem dX5_addKey_18 : decode cX5_addKey 18 = .ok (.iconst 4, 1) := by decide +kernel
theorem dX5_addKey_19 : decode cX5_addKey 19 = .ok (.if_icmp .lt 5, 3) := by decide +kernel
theorem dX5_addKey_22 : decode cX5_addKey 22 = .ok (.iconst 0, 1) := by decide +kernel
theorem dX5_addKey_23 : decode cX5_addKey 23 = .ok (.ireturn, 1) := by decide +kernel
theorem dX5_addKey_24 : decode cX5_addKey 24 = .ok (.aload_n 0, 1) := by decide +kernel
theorem dX5_addKey_25 : decode cX5_addKey 25 = .ok (.getfield 15, 3) := by decide +kernel
theorem dX5_addKey_28 : decode cX5_addKey 28 = .ok (.aload_n 0, 1) := by decide +kernel
theorem dX5_addKey_29 : decode cX5_addKey 29 = .ok (.getfield 24, 3) := by decide +kernel
theorem dX5_addKey_32 : decode cX5_addKey 32 = .ok (.iload_n 1, 1) := by decide +kernel
theorem dX5_addKey_33 : decode cX5_addKey 33 = .ok (.iastore, 1) := by decide +kernel
theorem dX5_addKey_34 : decode cX5_addKey 34 = .ok (.aload_n 0, 1) := by decide +kernel
theorem dX5_addKey_35 : decode cX5_addKey 35 = .ok (.getfield 18, 3) := by decide +kernel
theorem dX5_addKey_38 : decode cX5_addKey 38 = .ok (.aload_n 0, 1) := by decide +kernel
theorem dX5_addKey_39 : decode cX5_addKey 39 = .ok (.getfield 24, 3) := by decide +kernel
theorem dX5_addKey_42 : decode cX5_addKey 42 = .ok (.iconst 3, 1) := by decide +kernel
theorem dX5_addKey_43 : decode cX5_addKey 43 = .ok (.imul, 1) := by decide +kernel
theorem dX5_addKey_44 : decode cX5_addKey 44 = .ok (.iload_n 2, 1) := by decide +kernel
theorem dX5_addKey_45 : decode cX5_addKey 45 = .ok (.iastore, 1) := by decide +kernel
theorem dX5_addKey_46 : decode cX5_addKey 46 = .ok (.aload_n 0, 1) := by decide +kernel
theorem dX5_addKey_47 : decode cX5_addKey 47 = .ok (.getfield 18, 3) := by decide +kernel
theorem dX5_addKey_50 : decode cX5_addKey 50 = .ok (.aload_n 0, 1) := by decide +kernel
theorem dX5_addKey_51 : decode cX5_addKey 51 = .ok (.getfield 24, 3) := by decide +kernel
theorem dX5_addKey_54 : decode cX5_addKey 54 = .ok (.iconst 3, 1) := by decide +kernel
theorem dX5_addKey_55 : decode cX5_addKey 55 = .ok (.imul, 1) := by decide +kernel
theorem dX5_addKey_56 : decode cX5_addKey 56 = .ok (.iconst 1, 1) := by decide +kernel
theorem dX5_addKey_57 : decode cX5_addKey 57 = .ok (.iadd, 1) := by decide +kernel
theorem dX5_addKey_58 : decode cX5_addKey 58 = .ok (.iload_n 3, 1) := by decide +kernel
theorem dX5_addKey_59 : decode cX5_addKey 59 = .ok (.iastore, 1) := by decide +kernel
theorem dX5_addKey_60 : decode cX5_addKey 60 = .ok (.aload_n 0, 1) := by decide +kernel
theorem dX5_addKey_61 : decode cX5_addKey 61 = .ok (.getfield 18, 3) := by decide +kernel
theorem dX5_addKey_64 : decode cX5_addKey 64 = .ok (.aload_n 0, 1) := by decide +kernel
theorem dX5_addKey_65 : decode cX5_addKey 65 = .ok (.getfield 24, 3) := by decide +kernel
theorem dX5_addKey_68 : decode cX5_addKey 68 = .ok (.iconst 3, 1) := by decide +kernel
theorem dX5_addKey_69 : decode cX5_addKey 69 = .ok (.imul, 1) := by decide +kernel
theorem dX5_addKey_70 : decode cX5_addKey 70 = .ok (.iconst 2, 1) := by decide +kernel
theorem dX5_addKey_71 : decode cX5_addKey 71 = .ok (.iadd, 1) := by decide +kernel
theorem dX5_addKey_72 : decode cX5_addKey 72 = .ok (.iload 4, 2) := by decide +kernel
theorem dX5_addKey_74 : decode cX5_addKey 74 = .ok (.iastore, 1) := by decide +kernel
theorem dX5_addKey_75 : decode cX5_addKey 75 = .ok (.aload_n 0, 1) := by decide +kernel
theorem dX5_addKey_76 : decode cX5_addKey 76 = .ok (.dup, 1) := by decide +kernel
theorem dX5_addKey_77 : decode cX5_addKey 77 = .ok (.getfield 24, 3) := by decide +kernel
theorem dX5_addKey_80 : decode cX5_addKey 80 = .ok (.iconst 1, 1) := by decide +kernel
theorem dX5_addKey_81 : decode cX5_addKey 81 = .ok (.iadd, 1) := by decide +kernel
theorem dX5_addKey_82 : decode cX5_addKey 82 = .ok (.putfield 24, 3) := by decide +kernel
theorem dX5_addKey_85 : decode cX5_addKey 85 = .ok (.iconst 1, 1) := by decide +kernel
theorem dX5_addKey_86 : decode cX5_addKey 86 = .ok (.ireturn, 1) := by decide +kernel
theorem dX5_keysDiffer_0 : decode cX5_keysDiffer 0 = .ok (.iconst 0, 1) := by decide +kernel
theorem dX5_keysDiffer_1 : decode cX5_keysDiffer 1 = .ok (.istore_n 1, 1) := by decide +kernel
theorem dX5_keysDiffer_2 : decode cX5_keysDiffer 2 = .ok (.iload_n 1, 1) := by decide +kernel
theorem dX5_keysDiffer_3 : decode cX5_keysDiffer 3 = .ok (.aload_n 0, 1) := by decide +kernel
theorem dX5_keysDiffer_4 : decode cX5_keysDiffer 4 = .ok (.getfield 24, 3) := by decide +kernel
theorem dX5_keysDiffer_7 : decode cX5_keysDiffer 7 = .ok (.if_icmp .ge 39, 3) := by decide +kernel
theorem dX5_keysDiffer_10 : decode cX5_keysDiffer 10 = .ok (.iconst 0, 1) := by decide +kernel
theorem dX5_keysDiffer_11 : decode cX5_keysDiffer 11 = .ok (.istore_n 2, 1) := by decide +kernel
theorem dX5_keysDiffer_12 : decode cX5_keysDiffer 12 = .ok (.iload_n 2, 1) := by decide +kernel
theorem dX5_keysDiffer_13 : decode cX5_keysDiffer 13 = .ok (.iload_n 1, 1) := by decide +kernel
theorem dX5_keysDiffer_14 : decode cX5_keysDiffer 14 = .ok (.if_icmp .ge 26, 3) := by decide +kernel
theorem dX5_keysDiffer_17 : decode cX5_keysDiffer 17 = .ok (.aload_n 0, 1) := by decide +kernel
theorem dX5_keysDiffer_18 : decode cX5_keysDiffer 18 = .ok (.getfield 15, 3) := by decide +kernel
theorem dX5_keysDiffer_21 : decode cX5_keysDiffer 21 = .ok (.iload_n 1, 1) := by decide +kernel
theorem dX5_keysDiffer_22 : decode cX5_keysDiffer 22 = .ok (.iaload, 1) := by decide +kernel
theorem dX5_keysDiffer_23 : decode cX5_keysDiffer 23 = .ok (.aload_n 0, 1) := by decide +kernel
theorem dX5_keysDiffer_24 : decode cX5_keysDiffer 24 = .ok (.getfield 15, 3) := by decide +kernel
theorem dX5_keysDiffer_27 : decode cX5_keysDiffer 27 = .ok (.iload_n 2, 1) := by decide +kernel
theorem dX5_keysDiffer_28 : decode cX5_keysDiffer 28 = .ok (.iaload, 1) := by decide +kernel
theorem dX5_keysDiffer_29 : decode cX5_keysDiffer 29 = .ok (.if_icmp .ne 5, 3) := by decide +kernel
theorem dX5_keysDiffer_32 : decode cX5_keysDiffer 32 = .ok (.iconst 0, 1) := by decide +kernel
theorem dX5_keysDiffer_33 : decode cX5_keysDiffer 33 = .ok (.ireturn, 1) := by decide +kernel
theorem dX5_keysDiffer_34 : decode cX5_keysDiffer 34 = .ok (.iinc 2 1, 3) := by decide +kernel
theorem dX5_keysDiffer_37 : decode cX5_keysDiffer 37 = .ok (.goto (-25), 3) := by decide +kernel
theorem dX5_keysDiffer_40 : decode cX5_keysDiffer 40 = .ok (.iinc 1 1, 3) := by decide +kernel
theorem dX5_keysDiffer_43 : decode cX5_keysDiffer 43 = .ok (.goto (-41), 3) := by decide +kernel
theorem dX5_keysDiffer_46 : decode cX5_keysDiffer 46 = .ok (.iconst 1, 1) := by decide +kernel
theorem dX5_keysDiffer_47 : decode cX5_keysDiffer 47 = .ok (.ireturn, 1) := by decide +kernel
set_option maxRecDepth 20000 in
theorem ggX5_coefficient_X5_multiplyOthers : GoodIn wsX5_coefficient wsX5_multiplyOthers := goodIn_r _ [10, 2, 1, 5, 11, 12, 13, 9, 14, 4, 15, 16, 17, 18, 19, 20, 21, 22, 23, 24, 34, 35, 36, 37, 38, 39, 40, 41, 42, 43] (by decide +kernel) (by decide +kernel)
set_option maxRecDepth 20000 in
theorem gX5_coefficient_X5_multiplyOthers : GoodIn wsX5_coefficient (wsV RX5 105 RX5 yX5_multiplyOthers wsX5_multiplyOthers) := goodIn_app (goodIn_of _ (by decide +kernel)) ggX5_coefficient_X5_multiplyOthers
set_option maxRecDepth 20000 in
theorem ggX5_coefficient_X4_times : GoodIn wsX5_coefficient wsX4_times := goodIn_r _ [19, 20, 42, 43] (by decide +kernel) (by decide +kernel)
set_option maxRecDepth 20000 in
theorem gX5_coefficient_X4_times : GoodIn wsX5_coefficient (wsV RX5 86 RX4 yX4_times wsX4_times) := goodIn_app (goodIn_of _ (by decide +kernel)) ggX5_coefficient_X4_times
set_option maxRecDepth 20000 in
theorem ggX5_coefficient_X4_plus : GoodIn wsX5_coefficient wsX4_plus := goodIn_r _ [28, 20, 42, 43] (by decide +kernel) (by decide +kernel)
set_option maxRecDepth 20000 in
theorem gX5_coefficient_X4_plus : GoodIn wsX5_coefficient (wsV RX5 109 RX4 yX4_plus wsX4_plus) := goodIn_app (goodIn_of _ (by decide +kernel)) ggX5_coefficient_X4_plus
set_option maxRecDepth 20000 in
theorem ggX5_coefficient_X4_over : GoodIn wsX5_coefficient wsX4_over := goodIn_r _ [32, 20, 33, 42, 43] (by decide +kernel) (by decide +kernel)
set_option maxRecDepth 20000 in
theorem gX5_coefficient_X4_over : GoodIn wsX5_coefficient (wsV RX5 115 RX4 yX4_over wsX4_over) := goodIn_app (goodIn_of _ (by decide +kernel)) ggX5_coefficient_X4_over
theorem dX5_coefficient_0 : decode cX5_coefficient 0 = .ok (.aload_n 0, 1) := by decide +kernel
theorem dX5_coefficient_1 : decode cX5_coefficient 1 = .ok (.iload_n 1, 1) := by decide +kernel
theorem dX5_coefficient_2 : decode cX5_coefficient 2 = .ok (.invokevirtual 105, 3) := by decide +kernel
theorem dX5_coefficient_5 : decode cX5_coefficient 5 = .ok (.iconst 0, 1) := by decide +kernel
theorem dX5_coefficient_6 : decode cX5_coefficient 6 = .ok (.istore_n 2, 1) := by decide +kernel
theorem dX5_coefficient_7 : decode cX5_coefficient 7 = .ok (.iconst 0, 1) := by decide +kernel
theorem dX5_coefficient_8 : decode cX5_coefficient 8 = .ok (.istore_n 3, 1) := by decide +kernel
theorem dX5_coefficient_9 : decode cX5_coefficient 9 = .ok (.aload_n 0, 1) := by decide +kernel
theorem dX5_coefficient_10 : decode cX5_coefficient 10 = .ok (.getfield 24, 3) := by decide +kernel
theorem dX5_coefficient_13 : decode cX5_coefficient 13 = .ok (.iconst 1, 1) := by decide +kernel
theorem dX5_coefficient_14 : decode cX5_coefficient 14 = .ok (.isub, 1) := by decide +kernel
theorem dX5_coefficient_15 : decode cX5_coefficient 15 = .ok (.istore 4, 2) := by decide +kernel
theorem dX5_coefficient_17 : decode cX5_coefficient 17 = .ok (.iload 4, 2) := by decide +kernel
theorem dX5_coefficient_19 : decode cX5_coefficient 19 = .ok (.ifCond .lt 56, 3) := by decide +kernel
theorem dX5_coefficient_22 : decode cX5_coefficient 22 = .ok (.iload_n 2, 1) := by decide +kernel
theorem dX5_coefficient_23 : decode cX5_coefficient 23 = .ok (.aload_n 0, 1) := by decide +kernel
theorem dX5_coefficient_24 : decode cX5_coefficient 24 = .ok (.getfield 21, 3) := by decide +kernel
theorem dX5_coefficient_27 : decode cX5_coefficient 27 = .ok (.iload 4, 2) := by decide +kernel
theorem dX5_coefficient_29 : decode cX5_coefficient 29 = .ok (.iaload, 1) := by decide +kernel
theorem dX5_coefficient_30 : decode cX5_coefficient 30 = .ok (.aload_n 0, 1) := by decide +kernel
theorem dX5_coefficient_31 : decode cX5_coefficient 31 = .ok (.getfield 11, 3) := by decide +kernel
theorem dX5_coefficient_34 : decode cX5_coefficient 34 = .ok (.iload 4, 2) := by decide +kernel
theorem dX5_coefficient_36 : decode cX5_coefficient 36 = .ok (.iaload, 1) := by decide +kernel
theorem dX5_coefficient_37 : decode cX5_coefficient 37 = .ok (.imul, 1) := by decide +kernel
theorem dX5_coefficient_38 : decode cX5_coefficient 38 = .ok (.iadd, 1) := by decide +kernel
theorem dX5_coefficient_39 : decode cX5_coefficient 39 = .ok (.istore_n 2, 1) := by decide +kernel
theorem dX5_coefficient_40 : decode cX5_coefficient 40 = .ok (.aload_n 0, 1) := by decide +kernel
theorem dX5_coefficient_41 : decode cX5_coefficient 41 = .ok (.getfield 28, 3) := by decide +kernel
theorem dX5_coefficient_44 : decode cX5_coefficient 44 = .ok (.aload_n 0, 1) := by decide +kernel
theorem dX5_coefficient_45 : decode cX5_coefficient 45 = .ok (.getfield 28, 3) := by decide +kernel
theorem dX5_coefficient_48 : decode cX5_coefficient 48 = .ok (.iload_n 3, 1) := by decide +kernel
theorem dX5_coefficient_49 : decode cX5_coefficient 49 = .ok (.aload_n 0, 1) := by decide +kernel
theorem dX5_coefficient_50 : decode cX5_coefficient 50 = .ok (.getfield 15, 3) := by decide +kernel
theorem dX5_coefficient_53 : decode cX5_coefficient 53 = .ok (.iload_n 1, 1) := by decide +kernel
theorem dX5_coefficient_54 : decode cX5_coefficient 54 = .ok (.iaload, 1) := by decide +kernel
theorem dX5_coefficient_55 : decode cX5_coefficient 55 = .ok (.invokevirtual 86, 3) := by decide +kernel
theorem dX5_coefficient_58 : decode cX5_coefficient 58 = .ok (.aload_n 0, 1) := by decide +kernel
theorem dX5_coefficient_59 : decode cX5_coefficient 59 = .ok (.getfield 21, 3) := by decide +kernel
theorem dX5_coefficient_62 : decode cX5_coefficient 62 = .ok (.iload 4, 2) := by decide +kernel
theorem dX5_coefficient_64 : decode cX5_coefficient 64 = .ok (.iaload, 1) := by decide +kernel
theorem dX5_coefficient_65 : decode cX5_coefficient 65 = .ok (.invokevirtual 109, 3) := by decide +kernel
theorem dX5_coefficient_68 : decode cX5_coefficient 68 = .ok (.istore_n 3, 1) := by decide +kernel
theorem dX5_coefficient_69 : decode cX5_coefficient 69 = .ok (.iinc 4 (-1), 3) := by decide +kernel
theorem dX5_coefficient_72 : decode cX5_coefficient 72 = .ok (.goto (-55), 3) := by decide +kernel
theorem dX5_coefficient_75 : decode cX5_coefficient 75 = .ok (.aload_n 0, 1) := by decide +kernel
theorem dX5_coefficient_76 : decode cX5_coefficient 76 = .ok (.getfield 28, 3) := by decide +kernel
theorem dX5_coefficient_79 : decode cX5_coefficient 79 = .ok (.iload_n 2, 1) := by decide +kernel
theorem dX5_coefficient_80 : decode cX5_coefficient 80 = .ok (.aload_n 0, 1) := by decide +kernel
theorem dX5_coefficient_81 : decode cX5_coefficient 81 = .ok (.getfield 28, 3) := by decide +kernel
theorem dX5_coefficient_84 : decode cX5_coefficient 84 = .ok (.getfield 112, 3) := by decide +kernel
theorem dX5_coefficient_87 : decode cX5_coefficient 87 = .ok (.irem, 1) := by decide +kernel
theorem dX5_coefficient_88 : decode cX5_coefficient 88 = .ok (.iload_n 3, 1) := by decide +kernel
theorem dX5_coefficient_89 : decode cX5_coefficient 89 = .ok (.invokevirtual 115, 3) := by decide +kernel
theorem dX5_coefficient_92 : decode cX5_coefficient 92 = .ok (.ireturn, 1) := by decide +kernel
set_option maxRecDepth 20000 in
theorem ggX5_multiplyOthers_X5_multiplyBy : GoodIn wsX5_multiplyOthers wsX5_multiplyBy := goodIn_r _ [8, 1, 9, 10, 11, 12, 13, 14, 15, 16, 17, 18, 19, 20, 21, 22, 23, 24, 25, 26, 27, 28, 29] (by decide +kernel) (by decide +kernel)
set_option maxRecDepth 20000 in
theorem gX5_multiplyOthers_X5_multiplyBy : GoodIn wsX5_multiplyOthers (wsV RX5 118 RX5 yX5_multiplyBy wsX5_multiplyBy) := goodIn_app (goodIn_of _ (by decide +kernel)) ggX5_multiplyOthers_X5_multiplyBy
theorem dX5_multiplyOthers_0 : decode cX5_multiplyOthers 0 = .ok (.iconst 0, 1) := by decide +kernel
theorem dX5_multiplyOthers_1 : decode cX5_multiplyOthers 1 = .ok (.istore_n 2, 1) := by decide +kernel
theorem dX5_multiplyOthers_2 : decode cX5_multiplyOthers 2 = .ok (.iload_n 2, 1) := by decide +kernel
theorem dX5_multiplyOthers_3 : decode cX5_multiplyOthers 3 = .ok (.aload_n 0, 1) := by decide +kernel
theorem dX5_multiplyOthers_4 : decode cX5_multiplyOthers 4 = .ok (.getfield 21, 3) := by decide +kernel
theorem dX5_multiplyOthers_7 : decode cX5_multiplyOthers 7 = .ok (.arraylength, 1) := by decide +kernel
theorem dX5_multiplyOthers_8 : decode cX5_multiplyOthers 8 = .ok (.if_icmp .ge 16, 3) := by decide +kernel
theorem dX5_multiplyOthers_11 : decode cX5_multiplyOthers 11 = .ok (.aload_n 0, 1) := by decide +kernel
theorem dX5_multiplyOthers_12 : decode cX5_multiplyOthers 12 = .ok (.getfield 21, 3) := by decide +kernel
theorem dX5_multiplyOthers_15 : decode cX5_multiplyOthers 15 = .ok (.iload_n 2, 1) := by decide +kernel
theorem dX5_multiplyOthers_16 : decode cX5_multiplyOthers 16 = .ok (.iconst 0, 1) := by decide +kernel
theorem dX5_multiplyOthers_17 : decode cX5_multiplyOthers 17 = .ok (.iastore, 1) := by decide +kernel
theorem dX5_multiplyOthers_18 : decode cX5_multiplyOthers 18 = .ok (.iinc 2 1, 3) := by decide +kernel
theorem dX5_multiplyOthers_21 : decode cX5_multiplyOthers 21 = .ok (.goto (-19), 3) := by decide +kernel
theorem dX5_multiplyOthers_24 : decode cX5_multiplyOthers 24 = .ok (.aload_n 0, 1) := by decide +kernel
theorem dX5_multiplyOthers_25 : decode cX5_multiplyOthers 25 = .ok (.getfield 21, 3) := by decide +kernel
theorem dX5_multiplyOthers_28 : decode cX5_multiplyOthers 28 = .ok (.iconst 0, 1) := by decide +kernel
theorem dX5_multiplyOthers_29 : decode cX5_multiplyOthers 29 = .ok (.iconst 1, 1) := by decide +kernel
theorem dX5_multiplyOthers_30 : decode cX5_multiplyOthers 30 = .ok (.iastore, 1) := by decide +kernel
theorem dX5_multiplyOthers_31 : decode cX5_multiplyOthers 31 = .ok (.iconst 0, 1) := by decide +kernel
theorem dX5_multiplyOthers_32 : decode cX5_multiplyOthers 32 = .ok (.istore_n 2, 1) := by decide +kernel
theorem dX5_multiplyOthers_33 : decode cX5_multiplyOthers 33 = .ok (.iload_n 2, 1) := by decide +kernel
theorem dX5_multiplyOthers_34 : decode cX5_multiplyOthers 34 = .ok (.aload_n 0, 1) := by decide +kernel
theorem dX5_multiplyOthers_35 : decode cX5_multiplyOthers 35 = .ok (.getfield 24, 3) := by decide +kernel
theorem dX5_multiplyOthers_38 : decode cX5_multiplyOthers 38 = .ok (.if_icmp .ge 24, 3) := by decide +kernel
theorem dX5_multiplyOthers_41 : decode cX5_multiplyOthers 41 = .ok (.iload_n 2, 1) := by decide +kernel
theorem dX5_multiplyOthers_42 : decode cX5_multiplyOthers 42 = .ok (.iload_n 1, 1) := by decide +kernel
theorem dX5_multiplyOthers_43 : decode cX5_multiplyOthers 43 = .ok (.if_icmp .eq 13, 3) := by decide +kernel
theorem dX5_multiplyOthers_46 : decode cX5_multiplyOthers 46 = .ok (.aload_n 0, 1) := by decide +kernel
theorem dX5_multiplyOthers_47 : decode cX5_multiplyOthers 47 = .ok (.aload_n 0, 1) := by decide +kernel
theorem dX5_multiplyOthers_48 : decode cX5_multiplyOthers 48 = .ok (.getfield 15, 3) := by decide +kernel
theorem dX5_multiplyOthers_51 : decode cX5_multiplyOthers 51 = .ok (.iload_n 2, 1) := by decide +kernel
theorem dX5_multiplyOthers_52 : decode cX5_multiplyOthers 52 = .ok (.iaload, 1) := by decide +kernel
theorem dX5_multiplyOthers_53 : decode cX5_multiplyOthers 53 = .ok (.invokevirtual 118, 3) := by decide +kernel
theorem dX5_multiplyOthers_56 : decode cX5_multiplyOthers 56 = .ok (.iinc 2 1, 3) := by decide +kernel
theorem dX5_multiplyOthers_59 : decode cX5_multiplyOthers 59 = .ok (.goto (-26), 3) := by decide +kernel
theorem dX5_multiplyOthers_62 : decode cX5_multiplyOthers 62 = .ok (.return_, 1) := by decide +kernel
set_option maxRecDepth 20000 in
theorem ggX5_multiplyBy_X4_times : GoodIn wsX5_multiplyBy wsX4_times := goodIn_r _ [7, 8, 21, 22] (by decide +kernel) (by decide +kernel)
set_option maxRecDepth 20000 in
theorem gX5_multiplyBy_X4_times : GoodIn wsX5_multiplyBy (wsV RX5 86 RX4 yX4_times wsX4_times) := goodIn_app (goodIn_of _ (by decide +kernel)) ggX5_multiplyBy_X4_times
set_option maxRecDepth 20000 in
theorem ggX5_multiplyBy_X4_less : GoodIn wsX5_multiplyBy wsX4_less := goodIn_r _ [12, 8, 21, 22] (by decide +kernel) (by decide +kernel)
set_option maxRecDepth 20000 in
theorem gX5_multiplyBy_X4_less : GoodIn wsX5_multiplyBy (wsV RX5 102 RX4 yX4_less wsX4_less) := goodIn_app (goodIn_of _ (by decide +kernel)) ggX5_multiplyBy_X4_less
theorem dX5_multiplyBy_0 : decode cX5_multiplyBy 0 = .ok (.aload_n 0, 1) := by decide +kernel
theorem dX5_multiplyBy_1 : decode cX5_multiplyBy 1 = .ok (.getfield 21, 3) := by decide +kernel
theorem dX5_multiplyBy_4 : decode cX5_multiplyBy 4 = .ok (.arraylength, 1) := by decide +kernel
theorem dX5_multiplyBy_5 : decode cX5_multiplyBy 5 = .ok (.iconst 1, 1) := by decide +kernel
theorem dX5_multiplyBy_6 : decode cX5_multiplyBy 6 = .ok (.isub, 1) := by decide +kernel
theorem dX5_multiplyBy_7 : decode cX5_multiplyBy 7 = .ok (.istore_n 2, 1) := by decide +kernel
theorem dX5_multiplyBy_8 : decode cX5_multiplyBy 8 = .ok (.iload_n 2, 1) := by decide +kernel
theorem dX5_multiplyBy_9 : decode cX5_multiplyBy 9 = .ok (.ifCond .lt 54, 3) := by decide +kernel
theorem dX5_multiplyBy_12 : decode cX5_multiplyBy 12 = .ok (.iload_n 2, 1) := by decide +kernel
theorem dX5_multiplyBy_13 : decode cX5_multiplyBy 13 = .ok (.ifCond .le 14, 3) := by decide +kernel
theorem dX5_multiplyBy_16 : decode cX5_multiplyBy 16 = .ok (.aload_n 0, 1) := by decide +kernel
theorem dX5_multiplyBy_17 : decode cX5_multiplyBy 17 = .ok (.getfield 21, 3) := by decide +kernel
theorem dX5_multiplyBy_20 : decode cX5_multiplyBy 20 = .ok (.iload_n 2, 1) := by decide +kernel
theorem dX5_multiplyBy_21 : decode cX5_multiplyBy 21 = .ok (.iconst 1, 1) := by decide +kernel
theorem dX5_multiplyBy_22 : decode cX5_multiplyBy 22 = .ok (.isub, 1) := by decide +kernel
theorem dX5_multiplyBy_23 : decode cX5_multiplyBy 23 = .ok (.iaload, 1) := by decide +kernel
theorem dX5_multiplyBy_24 : decode cX5_multiplyBy 24 = .ok (.goto 4, 3) := by decide +kernel
theorem dX5_multiplyBy_27 : decode cX5_multiplyBy 27 = .ok (.iconst 0, 1) := by decide +kernel
theorem dX5_multiplyBy_28 : decode cX5_multiplyBy 28 = .ok (.istore_n 3, 1) := by decide +kernel
theorem dX5_multiplyBy_29 : decode cX5_multiplyBy 29 = .ok (.aload_n 0, 1) := by decide +kernel
theorem dX5_multiplyBy_30 : decode cX5_multiplyBy 30 = .ok (.getfield 21, 3) := by decide +kernel
theorem dX5_multiplyBy_33 : decode cX5_multiplyBy 33 = .ok (.iload_n 2, 1) := by decide +kernel
theorem dX5_multiplyBy_34 : decode cX5_multiplyBy 34 = .ok (.aload_n 0, 1) := by decide +kernel
theorem dX5_multiplyBy_35 : decode cX5_multiplyBy 35 = .ok (.getfield 28, 3) := by decide +kernel
theorem dX5_multiplyBy_38 : decode cX5_multiplyBy 38 = .ok (.iload_n 3, 1) := by decide +kernel
theorem dX5_multiplyBy_39 : decode cX5_multiplyBy 39 = .ok (.aload_n 0, 1) := by decide +kernel
theorem dX5_multiplyBy_40 : decode cX5_multiplyBy 40 = .ok (.getfield 28, 3) := by decide +kernel
theorem dX5_multiplyBy_43 : decode cX5_multiplyBy 43 = .ok (.aload_n 0, 1) := by decide +kernel
theorem dX5_multiplyBy_44 : decode cX5_multiplyBy 44 = .ok (.getfield 21, 3) := by decide +kernel
theorem dX5_multiplyBy_47 : decode cX5_multiplyBy 47 = .ok (.iload_n 2, 1) := by decide +kernel
theorem dX5_multiplyBy_48 : decode cX5_multiplyBy 48 = .ok (.iaload, 1) := by decide +kernel
theorem dX5_multiplyBy_49 : decode cX5_multiplyBy 49 = .ok (.iload_n 1, 1) := by decide +kernel
theorem dX5_multiplyBy_50 : decode cX5_multiplyBy 50 = .ok (.invokevirtual 86, 3) := by decide +kernel
theorem dX5_multiplyBy_53 : decode cX5_multiplyBy 53 = .ok (.invokevirtual 102, 3) := by decide +kernel
theorem dX5_multiplyBy_56 : decode cX5_multiplyBy 56 = .ok (.iastore, 1) := by decide +kernel
theorem dX5_multiplyBy_57 : decode cX5_multiplyBy 57 = .ok (.iinc 2 (-1), 3) := by decide +kernel
theorem dX5_multiplyBy_60 : decode cX5_multiplyBy 60 = .ok (.goto (-52), 3) := by decide +kernel
theorem dX5_multiplyBy_63 : decode cX5_multiplyBy 63 = .ok (.return_, 1) := by decide +kernel
set_option maxRecDepth 20000 in
theorem ggX5_lastAnswerFits_X1_part : GoodIn wsX5_lastAnswerFits wsX1_part := goodIn_r _ [10, 11, 32, 33, 34, 35, 36, 37, 38] (by decide +kernel) (by decide +kernel)
set_option maxRecDepth 20000 in
theorem gX5_lastAnswerFits_X1_part : GoodIn wsX5_lastAnswerFits (wsV RX5 121 RX1 yX1_part wsX1_part) := goodIn_app (goodIn_of _ (by decide +kernel)) ggX5_lastAnswerFits_X1_part
set_option maxRecDepth 20000 in
theorem ggX5_lastAnswerFits_X4_power : GoodIn wsX5_lastAnswerFits wsX4_power := goodIn_r _ [16, 17, 30, 31] (by decide +kernel) (by decide +kernel)
set_option maxRecDepth 20000 in
theorem gX5_lastAnswerFits_X4_power : GoodIn wsX5_lastAnswerFits (wsV RX5 124 RX4 yX4_power wsX4_power) := goodIn_app (goodIn_of _ (by decide +kernel)) ggX5_lastAnswerFits_X4_power
set_option maxRecDepth 20000 in
theorem ggX5_lastAnswerFits_X4_times : GoodIn wsX5_lastAnswerFits wsX4_times := goodIn_r _ [21, 17, 30, 31] (by decide +kernel) (by decide +kernel)
set_option maxRecDepth 20000 in
theorem gX5_lastAnswerFits_X4_times : GoodIn wsX5_lastAnswerFits (wsV RX5 86 RX4 yX4_times wsX4_times) := goodIn_app (goodIn_of _ (by decide +kernel)) ggX5_lastAnswerFits_X4_times
theorem dX5_lastAnswerFits_0 : decode cX5_lastAnswerFits 0 = .ok (.iconst 0, 1) := by decide +kernel
theorem dX5_lastAnswerFits_1 : decode cX5_lastAnswerFits 1 = .ok (.istore_n 1, 1) := by decide +kernel
theorem dX5_lastAnswerFits_2 : decode cX5_lastAnswerFits 2 = .ok (.iconst 0, 1) := by decide +kernel
theorem dX5_lastAnswerFits_3 : decode cX5_lastAnswerFits 3 = .ok (.istore_n 2, 1) := by decide +kernel
theorem dX5_lastAnswerFits_4 : decode cX5_lastAnswerFits 4 = .ok (.iload_n 2, 1) := by decide +kernel
theorem dX5_lastAnswerFits_5 : decode cX5_lastAnswerFits 5 = .ok (.aload_n 0, 1) := by decide +kernel
theorem dX5_lastAnswerFits_6 : decode cX5_lastAnswerFits 6 = .ok (.getfield 24, 3) := by decide +kernel
theorem dX5_lastAnswerFits_9 : decode cX5_lastAnswerFits 9 = .ok (.if_icmp .ge 43, 3) := by decide +kernel
theorem dX5_lastAnswerFits_12 : decode cX5_lastAnswerFits 12 = .ok (.iload_n 1, 1) := by decide +kernel
theorem dX5_lastAnswerFits_13 : decode cX5_lastAnswerFits 13 = .ok (.aload_n 0, 1) := by decide +kernel
theorem dX5_lastAnswerFits_14 : decode cX5_lastAnswerFits 14 = .ok (.getfield 28, 3) := by decide +kernel
theorem dX5_lastAnswerFits_17 : decode cX5_lastAnswerFits 17 = .ok (.aload_n 0, 1) := by decide +kernel
theorem dX5_lastAnswerFits_18 : decode cX5_lastAnswerFits 18 = .ok (.getfield 46, 3) := by decide +kernel
theorem dX5_lastAnswerFits_21 : decode cX5_lastAnswerFits 21 = .ok (.iload_n 2, 1) := by decide +kernel
theorem dX5_lastAnswerFits_22 : decode cX5_lastAnswerFits 22 = .ok (.iconst 0, 1) := by decide +kernel
theorem dX5_lastAnswerFits_23 : decode cX5_lastAnswerFits 23 = .ok (.invokevirtual 121, 3) := by decide +kernel
theorem dX5_lastAnswerFits_26 : decode cX5_lastAnswerFits 26 = .ok (.aload_n 0, 1) := by decide +kernel
theorem dX5_lastAnswerFits_27 : decode cX5_lastAnswerFits 27 = .ok (.getfield 28, 3) := by decide +kernel
theorem dX5_lastAnswerFits_30 : decode cX5_lastAnswerFits 30 = .ok (.aload_n 0, 1) := by decide +kernel
theorem dX5_lastAnswerFits_31 : decode cX5_lastAnswerFits 31 = .ok (.getfield 15, 3) := by decide +kernel
theorem dX5_lastAnswerFits_34 : decode cX5_lastAnswerFits 34 = .ok (.iload_n 2, 1) := by decide +kernel
theorem dX5_lastAnswerFits_35 : decode cX5_lastAnswerFits 35 = .ok (.iaload, 1) := by decide +kernel
theorem dX5_lastAnswerFits_36 : decode cX5_lastAnswerFits 36 = .ok (.bipush 8, 2) := by decide +kernel
theorem dX5_lastAnswerFits_38 : decode cX5_lastAnswerFits 38 = .ok (.invokevirtual 124, 3) := by decide +kernel
theorem dX5_lastAnswerFits_41 : decode cX5_lastAnswerFits 41 = .ok (.invokevirtual 86, 3) := by decide +kernel
theorem dX5_lastAnswerFits_44 : decode cX5_lastAnswerFits 44 = .ok (.iadd, 1) := by decide +kernel
theorem dX5_lastAnswerFits_45 : decode cX5_lastAnswerFits 45 = .ok (.istore_n 1, 1) := by decide +kernel
theorem dX5_lastAnswerFits_46 : decode cX5_lastAnswerFits 46 = .ok (.iinc 2 1, 3) := by decide +kernel
theorem dX5_lastAnswerFits_49 : decode cX5_lastAnswerFits 49 = .ok (.goto (-45), 3) := by decide +kernel
theorem dX5_lastAnswerFits_52 : decode cX5_lastAnswerFits 52 = .ok (.iload_n 1, 1) := by decide +kernel
theorem dX5_lastAnswerFits_53 : decode cX5_lastAnswerFits 53 = .ok (.aload_n 0, 1) := by decide +kernel
theorem dX5_lastAnswerFits_54 : decode cX5_lastAnswerFits 54 = .ok (.getfield 28, 3) := by decide +kernel
theorem dX5_lastAnswerFits_57 : decode cX5_lastAnswerFits 57 = .ok (.getfield 112, 3) := by decide +kernel
theorem dX5_lastAnswerFits_60 : decode cX5_lastAnswerFits 60 = .ok (.irem, 1) := by decide +kernel
theorem dX5_lastAnswerFits_61 : decode cX5_lastAnswerFits 61 = .ok (.aload_n 0, 1) := by decide +kernel
theorem dX5_lastAnswerFits_62 : decode cX5_lastAnswerFits 62 = .ok (.getfield 11, 3) := by decide +kernel
theorem dX5_lastAnswerFits_65 : decode cX5_lastAnswerFits 65 = .ok (.bipush 8, 2) := by decide +kernel
theorem dX5_lastAnswerFits_67 : decode cX5_lastAnswerFits 67 = .ok (.iaload, 1) := by decide +kernel
theorem dX5_lastAnswerFits_68 : decode cX5_lastAnswerFits 68 = .ok (.if_icmp .ne 7, 3) := by decide +kernel
theorem dX5_lastAnswerFits_71 : decode cX5_lastAnswerFits 71 = .ok (.iconst 1, 1) := by decide +kernel
theorem dX5_lastAnswerFits_72 : decode cX5_lastAnswerFits 72 = .ok (.goto 4, 3) := by decide +kernel
theorem dX5_lastAnswerFits_75 : decode cX5_lastAnswerFits 75 = .ok (.iconst 0, 1) := by decide +kernel
theorem dX5_lastAnswerFits_76 : decode cX5_lastAnswerFits 76 = .ok (.ireturn, 1) := by decide +kernel

set_option maxRecDepth 20000 in
theorem ggX2_init_X6_init : GoodIn wsX2_init wsX6_init := goodIn_r _ [14, 15, 2, 3, 4, 16, 17, 18, 19, 20, 21, 22, 23, 28, 29, 30, 31, 32, 33, 34, 35] (by decide +kernel) (by decide +kernel)
set_option maxRecDepth 20000 in
theorem gX2_init_X6_init : GoodIn wsX2_init (wsX6_init) := ggX2_init_X6_init
theorem dX2_init_0 : decode cX2_init 0 = .ok (.aload_n 0, 1) := by decide +kernel
theorem dX2_init_1 : decode cX2_init 1 = .ok (.invokespecial 3, 3) := by decide +kernel
theorem dX2_init_4 : decode cX2_init 4 = .ok (.aload_n 0, 1) := by decide +kernel
theorem dX2_init_5 : decode cX2_init 5 = .ok (.bipush 16, 2) := by decide +kernel
theorem dX2_init_7 : decode cX2_init 7 = .ok (.newarray .int, 2) := by decide +kernel
theorem dX2_init_9 : decode cX2_init 9 = .ok (.putfield 9, 3) := by decide +kernel
theorem dX2_init_12 : decode cX2_init 12 = .ok (.aload_n 0, 1) := by decide +kernel
theorem dX2_init_13 : decode cX2_init 13 = .ok (.aload_n 1, 1) := by decide +kernel
theorem dX2_init_14 : decode cX2_init 14 = .ok (.putfield 15, 3) := by decide +kernel
theorem dX2_init_17 : decode cX2_init 17 = .ok (.aload_n 0, 1) := by decide +kernel
theorem dX2_init_18 : decode cX2_init 18 = .ok (.new 19, 3) := by decide +kernel
theorem dX2_init_21 : decode cX2_init 21 = .ok (.dup, 1) := by decide +kernel
theorem dX2_init_22 : decode cX2_init 22 = .ok (.aload_n 1, 1) := by decide +kernel
theorem dX2_init_23 : decode cX2_init 23 = .ok (.invokespecial 21, 3) := by decide +kernel
theorem dX2_init_26 : decode cX2_init 26 = .ok (.putfield 24, 3) := by decide +kernel
theorem dX2_init_29 : decode cX2_init 29 = .ok (.aload_n 0, 1) := by decide +kernel
theorem dX2_init_30 : decode cX2_init 30 = .ok (.new 19, 3) := by decide +kernel
theorem dX2_init_33 : decode cX2_init 33 = .ok (.dup, 1) := by decide +kernel
theorem dX2_init_34 : decode cX2_init 34 = .ok (.aload_n 1, 1) := by decide +kernel
theorem dX2_init_35 : decode cX2_init 35 = .ok (.invokespecial 21, 3) := by decide +kernel
theorem dX2_init_38 : decode cX2_init 38 = .ok (.putfield 28, 3) := by decide +kernel
theorem dX2_init_41 : decode cX2_init 41 = .ok (.return_, 1) := by decide +kernel
set_option maxRecDepth 20000 in
theorem ggX2_leastMending_X6_begin : GoodIn wsX2_leastMending wsX6_begin := goodIn_r _ [11, 12, 13, 14, 15, 16, 17, 62, 63, 64, 65, 66, 67, 68, 69] (by decide +kernel) (by decide +kernel)
set_option maxRecDepth 20000 in
theorem gX2_leastMending_X6_begin : GoodIn wsX2_leastMending (wsV RX2 37 RX6 yX6_begin wsX6_begin) := goodIn_app (goodIn_of _ (by decide +kernel)) ggX2_leastMending_X6_begin
set_option maxRecDepth 20000 in
theorem ggX2_leastMending_X2_leastNumberAt : GoodIn wsX2_leastMending wsX2_leastNumberAt := goodIn_r _ [22, 23, 1, 24, 25, 26, 21, 27, 28, 6, 29, 30, 31, 10, 32, 12, 33, 34, 35, 36, 13, 14, 15, 16, 17, 37, 38, 39, 40, 41, 42, 43, 44, 45, 46, 47, 48, 49, 50, 51, 52, 53, 54, 55, 56, 57, 58, 59, 60, 61, 70, 71, 62, 63, 64, 65, 66, 67, 68, 69] (by decide +kernel) (by decide +kernel)
set_option maxRecDepth 20000 in
theorem gX2_leastMending_X2_leastNumberAt : GoodIn wsX2_leastMending (wsV RX2 44 RX2 yX2_leastNumberAt wsX2_leastNumberAt) := goodIn_app (goodIn_of _ (by decide +kernel)) ggX2_leastMending_X2_leastNumberAt
set_option maxRecDepth 20000 in
theorem ggX2_leastMending_X6_take : GoodIn wsX2_leastMending wsX6_take := goodIn_r _ [40, 17, 41, 16, 14, 12, 42, 33, 34, 35, 36, 13, 15, 43, 44, 45, 10, 46, 47, 48, 49, 50, 51, 52, 53, 54, 55, 56, 57, 62, 63, 64, 65, 66, 67, 68, 69, 70, 71] (by decide +kernel) (by decide +kernel)
set_option maxRecDepth 20000 in
theorem gX2_leastMending_X6_take : GoodIn wsX2_leastMending (wsV RX2 48 RX6 yX6_take wsX6_take) := goodIn_app (goodIn_of _ (by decide +kernel)) ggX2_leastMending_X6_take
theorem dX2_leastMending_0 : decode cX2_leastMending 0 = .ok (.iload_n 2, 1) := by decide +kernel
theorem dX2_leastMending_1 : decode cX2_leastMending 1 = .ok (.aload_n 1, 1) := by decide +kernel
theorem dX2_leastMending_2 : decode cX2_leastMending 2 = .ok (.arraylength, 1) := by decide +kernel
theorem dX2_leastMending_3 : decode cX2_leastMending 3 = .ok (.aload_n 0, 1) := by decide +kernel
theorem dX2_leastMending_4 : decode cX2_leastMending 4 = .ok (.getfield 9, 3) := by decide +kernel
theorem dX2_leastMending_7 : decode cX2_leastMending 7 = .ok (.arraylength, 1) := by decide +kernel
theorem dX2_leastMending_8 : decode cX2_leastMending 8 = .ok (.invokestatic 31, 3) := by decide +kernel
theorem dX2_leastMending_11 : decode cX2_leastMending 11 = .ok (.invokestatic 31, 3) := by decide +kernel
theorem dX2_leastMending_14 : decode cX2_leastMending 14 = .ok (.istore 4, 2) := by decide +kernel
theorem dX2_leastMending_16 : decode cX2_leastMending 16 = .ok (.iconst 0, 1) := by decide +kernel
theorem dX2_leastMending_17 : decode cX2_leastMending 17 = .ok (.istore 5, 2) := by decide +kernel
theorem dX2_leastMending_19 : decode cX2_leastMending 19 = .ok (.iload 5, 2) := by decide +kernel
theorem dX2_leastMending_21 : decode cX2_leastMending 21 = .ok (.iload 4, 2) := by decide +kernel
theorem dX2_leastMending_23 : decode cX2_leastMending 23 = .ok (.if_icmp .ge 20, 3) := by decide +kernel
theorem dX2_leastMending_26 : decode cX2_leastMending 26 = .ok (.aload_n 0, 1) := by decide +kernel
theorem dX2_leastMending_27 : decode cX2_leastMending 27 = .ok (.getfield 9, 3) := by decide +kernel
theorem dX2_leastMending_30 : decode cX2_leastMending 30 = .ok (.iload 5, 2) := by decide +kernel
theorem dX2_leastMending_32 : decode cX2_leastMending 32 = .ok (.aload_n 1, 1) := by decide +kernel
theorem dX2_leastMending_33 : decode cX2_leastMending 33 = .ok (.iload 5, 2) := by decide +kernel
theorem dX2_leastMending_35 : decode cX2_leastMending 35 = .ok (.iaload, 1) := by decide +kernel
theorem dX2_leastMending_36 : decode cX2_leastMending 36 = .ok (.iastore, 1) := by decide +kernel
theorem dX2_leastMending_37 : decode cX2_leastMending 37 = .ok (.iinc 5 1, 3) := by decide +kernel
theorem dX2_leastMending_40 : decode cX2_leastMending 40 = .ok (.goto (-21), 3) := by decide +kernel
theorem dX2_leastMending_43 : decode cX2_leastMending 43 = .ok (.aload_n 0, 1) := by decide +kernel
theorem dX2_leastMending_44 : decode cX2_leastMending 44 = .ok (.getfield 24, 3) := by decide +kernel
theorem dX2_leastMending_47 : decode cX2_leastMending 47 = .ok (.invokevirtual 37, 3) := by decide +kernel
theorem dX2_leastMending_50 : decode cX2_leastMending 50 = .ok (.iconst 0, 1) := by decide +kernel
theorem dX2_leastMending_51 : decode cX2_leastMending 51 = .ok (.istore 5, 2) := by decide +kernel
theorem dX2_leastMending_53 : decode cX2_leastMending 53 = .ok (.iload 5, 2) := by decide +kernel
theorem dX2_leastMending_55 : decode cX2_leastMending 55 = .ok (.iload 4, 2) := by decide +kernel
theorem dX2_leastMending_57 : decode cX2_leastMending 57 = .ok (.if_icmp .ge 70, 3) := by decide +kernel
theorem dX2_leastMending_60 : decode cX2_leastMending 60 = .ok (.aload_n 0, 1) := by decide +kernel
theorem dX2_leastMending_61 : decode cX2_leastMending 61 = .ok (.getfield 24, 3) := by decide +kernel
theorem dX2_leastMending_64 : decode cX2_leastMending 64 = .ok (.getfield 40, 3) := by decide +kernel
theorem dX2_leastMending_67 : decode cX2_leastMending 67 = .ok (.iload_n 3, 1) := by decide +kernel
theorem dX2_leastMending_68 : decode cX2_leastMending 68 = .ok (.if_icmp .gt 59, 3) := by decide +kernel
theorem dX2_leastMending_71 : decode cX2_leastMending 71 = .ok (.aload_n 0, 1) := by decide +kernel
theorem dX2_leastMending_72 : decode cX2_leastMending 72 = .ok (.iload 5, 2) := by decide +kernel
theorem dX2_leastMending_74 : decode cX2_leastMending 74 = .ok (.iload 4, 2) := by decide +kernel
theorem dX2_leastMending_76 : decode cX2_leastMending 76 = .ok (.iload_n 3, 1) := by decide +kernel
theorem dX2_leastMending_77 : decode cX2_leastMending 77 = .ok (.invokevirtual 44, 3) := by decide +kernel
theorem dX2_leastMending_80 : decode cX2_leastMending 80 = .ok (.istore 6, 2) := by decide +kernel
theorem dX2_leastMending_82 : decode cX2_leastMending 82 = .ok (.iload 6, 2) := by decide +kernel
theorem dX2_leastMending_84 : decode cX2_leastMending 84 = .ok (.ifCond .lt 13, 3) := by decide +kernel
theorem dX2_leastMending_87 : decode cX2_leastMending 87 = .ok (.iload 5, 2) := by decide +kernel
theorem dX2_leastMending_89 : decode cX2_leastMending 89 = .ok (.sipush 1000, 3) := by decide +kernel
theorem dX2_leastMending_92 : decode cX2_leastMending 92 = .ok (.imul, 1) := by decide +kernel
theorem dX2_leastMending_93 : decode cX2_leastMending 93 = .ok (.iload 6, 2) := by decide +kernel
theorem dX2_leastMending_95 : decode cX2_leastMending 95 = .ok (.iadd, 1) := by decide +kernel
theorem dX2_leastMending_96 : decode cX2_leastMending 96 = .ok (.ireturn, 1) := by decide +kernel
theorem dX2_leastMending_97 : decode cX2_leastMending 97 = .ok (.aload_n 0, 1) := by decide +kernel
theorem dX2_leastMending_98 : decode cX2_leastMending 98 = .ok (.getfield 9, 3) := by decide +kernel
theorem dX2_leastMending_101 : decode cX2_leastMending 101 = .ok (.iload 5, 2) := by decide +kernel
theorem dX2_leastMending_103 : decode cX2_leastMending 103 = .ok (.aload_n 1, 1) := by decide +kernel
theorem dX2_leastMending_104 : decode cX2_leastMending 104 = .ok (.iload 5, 2) := by decide +kernel
theorem dX2_leastMending_106 : decode cX2_leastMending 106 = .ok (.iaload, 1) := by decide +kernel
theorem dX2_leastMending_107 : decode cX2_leastMending 107 = .ok (.iastore, 1) := by decide +kernel
theorem dX2_leastMending_108 : decode cX2_leastMending 108 = .ok (.aload_n 0, 1) := by decide +kernel
theorem dX2_leastMending_109 : decode cX2_leastMending 109 = .ok (.getfield 24, 3) := by decide +kernel
theorem dX2_leastMending_112 : decode cX2_leastMending 112 = .ok (.aload_n 0, 1) := by decide +kernel
theorem dX2_leastMending_113 : decode cX2_leastMending 113 = .ok (.getfield 9, 3) := by decide +kernel
theorem dX2_leastMending_116 : decode cX2_leastMending 116 = .ok (.iload 5, 2) := by decide +kernel
theorem dX2_leastMending_118 : decode cX2_leastMending 118 = .ok (.invokevirtual 48, 3) := by decide +kernel
theorem dX2_leastMending_121 : decode cX2_leastMending 121 = .ok (.iinc 5 1, 3) := by decide +kernel
theorem dX2_leastMending_124 : decode cX2_leastMending 124 = .ok (.goto (-71), 3) := by decide +kernel
theorem dX2_leastMending_127 : decode cX2_leastMending 127 = .ok (.bipush (-9), 2) := by decide +kernel
theorem dX2_leastMending_129 : decode cX2_leastMending 129 = .ok (.ireturn, 1) := by decide +kernel
set_option maxRecDepth 20000 in
theorem ggX2_leastNumberAt_X2_staysWithin : GoodIn wsX2_leastNumberAt wsX2_staysWithin := goodIn_r _ [7, 8, 9, 2, 10, 11, 12, 13, 14, 15, 16, 17, 18, 19, 20, 21, 22, 23, 24, 25, 26, 27, 28, 29, 30, 31, 32, 33, 34, 35, 36, 37, 38, 39, 40, 41, 42, 43, 44, 45, 46, 47, 48, 49, 52, 53, 54, 55, 56, 57, 58, 59, 50, 51] (by decide +kernel) (by decide +kernel)
set_option maxRecDepth 20000 in
theorem gX2_leastNumberAt_X2_staysWithin : GoodIn wsX2_leastNumberAt (wsV RX2 57 RX2 yX2_staysWithin wsX2_staysWithin) := goodIn_app (goodIn_of _ (by decide +kernel)) ggX2_leastNumberAt_X2_staysWithin
theorem dX2_leastNumberAt_0 : decode cX2_leastNumberAt 0 = .ok (.iconst 0, 1) := by decide +kernel
theorem dX2_leastNumberAt_1 : decode cX2_leastNumberAt 1 = .ok (.istore 4, 2) := by decide +kernel
theorem dX2_leastNumberAt_3 : decode cX2_leastNumberAt 3 = .ok (.iload 4, 2) := by decide +kernel
theorem dX2_leastNumberAt_5 : decode cX2_leastNumberAt 5 = .ok (.aload_n 0, 1) := by decide +kernel
theorem dX2_leastNumberAt_6 : decode cX2_leastNumberAt 6 = .ok (.getfield 15, 3) := by decide +kernel
theorem dX2_leastNumberAt_9 : decode cX2_leastNumberAt 9 = .ok (.getfield 52, 3) := by decide +kernel
theorem dX2_leastNumberAt_12 : decode cX2_leastNumberAt 12 = .ok (.if_icmp .ge 30, 3) := by decide +kernel
theorem dX2_leastNumberAt_15 : decode cX2_leastNumberAt 15 = .ok (.aload_n 0, 1) := by decide +kernel
theorem dX2_leastNumberAt_16 : decode cX2_leastNumberAt 16 = .ok (.getfield 9, 3) := by decide +kernel
theorem dX2_leastNumberAt_19 : decode cX2_leastNumberAt 19 = .ok (.iload_n 1, 1) := by decide +kernel
theorem dX2_leastNumberAt_20 : decode cX2_leastNumberAt 20 = .ok (.iload 4, 2) := by decide +kernel
theorem dX2_leastNumberAt_22 : decode cX2_leastNumberAt 22 = .ok (.iastore, 1) := by decide +kernel
theorem dX2_leastNumberAt_23 : decode cX2_leastNumberAt 23 = .ok (.aload_n 0, 1) := by decide +kernel
theorem dX2_leastNumberAt_24 : decode cX2_leastNumberAt 24 = .ok (.iload_n 1, 1) := by decide +kernel
theorem dX2_leastNumberAt_25 : decode cX2_leastNumberAt 25 = .ok (.iload_n 2, 1) := by decide +kernel
theorem dX2_leastNumberAt_26 : decode cX2_leastNumberAt 26 = .ok (.iload_n 3, 1) := by decide +kernel
theorem dX2_leastNumberAt_27 : decode cX2_leastNumberAt 27 = .ok (.invokevirtual 57, 3) := by decide +kernel
theorem dX2_leastNumberAt_30 : decode cX2_leastNumberAt 30 = .ok (.ifCond .eq 6, 3) := by decide +kernel
theorem dX2_leastNumberAt_33 : decode cX2_leastNumberAt 33 = .ok (.iload 4, 2) := by decide +kernel
theorem dX2_leastNumberAt_35 : decode cX2_leastNumberAt 35 = .ok (.ireturn, 1) := by decide +kernel
theorem dX2_leastNumberAt_36 : decode cX2_leastNumberAt 36 = .ok (.iinc 4 1, 3) := by decide +kernel
theorem dX2_leastNumberAt_39 : decode cX2_leastNumberAt 39 = .ok (.goto (-36), 3) := by decide +kernel
theorem dX2_leastNumberAt_42 : decode cX2_leastNumberAt 42 = .ok (.iconst (-1), 1) := by decide +kernel
theorem dX2_leastNumberAt_43 : decode cX2_leastNumberAt 43 = .ok (.ireturn, 1) := by decide +kernel
set_option maxRecDepth 20000 in
theorem ggX2_staysWithin_X6_copyOf : GoodIn wsX2_staysWithin wsX6_copyOf := goodIn_r _ [8, 9, 10, 11, 12, 13, 14, 15, 16, 17, 18, 44, 45, 46, 47, 48, 49, 50, 51] (by decide +kernel) (by decide +kernel)
set_option maxRecDepth 20000 in
theorem gX2_staysWithin_X6_copyOf : GoodIn wsX2_staysWithin (wsV RX2 61 RX6 yX6_copyOf wsX6_copyOf) := goodIn_app (goodIn_of _ (by decide +kernel)) ggX2_staysWithin_X6_copyOf
set_option maxRecDepth 20000 in
theorem ggX2_staysWithin_X6_take : GoodIn wsX2_staysWithin wsX6_take := goodIn_r _ [22, 18, 23, 17, 15, 9, 24, 10, 11, 12, 13, 14, 16, 25, 26, 27, 7, 28, 29, 30, 31, 32, 33, 34, 35, 36, 37, 38, 39, 44, 45, 46, 47, 48, 49, 50, 51, 52, 53] (by decide +kernel) (by decide +kernel)
set_option maxRecDepth 20000 in
theorem gX2_staysWithin_X6_take : GoodIn wsX2_staysWithin (wsV RX2 48 RX6 yX6_take wsX6_take) := goodIn_app (goodIn_of _ (by decide +kernel)) ggX2_staysWithin_X6_take
theorem dX2_staysWithin_0 : decode cX2_staysWithin 0 = .ok (.aload_n 0, 1) := by decide +kernel
theorem dX2_staysWithin_1 : decode cX2_staysWithin 1 = .ok (.getfield 28, 3) := by decide +kernel
theorem dX2_staysWithin_4 : decode cX2_staysWithin 4 = .ok (.aload_n 0, 1) := by decide +kernel
theorem dX2_staysWithin_5 : decode cX2_staysWithin 5 = .ok (.getfield 24, 3) := by decide +kernel
theorem dX2_staysWithin_8 : decode cX2_staysWithin 8 = .ok (.invokevirtual 61, 3) := by decide +kernel
theorem dX2_staysWithin_11 : decode cX2_staysWithin 11 = .ok (.iload_n 1, 1) := by decide +kernel
theorem dX2_staysWithin_12 : decode cX2_staysWithin 12 = .ok (.istore 4, 2) := by decide +kernel
theorem dX2_staysWithin_14 : decode cX2_staysWithin 14 = .ok (.iload 4, 2) := by decide +kernel
theorem dX2_staysWithin_16 : decode cX2_staysWithin 16 = .ok (.iload_n 2, 1) := by decide +kernel
theorem dX2_staysWithin_17 : decode cX2_staysWithin 17 = .ok (.if_icmp .ge 33, 3) := by decide +kernel
theorem dX2_staysWithin_20 : decode cX2_staysWithin 20 = .ok (.aload_n 0, 1) := by decide +kernel
theorem dX2_staysWithin_21 : decode cX2_staysWithin 21 = .ok (.getfield 28, 3) := by decide +kernel
theorem dX2_staysWithin_24 : decode cX2_staysWithin 24 = .ok (.getfield 40, 3) := by decide +kernel
theorem dX2_staysWithin_27 : decode cX2_staysWithin 27 = .ok (.iload_n 3, 1) := by decide +kernel
theorem dX2_staysWithin_28 : decode cX2_staysWithin 28 = .ok (.if_icmp .gt 22, 3) := by decide +kernel
theorem dX2_staysWithin_31 : decode cX2_staysWithin 31 = .ok (.aload_n 0, 1) := by decide +kernel
theorem dX2_staysWithin_32 : decode cX2_staysWithin 32 = .ok (.getfield 28, 3) := by decide +kernel
theorem dX2_staysWithin_35 : decode cX2_staysWithin 35 = .ok (.aload_n 0, 1) := by decide +kernel
theorem dX2_staysWithin_36 : decode cX2_staysWithin 36 = .ok (.getfield 9, 3) := by decide +kernel
theorem dX2_staysWithin_39 : decode cX2_staysWithin 39 = .ok (.iload 4, 2) := by decide +kernel
theorem dX2_staysWithin_41 : decode cX2_staysWithin 41 = .ok (.invokevirtual 48, 3) := by decide +kernel
theorem dX2_staysWithin_44 : decode cX2_staysWithin 44 = .ok (.iinc 4 1, 3) := by decide +kernel
theorem dX2_staysWithin_47 : decode cX2_staysWithin 47 = .ok (.goto (-33), 3) := by decide +kernel
theorem dX2_staysWithin_50 : decode cX2_staysWithin 50 = .ok (.aload_n 0, 1) := by decide +kernel
theorem dX2_staysWithin_51 : decode cX2_staysWithin 51 = .ok (.getfield 28, 3) := by decide +kernel
theorem dX2_staysWithin_54 : decode cX2_staysWithin 54 = .ok (.getfield 40, 3) := by decide +kernel
theorem dX2_staysWithin_57 : decode cX2_staysWithin 57 = .ok (.iload_n 3, 1) := by decide +kernel
theorem dX2_staysWithin_58 : decode cX2_staysWithin 58 = .ok (.if_icmp .gt 7, 3) := by decide +kernel
theorem dX2_staysWithin_61 : decode cX2_staysWithin 61 = .ok (.iconst 1, 1) := by decide +kernel
theorem dX2_staysWithin_62 : decode cX2_staysWithin 62 = .ok (.goto 4, 3) := by decide +kernel
theorem dX2_staysWithin_65 : decode cX2_staysWithin 65 = .ok (.iconst 0, 1) := by decide +kernel
theorem dX2_staysWithin_66 : decode cX2_staysWithin 66 = .ok (.ireturn, 1) := by decide +kernel

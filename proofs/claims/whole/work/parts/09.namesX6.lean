theorem dX6_init_0 : decode cX6_init 0 = .ok (.aload_n 0, 1) := by decide +kernel
theorem dX6_init_1 : decode cX6_init 1 = .ok (.invokespecial 3, 3) := by decide +kernel
theorem dX6_init_4 : decode cX6_init 4 = .ok (.aload_n 0, 1) := by decide +kernel
theorem dX6_init_5 : decode cX6_init 5 = .ok (.bipush 17, 2) := by decide +kernel
theorem dX6_init_7 : decode cX6_init 7 = .ok (.newarray .int, 2) := by decide +kernel
theorem dX6_init_9 : decode cX6_init 9 = .ok (.putfield 9, 3) := by decide +kernel
theorem dX6_init_12 : decode cX6_init 12 = .ok (.aload_n 0, 1) := by decide +kernel
theorem dX6_init_13 : decode cX6_init 13 = .ok (.bipush 17, 2) := by decide +kernel
theorem dX6_init_15 : decode cX6_init 15 = .ok (.newarray .int, 2) := by decide +kernel
theorem dX6_init_17 : decode cX6_init 17 = .ok (.putfield 15, 3) := by decide +kernel
theorem dX6_init_20 : decode cX6_init 20 = .ok (.aload_n 0, 1) := by decide +kernel
theorem dX6_init_21 : decode cX6_init 21 = .ok (.bipush 17, 2) := by decide +kernel
theorem dX6_init_23 : decode cX6_init 23 = .ok (.newarray .int, 2) := by decide +kernel
theorem dX6_init_25 : decode cX6_init 25 = .ok (.putfield 18, 3) := by decide +kernel
theorem dX6_init_28 : decode cX6_init 28 = .ok (.aload_n 0, 1) := by decide +kernel
theorem dX6_init_29 : decode cX6_init 29 = .ok (.iconst 0, 1) := by decide +kernel
theorem dX6_init_30 : decode cX6_init 30 = .ok (.putfield 21, 3) := by decide +kernel
theorem dX6_init_33 : decode cX6_init 33 = .ok (.aload_n 0, 1) := by decide +kernel
theorem dX6_init_34 : decode cX6_init 34 = .ok (.iconst 0, 1) := by decide +kernel
theorem dX6_init_35 : decode cX6_init 35 = .ok (.putfield 25, 3) := by decide +kernel
theorem dX6_init_38 : decode cX6_init 38 = .ok (.aload_n 0, 1) := by decide +kernel
theorem dX6_init_39 : decode cX6_init 39 = .ok (.iconst 1, 1) := by decide +kernel
theorem dX6_init_40 : decode cX6_init 40 = .ok (.putfield 28, 3) := by decide +kernel
theorem dX6_init_43 : decode cX6_init 43 = .ok (.aload_n 0, 1) := by decide +kernel
theorem dX6_init_44 : decode cX6_init 44 = .ok (.iconst 1, 1) := by decide +kernel
theorem dX6_init_45 : decode cX6_init 45 = .ok (.putfield 31, 3) := by decide +kernel
theorem dX6_init_48 : decode cX6_init 48 = .ok (.aload_n 0, 1) := by decide +kernel
theorem dX6_init_49 : decode cX6_init 49 = .ok (.aload_n 1, 1) := by decide +kernel
theorem dX6_init_50 : decode cX6_init 50 = .ok (.putfield 34, 3) := by decide +kernel
theorem dX6_init_53 : decode cX6_init 53 = .ok (.return_, 1) := by decide +kernel
set_option maxRecDepth 20000 in
theorem ggX6_read_X6_begin : GoodIn wsX6_read wsX6_begin := goodIn_r _ [5, 6, 7, 8, 9, 10, 11, 37, 38, 39, 40, 41, 42, 43, 44] (by decide +kernel) (by decide +kernel)
set_option maxRecDepth 20000 in
theorem gX6_read_X6_begin : GoodIn wsX6_read (wsV RX6 38 RX6 yX6_begin wsX6_begin) := goodIn_app (goodIn_of _ (by decide +kernel)) ggX6_read_X6_begin
set_option maxRecDepth 20000 in
theorem ggX6_read_X6_take : GoodIn wsX6_read wsX6_take := goodIn_r _ [15, 11, 16, 10, 8, 6, 17, 18, 19, 20, 21, 7, 9, 22, 23, 24, 4, 25, 26, 27, 28, 29, 30, 31, 32, 33, 34, 35, 36, 37, 38, 39, 40, 41, 42, 43, 44, 45, 46] (by decide +kernel) (by decide +kernel)
set_option maxRecDepth 20000 in
theorem gX6_read_X6_take : GoodIn wsX6_read (wsV RX6 41 RX6 yX6_take wsX6_take) := goodIn_app (goodIn_of _ (by decide +kernel)) ggX6_read_X6_take
theorem dX6_read_0 : decode cX6_read 0 = .ok (.aload_n 0, 1) := by decide +kernel
theorem dX6_read_1 : decode cX6_read 1 = .ok (.invokevirtual 38, 3) := by decide +kernel
theorem dX6_read_4 : decode cX6_read 4 = .ok (.iconst 0, 1) := by decide +kernel
theorem dX6_read_5 : decode cX6_read 5 = .ok (.istore_n 3, 1) := by decide +kernel
theorem dX6_read_6 : decode cX6_read 6 = .ok (.iload_n 3, 1) := by decide +kernel
theorem dX6_read_7 : decode cX6_read 7 = .ok (.iload_n 2, 1) := by decide +kernel
theorem dX6_read_8 : decode cX6_read 8 = .ok (.if_icmp .ge 21, 3) := by decide +kernel
theorem dX6_read_11 : decode cX6_read 11 = .ok (.iload_n 3, 1) := by decide +kernel
theorem dX6_read_12 : decode cX6_read 12 = .ok (.aload_n 1, 1) := by decide +kernel
theorem dX6_read_13 : decode cX6_read 13 = .ok (.arraylength, 1) := by decide +kernel
theorem dX6_read_14 : decode cX6_read 14 = .ok (.if_icmp .ge 15, 3) := by decide +kernel
theorem dX6_read_17 : decode cX6_read 17 = .ok (.aload_n 0, 1) := by decide +kernel
theorem dX6_read_18 : decode cX6_read 18 = .ok (.aload_n 1, 1) := by decide +kernel
theorem dX6_read_19 : decode cX6_read 19 = .ok (.iload_n 3, 1) := by decide +kernel
theorem dX6_read_20 : decode cX6_read 20 = .ok (.invokevirtual 41, 3) := by decide +kernel
theorem dX6_read_23 : decode cX6_read 23 = .ok (.iinc 3 1, 3) := by decide +kernel
theorem dX6_read_26 : decode cX6_read 26 = .ok (.goto (-20), 3) := by decide +kernel
theorem dX6_read_29 : decode cX6_read 29 = .ok (.return_, 1) := by decide +kernel
theorem dX6_begin_0 : decode cX6_begin 0 = .ok (.iconst 0, 1) := by decide +kernel
theorem dX6_begin_1 : decode cX6_begin 1 = .ok (.istore_n 1, 1) := by decide +kernel
theorem dX6_begin_2 : decode cX6_begin 2 = .ok (.iload_n 1, 1) := by decide +kernel
theorem dX6_begin_3 : decode cX6_begin 3 = .ok (.aload_n 0, 1) := by decide +kernel
theorem dX6_begin_4 : decode cX6_begin 4 = .ok (.getfield 9, 3) := by decide +kernel
theorem dX6_begin_7 : decode cX6_begin 7 = .ok (.arraylength, 1) := by decide +kernel
theorem dX6_begin_8 : decode cX6_begin 8 = .ok (.if_icmp .ge 23, 3) := by decide +kernel
theorem dX6_begin_11 : decode cX6_begin 11 = .ok (.aload_n 0, 1) := by decide +kernel
theorem dX6_begin_12 : decode cX6_begin 12 = .ok (.getfield 9, 3) := by decide +kernel
theorem dX6_begin_15 : decode cX6_begin 15 = .ok (.iload_n 1, 1) := by decide +kernel
theorem dX6_begin_16 : decode cX6_begin 16 = .ok (.iconst 0, 1) := by decide +kernel
theorem dX6_begin_17 : decode cX6_begin 17 = .ok (.iastore, 1) := by decide +kernel
theorem dX6_begin_18 : decode cX6_begin 18 = .ok (.aload_n 0, 1) := by decide +kernel
theorem dX6_begin_19 : decode cX6_begin 19 = .ok (.getfield 15, 3) := by decide +kernel
theorem dX6_begin_22 : decode cX6_begin 22 = .ok (.iload_n 1, 1) := by decide +kernel
theorem dX6_begin_23 : decode cX6_begin 23 = .ok (.iconst 0, 1) := by decide +kernel
theorem dX6_begin_24 : decode cX6_begin 24 = .ok (.iastore, 1) := by decide +kernel
theorem dX6_begin_25 : decode cX6_begin 25 = .ok (.iinc 1 1, 3) := by decide +kernel
theorem dX6_begin_28 : decode cX6_begin 28 = .ok (.goto (-26), 3) := by decide +kernel
theorem dX6_begin_31 : decode cX6_begin 31 = .ok (.aload_n 0, 1) := by decide +kernel
theorem dX6_begin_32 : decode cX6_begin 32 = .ok (.getfield 9, 3) := by decide +kernel
theorem dX6_begin_35 : decode cX6_begin 35 = .ok (.iconst 0, 1) := by decide +kernel
theorem dX6_begin_36 : decode cX6_begin 36 = .ok (.iconst 1, 1) := by decide +kernel
theorem dX6_begin_37 : decode cX6_begin 37 = .ok (.iastore, 1) := by decide +kernel
theorem dX6_begin_38 : decode cX6_begin 38 = .ok (.aload_n 0, 1) := by decide +kernel
theorem dX6_begin_39 : decode cX6_begin 39 = .ok (.getfield 15, 3) := by decide +kernel
theorem dX6_begin_42 : decode cX6_begin 42 = .ok (.iconst 0, 1) := by decide +kernel
theorem dX6_begin_43 : decode cX6_begin 43 = .ok (.iconst 1, 1) := by decide +kernel
theorem dX6_begin_44 : decode cX6_begin 44 = .ok (.iastore, 1) := by decide +kernel
theorem dX6_begin_45 : decode cX6_begin 45 = .ok (.aload_n 0, 1) := by decide +kernel
theorem dX6_begin_46 : decode cX6_begin 46 = .ok (.iconst 0, 1) := by decide +kernel
theorem dX6_begin_47 : decode cX6_begin 47 = .ok (.putfield 21, 3) := by decide +kernel
theorem dX6_begin_50 : decode cX6_begin 50 = .ok (.aload_n 0, 1) := by decide +kernel
theorem dX6_begin_51 : decode cX6_begin 51 = .ok (.iconst 0, 1) := by decide +kernel
theorem dX6_begin_52 : decode cX6_begin 52 = .ok (.putfield 25, 3) := by decide +kernel
theorem dX6_begin_55 : decode cX6_begin 55 = .ok (.aload_n 0, 1) := by decide +kernel
theorem dX6_begin_56 : decode cX6_begin 56 = .ok (.iconst 1, 1) := by decide +kernel
theorem dX6_begin_57 : decode cX6_begin 57 = .ok (.putfield 28, 3) := by decide +kernel
theorem dX6_begin_60 : decode cX6_begin 60 = .ok (.aload_n 0, 1) := by decide +kernel
theorem dX6_begin_61 : decode cX6_begin 61 = .ok (.iconst 1, 1) := by decide +kernel
theorem dX6_begin_62 : decode cX6_begin 62 = .ok (.putfield 31, 3) := by decide +kernel
theorem dX6_begin_65 : decode cX6_begin 65 = .ok (.return_, 1) := by decide +kernel
theorem dX6_copyOf_0 : decode cX6_copyOf 0 = .ok (.aload_n 1, 1) := by decide +kernel
theorem dX6_copyOf_1 : decode cX6_copyOf 1 = .ok (.getfield 9, 3) := by decide +kernel
theorem dX6_copyOf_4 : decode cX6_copyOf 4 = .ok (.iconst 0, 1) := by decide +kernel
theorem dX6_copyOf_5 : decode cX6_copyOf 5 = .ok (.aload_n 0, 1) := by decide +kernel
theorem dX6_copyOf_6 : decode cX6_copyOf 6 = .ok (.getfield 9, 3) := by decide +kernel
theorem dX6_copyOf_9 : decode cX6_copyOf 9 = .ok (.iconst 0, 1) := by decide +kernel
theorem dX6_copyOf_10 : decode cX6_copyOf 10 = .ok (.aload_n 0, 1) := by decide +kernel
theorem dX6_copyOf_11 : decode cX6_copyOf 11 = .ok (.getfield 9, 3) := by decide +kernel
theorem dX6_copyOf_14 : decode cX6_copyOf 14 = .ok (.arraylength, 1) := by decide +kernel
theorem dX6_copyOf_15 : decode cX6_copyOf 15 = .ok (.invokestatic 45, 3) := by decide +kernel
theorem dX6_copyOf_18 : decode cX6_copyOf 18 = .ok (.aload_n 1, 1) := by decide +kernel
theorem dX6_copyOf_19 : decode cX6_copyOf 19 = .ok (.getfield 15, 3) := by decide +kernel
theorem dX6_copyOf_22 : decode cX6_copyOf 22 = .ok (.iconst 0, 1) := by decide +kernel
theorem dX6_copyOf_23 : decode cX6_copyOf 23 = .ok (.aload_n 0, 1) := by decide +kernel
theorem dX6_copyOf_24 : decode cX6_copyOf 24 = .ok (.getfield 15, 3) := by decide +kernel
theorem dX6_copyOf_27 : decode cX6_copyOf 27 = .ok (.iconst 0, 1) := by decide +kernel
theorem dX6_copyOf_28 : decode cX6_copyOf 28 = .ok (.aload_n 0, 1) := by decide +kernel
theorem dX6_copyOf_29 : decode cX6_copyOf 29 = .ok (.getfield 15, 3) := by decide +kernel
theorem dX6_copyOf_32 : decode cX6_copyOf 32 = .ok (.arraylength, 1) := by decide +kernel
theorem dX6_copyOf_33 : decode cX6_copyOf 33 = .ok (.invokestatic 45, 3) := by decide +kernel
theorem dX6_copyOf_36 : decode cX6_copyOf 36 = .ok (.aload_n 0, 1) := by decide +kernel
theorem dX6_copyOf_37 : decode cX6_copyOf 37 = .ok (.aload_n 1, 1) := by decide +kernel
theorem dX6_copyOf_38 : decode cX6_copyOf 38 = .ok (.getfield 21, 3) := by decide +kernel
theorem dX6_copyOf_41 : decode cX6_copyOf 41 = .ok (.putfield 21, 3) := by decide +kernel
theorem dX6_copyOf_44 : decode cX6_copyOf 44 = .ok (.aload_n 0, 1) := by decide +kernel
theorem dX6_copyOf_45 : decode cX6_copyOf 45 = .ok (.aload_n 1, 1) := by decide +kernel
theorem dX6_copyOf_46 : decode cX6_copyOf 46 = .ok (.getfield 25, 3) := by decide +kernel
theorem dX6_copyOf_49 : decode cX6_copyOf 49 = .ok (.putfield 25, 3) := by decide +kernel
theorem dX6_copyOf_52 : decode cX6_copyOf 52 = .ok (.aload_n 0, 1) := by decide +kernel
theorem dX6_copyOf_53 : decode cX6_copyOf 53 = .ok (.aload_n 1, 1) := by decide +kernel
theorem dX6_copyOf_54 : decode cX6_copyOf 54 = .ok (.getfield 28, 3) := by decide +kernel
theorem dX6_copyOf_57 : decode cX6_copyOf 57 = .ok (.putfield 28, 3) := by decide +kernel
theorem dX6_copyOf_60 : decode cX6_copyOf 60 = .ok (.aload_n 0, 1) := by decide +kernel
theorem dX6_copyOf_61 : decode cX6_copyOf 61 = .ok (.aload_n 1, 1) := by decide +kernel
theorem dX6_copyOf_62 : decode cX6_copyOf 62 = .ok (.getfield 31, 3) := by decide +kernel
theorem dX6_copyOf_65 : decode cX6_copyOf 65 = .ok (.putfield 31, 3) := by decide +kernel
theorem dX6_copyOf_68 : decode cX6_copyOf 68 = .ok (.return_, 1) := by decide +kernel
set_option maxRecDepth 20000 in
theorem ggX6_take_X6_errorAt : GoodIn wsX6_take wsX6_errorAt := goodIn_r _ [17, 4, 5, 2, 29, 30, 31, 32, 33, 34, 35, 36, 37, 38] (by decide +kernel) (by decide +kernel)
set_option maxRecDepth 20000 in
theorem gX6_take_X6_errorAt : GoodIn wsX6_take (wsV RX6 51 RX6 yX6_errorAt wsX6_errorAt) := goodIn_app (goodIn_of _ (by decide +kernel)) ggX6_take_X6_errorAt
set_option maxRecDepth 20000 in
theorem ggX6_take_X4_over : GoodIn wsX6_take wsX4_over := goodIn_r _ [22, 23, 24, 37, 38] (by decide +kernel) (by decide +kernel)
set_option maxRecDepth 20000 in
theorem gX6_take_X4_over : GoodIn wsX6_take (wsV RX6 60 RX4 yX4_over wsX4_over) := goodIn_app (goodIn_of _ (by decide +kernel)) ggX6_take_X4_over
set_option maxRecDepth 20000 in
theorem ggX6_take_X6_addFormer : GoodIn wsX6_take wsX6_addFormer := goodIn_r _ [28, 12, 1, 5, 11, 2, 29, 30, 31, 32, 33, 34, 35, 36, 37, 38] (by decide +kernel) (by decide +kernel)
set_option maxRecDepth 20000 in
theorem gX6_take_X6_addFormer : GoodIn wsX6_take (wsV RX6 64 RX6 yX6_addFormer wsX6_addFormer) := goodIn_app (goodIn_of _ (by decide +kernel)) ggX6_take_X6_addFormer
theorem dX6_take_0 : decode cX6_take 0 = .ok (.aload_n 0, 1) := by decide +kernel
theorem dX6_take_1 : decode cX6_take 1 = .ok (.aload_n 1, 1) := by decide +kernel
theorem dX6_take_2 : decode cX6_take 2 = .ok (.iload_n 2, 1) := by decide +kernel
theorem dX6_take_3 : decode cX6_take 3 = .ok (.invokevirtual 51, 3) := by decide +kernel
theorem dX6_take_6 : decode cX6_take 6 = .ok (.istore_n 3, 1) := by decide +kernel
theorem dX6_take_7 : decode cX6_take 7 = .ok (.iload_n 3, 1) := by decide +kernel
theorem dX6_take_8 : decode cX6_take 8 = .ok (.ifCond .ne 14, 3) := by decide +kernel
theorem dX6_take_11 : decode cX6_take 11 = .ok (.aload_n 0, 1) := by decide +kernel
theorem dX6_take_12 : decode cX6_take 12 = .ok (.dup, 1) := by decide +kernel
theorem dX6_take_13 : decode cX6_take 13 = .ok (.getfield 31, 3) := by decide +kernel
theorem dX6_take_16 : decode cX6_take 16 = .ok (.iconst 1, 1) := by decide +kernel
theorem dX6_take_17 : decode cX6_take 17 = .ok (.iadd, 1) := by decide +kernel
theorem dX6_take_18 : decode cX6_take 18 = .ok (.putfield 31, 3) := by decide +kernel
theorem dX6_take_21 : decode cX6_take 21 = .ok (.return_, 1) := by decide +kernel
theorem dX6_take_22 : decode cX6_take 22 = .ok (.aload_n 0, 1) := by decide +kernel
theorem dX6_take_23 : decode cX6_take 23 = .ok (.getfield 34, 3) := by decide +kernel
theorem dX6_take_26 : decode cX6_take 26 = .ok (.getfield 55, 3) := by decide +kernel
theorem dX6_take_29 : decode cX6_take 29 = .ok (.aload_n 0, 1) := by decide +kernel
theorem dX6_take_30 : decode cX6_take 30 = .ok (.getfield 34, 3) := by decide +kernel
theorem dX6_take_33 : decode cX6_take 33 = .ok (.iload_n 3, 1) := by decide +kernel
theorem dX6_take_34 : decode cX6_take 34 = .ok (.aload_n 0, 1) := by decide +kernel
theorem dX6_take_35 : decode cX6_take 35 = .ok (.getfield 28, 3) := by decide +kernel
theorem dX6_take_38 : decode cX6_take 38 = .ok (.invokevirtual 60, 3) := by decide +kernel
theorem dX6_take_41 : decode cX6_take 41 = .ok (.isub, 1) := by decide +kernel
theorem dX6_take_42 : decode cX6_take 42 = .ok (.istore 4, 2) := by decide +kernel
theorem dX6_take_44 : decode cX6_take 44 = .ok (.iconst 2, 1) := by decide +kernel
theorem dX6_take_45 : decode cX6_take 45 = .ok (.aload_n 0, 1) := by decide +kernel
theorem dX6_take_46 : decode cX6_take 46 = .ok (.getfield 21, 3) := by decide +kernel
theorem dX6_take_49 : decode cX6_take 49 = .ok (.imul, 1) := by decide +kernel
theorem dX6_take_50 : decode cX6_take 50 = .ok (.iload_n 2, 1) := by decide +kernel
theorem dX6_take_51 : decode cX6_take 51 = .ok (.if_icmp .le 20, 3) := by decide +kernel
theorem dX6_take_54 : decode cX6_take 54 = .ok (.aload_n 0, 1) := by decide +kernel
theorem dX6_take_55 : decode cX6_take 55 = .ok (.iload 4, 2) := by decide +kernel
theorem dX6_take_57 : decode cX6_take 57 = .ok (.invokevirtual 64, 3) := by decide +kernel
theorem dX6_take_60 : decode cX6_take 60 = .ok (.aload_n 0, 1) := by decide +kernel
theorem dX6_take_61 : decode cX6_take 61 = .ok (.dup, 1) := by decide +kernel
theorem dX6_take_62 : decode cX6_take 62 = .ok (.getfield 31, 3) := by decide +kernel
theorem dX6_take_65 : decode cX6_take 65 = .ok (.iconst 1, 1) := by decide +kernel
theorem dX6_take_66 : decode cX6_take 66 = .ok (.iadd, 1) := by decide +kernel
theorem dX6_take_67 : decode cX6_take 67 = .ok (.putfield 31, 3) := by decide +kernel
theorem dX6_take_70 : decode cX6_take 70 = .ok (.return_, 1) := by decide +kernel
theorem dX6_take_71 : decode cX6_take 71 = .ok (.aload_n 0, 1) := by decide +kernel
theorem dX6_take_72 : decode cX6_take 72 = .ok (.getfield 9, 3) := by decide +kernel
theorem dX6_take_75 : decode cX6_take 75 = .ok (.iconst 0, 1) := by decide +kernel
theorem dX6_take_76 : decode cX6_take 76 = .ok (.aload_n 0, 1) := by decide +kernel
theorem dX6_take_77 : decode cX6_take 77 = .ok (.getfield 18, 3) := by decide +kernel
theorem dX6_take_80 : decode cX6_take 80 = .ok (.iconst 0, 1) := by decide +kernel
theorem dX6_take_81 : decode cX6_take 81 = .ok (.aload_n 0, 1) := by decide +kernel
theorem dX6_take_82 : decode cX6_take 82 = .ok (.getfield 9, 3) := by decide +kernel
theorem dX6_take_85 : decode cX6_take 85 = .ok (.arraylength, 1) := by decide +kernel
theorem dX6_take_86 : decode cX6_take 86 = .ok (.invokestatic 45, 3) := by decide +kernel
theorem dX6_take_89 : decode cX6_take 89 = .ok (.aload_n 0, 1) := by decide +kernel
theorem dX6_take_90 : decode cX6_take 90 = .ok (.iload 4, 2) := by decide +kernel
theorem dX6_take_92 : decode cX6_take 92 = .ok (.invokevirtual 64, 3) := by decide +kernel
theorem dX6_take_95 : decode cX6_take 95 = .ok (.aload_n 0, 1) := by decide +kernel
theorem dX6_take_96 : decode cX6_take 96 = .ok (.getfield 15, 3) := by decide +kernel
theorem dX6_take_99 : decode cX6_take 99 = .ok (.astore 5, 2) := by decide +kernel
theorem dX6_take_101 : decode cX6_take 101 = .ok (.aload_n 0, 1) := by decide +kernel
theorem dX6_take_102 : decode cX6_take 102 = .ok (.aload_n 0, 1) := by decide +kernel
theorem dX6_take_103 : decode cX6_take 103 = .ok (.getfield 18, 3) := by decide +kernel
theorem dX6_take_106 : decode cX6_take 106 = .ok (.putfield 15, 3) := by decide +kernel
theorem dX6_take_109 : decode cX6_take 109 = .ok (.aload_n 0, 1) := by decide +kernel
theorem dX6_take_110 : decode cX6_take 110 = .ok (.aload 5, 2) := by decide +kernel
theorem dX6_take_112 : decode cX6_take 112 = .ok (.putfield 18, 3) := by decide +kernel
theorem dX6_take_115 : decode cX6_take 115 = .ok (.aload_n 0, 1) := by decide +kernel
theorem dX6_take_116 : decode cX6_take 116 = .ok (.aload_n 0, 1) := by decide +kernel
theorem dX6_take_117 : decode cX6_take 117 = .ok (.getfield 21, 3) := by decide +kernel
theorem dX6_take_120 : decode cX6_take 120 = .ok (.putfield 25, 3) := by decide +kernel
theorem dX6_take_123 : decode cX6_take 123 = .ok (.aload_n 0, 1) := by decide +kernel
theorem dX6_take_124 : decode cX6_take 124 = .ok (.iload_n 3, 1) := by decide +kernel
theorem dX6_take_125 : decode cX6_take 125 = .ok (.putfield 28, 3) := by decide +kernel
theorem dX6_take_128 : decode cX6_take 128 = .ok (.aload_n 0, 1) := by decide +kernel
theorem dX6_take_129 : decode cX6_take 129 = .ok (.iconst 1, 1) := by decide +kernel
theorem dX6_take_130 : decode cX6_take 130 = .ok (.putfield 31, 3) := by decide +kernel
theorem dX6_take_133 : decode cX6_take 133 = .ok (.aload_n 0, 1) := by decide +kernel
theorem dX6_take_134 : decode cX6_take 134 = .ok (.iload_n 2, 1) := by decide +kernel
theorem dX6_take_135 : decode cX6_take 135 = .ok (.iconst 1, 1) := by decide +kernel
theorem dX6_take_136 : decode cX6_take 136 = .ok (.iadd, 1) := by decide +kernel
theorem dX6_take_137 : decode cX6_take 137 = .ok (.aload_n 0, 1) := by decide +kernel
theorem dX6_take_138 : decode cX6_take 138 = .ok (.getfield 21, 3) := by decide +kernel
theorem dX6_take_141 : decode cX6_take 141 = .ok (.isub, 1) := by decide +kernel
theorem dX6_take_142 : decode cX6_take 142 = .ok (.putfield 21, 3) := by decide +kernel
theorem dX6_take_145 : decode cX6_take 145 = .ok (.return_, 1) := by decide +kernel
theorem dX6_errorAt_0 : decode cX6_errorAt 0 = .ok (.iload_n 2, 1) := by decide +kernel
theorem dX6_errorAt_1 : decode cX6_errorAt 1 = .ok (.ifCond .lt 9, 3) := by decide +kernel
theorem dX6_errorAt_4 : decode cX6_errorAt 4 = .ok (.iload_n 2, 1) := by decide +kernel
theorem dX6_errorAt_5 : decode cX6_errorAt 5 = .ok (.aload_n 1, 1) := by decide +kernel
theorem dX6_errorAt_6 : decode cX6_errorAt 6 = .ok (.arraylength, 1) := by decide +kernel
theorem dX6_errorAt_7 : decode cX6_errorAt 7 = .ok (.if_icmp .lt 5, 3) := by decide +kernel
theorem dX6_errorAt_10 : decode cX6_errorAt 10 = .ok (.iconst 0, 1) := by decide +kernel
theorem dX6_errorAt_11 : decode cX6_errorAt 11 = .ok (.ireturn, 1) := by decide +kernel
theorem dX6_errorAt_12 : decode cX6_errorAt 12 = .ok (.iconst 0, 1) := by decide +kernel
theorem dX6_errorAt_13 : decode cX6_errorAt 13 = .ok (.istore_n 3, 1) := by decide +kernel
theorem dX6_errorAt_14 : decode cX6_errorAt 14 = .ok (.iconst 0, 1) := by decide +kernel
theorem dX6_errorAt_15 : decode cX6_errorAt 15 = .ok (.istore 4, 2) := by decide +kernel
theorem dX6_errorAt_17 : decode cX6_errorAt 17 = .ok (.iload 4, 2) := by decide +kernel
theorem dX6_errorAt_19 : decode cX6_errorAt 19 = .ok (.aload_n 0, 1) := by decide +kernel
theorem dX6_errorAt_20 : decode cX6_errorAt 20 = .ok (.getfield 21, 3) := by decide +kernel
theorem dX6_errorAt_23 : decode cX6_errorAt 23 = .ok (.if_icmp .gt 42, 3) := by decide +kernel
theorem dX6_errorAt_26 : decode cX6_errorAt 26 = .ok (.iload 4, 2) := by decide +kernel
theorem dX6_errorAt_28 : decode cX6_errorAt 28 = .ok (.iload_n 2, 1) := by decide +kernel
theorem dX6_errorAt_29 : decode cX6_errorAt 29 = .ok (.if_icmp .gt 36, 3) := by decide +kernel
theorem dX6_errorAt_32 : decode cX6_errorAt 32 = .ok (.iload 4, 2) := by decide +kernel
theorem dX6_errorAt_34 : decode cX6_errorAt 34 = .ok (.aload_n 0, 1) := by decide +kernel
theorem dX6_errorAt_35 : decode cX6_errorAt 35 = .ok (.getfield 9, 3) := by decide +kernel
theorem dX6_errorAt_38 : decode cX6_errorAt 38 = .ok (.arraylength, 1) := by decide +kernel
theorem dX6_errorAt_39 : decode cX6_errorAt 39 = .ok (.if_icmp .ge 26, 3) := by decide +kernel
theorem dX6_errorAt_42 : decode cX6_errorAt 42 = .ok (.iload_n 3, 1) := by decide +kernel
theorem dX6_errorAt_43 : decode cX6_errorAt 43 = .ok (.aload_n 0, 1) := by decide +kernel
theorem dX6_errorAt_44 : decode cX6_errorAt 44 = .ok (.getfield 9, 3) := by decide +kernel
theorem dX6_errorAt_47 : decode cX6_errorAt 47 = .ok (.iload 4, 2) := by decide +kernel
theorem dX6_errorAt_49 : decode cX6_errorAt 49 = .ok (.iaload, 1) := by decide +kernel
theorem dX6_errorAt_50 : decode cX6_errorAt 50 = .ok (.aload_n 1, 1) := by decide +kernel
theorem dX6_errorAt_51 : decode cX6_errorAt 51 = .ok (.iload_n 2, 1) := by decide +kernel
theorem dX6_errorAt_52 : decode cX6_errorAt 52 = .ok (.iload 4, 2) := by decide +kernel
theorem dX6_errorAt_54 : decode cX6_errorAt 54 = .ok (.isub, 1) := by decide +kernel
theorem dX6_errorAt_55 : decode cX6_errorAt 55 = .ok (.iaload, 1) := by decide +kernel
theorem dX6_errorAt_56 : decode cX6_errorAt 56 = .ok (.imul, 1) := by decide +kernel
theorem dX6_errorAt_57 : decode cX6_errorAt 57 = .ok (.iadd, 1) := by decide +kernel
theorem dX6_errorAt_58 : decode cX6_errorAt 58 = .ok (.istore_n 3, 1) := by decide +kernel
theorem dX6_errorAt_59 : decode cX6_errorAt 59 = .ok (.iinc 4 1, 3) := by decide +kernel
theorem dX6_errorAt_62 : decode cX6_errorAt 62 = .ok (.goto (-45), 3) := by decide +kernel
theorem dX6_errorAt_65 : decode cX6_errorAt 65 = .ok (.iload_n 3, 1) := by decide +kernel
theorem dX6_errorAt_66 : decode cX6_errorAt 66 = .ok (.aload_n 0, 1) := by decide +kernel
theorem dX6_errorAt_67 : decode cX6_errorAt 67 = .ok (.getfield 34, 3) := by decide +kernel
theorem dX6_errorAt_70 : decode cX6_errorAt 70 = .ok (.getfield 55, 3) := by decide +kernel
theorem dX6_errorAt_73 : decode cX6_errorAt 73 = .ok (.irem, 1) := by decide +kernel
theorem dX6_errorAt_74 : decode cX6_errorAt 74 = .ok (.ireturn, 1) := by decide +kernel
theorem dX6_addFormer_0 : decode cX6_addFormer 0 = .ok (.iconst 0, 1) := by decide +kernel
theorem dX6_addFormer_1 : decode cX6_addFormer 1 = .ok (.istore_n 2, 1) := by decide +kernel
theorem dX6_addFormer_2 : decode cX6_addFormer 2 = .ok (.iload_n 2, 1) := by decide +kernel
theorem dX6_addFormer_3 : decode cX6_addFormer 3 = .ok (.aload_n 0, 1) := by decide +kernel
theorem dX6_addFormer_4 : decode cX6_addFormer 4 = .ok (.getfield 25, 3) := by decide +kernel
theorem dX6_addFormer_7 : decode cX6_addFormer 7 = .ok (.if_icmp .gt 62, 3) := by decide +kernel
theorem dX6_addFormer_10 : decode cX6_addFormer 10 = .ok (.iload_n 2, 1) := by decide +kernel
theorem dX6_addFormer_11 : decode cX6_addFormer 11 = .ok (.aload_n 0, 1) := by decide +kernel
theorem dX6_addFormer_12 : decode cX6_addFormer 12 = .ok (.getfield 31, 3) := by decide +kernel
theorem dX6_addFormer_15 : decode cX6_addFormer 15 = .ok (.iadd, 1) := by decide +kernel
theorem dX6_addFormer_16 : decode cX6_addFormer 16 = .ok (.aload_n 0, 1) := by decide +kernel
theorem dX6_addFormer_17 : decode cX6_addFormer 17 = .ok (.getfield 9, 3) := by decide +kernel
theorem dX6_addFormer_20 : decode cX6_addFormer 20 = .ok (.arraylength, 1) := by decide +kernel
theorem dX6_addFormer_21 : decode cX6_addFormer 21 = .ok (.if_icmp .ge 48, 3) := by decide +kernel
theorem dX6_addFormer_24 : decode cX6_addFormer 24 = .ok (.aload_n 0, 1) := by decide +kernel
theorem dX6_addFormer_25 : decode cX6_addFormer 25 = .ok (.getfield 9, 3) := by decide +kernel
theorem dX6_addFormer_28 : decode cX6_addFormer 28 = .ok (.iload_n 2, 1) := by decide +kernel
theorem dX6_addFormer_29 : decode cX6_addFormer 29 = .ok (.aload_n 0, 1) := by decide +kernel
theorem dX6_addFormer_30 : decode cX6_addFormer 30 = .ok (.getfield 31, 3) := by decide +kernel
theorem dX6_addFormer_33 : decode cX6_addFormer 33 = .ok (.iadd, 1) := by decide +kernel
theorem dX6_addFormer_34 : decode cX6_addFormer 34 = .ok (.aload_n 0, 1) := by decide +kernel
theorem dX6_addFormer_35 : decode cX6_addFormer 35 = .ok (.getfield 9, 3) := by decide +kernel
theorem dX6_addFormer_38 : decode cX6_addFormer 38 = .ok (.iload_n 2, 1) := by decide +kernel
theorem dX6_addFormer_39 : decode cX6_addFormer 39 = .ok (.aload_n 0, 1) := by decide +kernel
theorem dX6_addFormer_40 : decode cX6_addFormer 40 = .ok (.getfield 31, 3) := by decide +kernel
theorem dX6_addFormer_43 : decode cX6_addFormer 43 = .ok (.iadd, 1) := by decide +kernel
theorem dX6_addFormer_44 : decode cX6_addFormer 44 = .ok (.iaload, 1) := by decide +kernel
theorem dX6_addFormer_45 : decode cX6_addFormer 45 = .ok (.iload_n 1, 1) := by decide +kernel
theorem dX6_addFormer_46 : decode cX6_addFormer 46 = .ok (.aload_n 0, 1) := by decide +kernel
theorem dX6_addFormer_47 : decode cX6_addFormer 47 = .ok (.getfield 15, 3) := by decide +kernel
theorem dX6_addFormer_50 : decode cX6_addFormer 50 = .ok (.iload_n 2, 1) := by decide +kernel
theorem dX6_addFormer_51 : decode cX6_addFormer 51 = .ok (.iaload, 1) := by decide +kernel
theorem dX6_addFormer_52 : decode cX6_addFormer 52 = .ok (.imul, 1) := by decide +kernel
theorem dX6_addFormer_53 : decode cX6_addFormer 53 = .ok (.iadd, 1) := by decide +kernel
theorem dX6_addFormer_54 : decode cX6_addFormer 54 = .ok (.aload_n 0, 1) := by decide +kernel
theorem dX6_addFormer_55 : decode cX6_addFormer 55 = .ok (.getfield 34, 3) := by decide +kernel
theorem dX6_addFormer_58 : decode cX6_addFormer 58 = .ok (.getfield 55, 3) := by decide +kernel
theorem dX6_addFormer_61 : decode cX6_addFormer 61 = .ok (.irem, 1) := by decide +kernel
theorem dX6_addFormer_62 : decode cX6_addFormer 62 = .ok (.iastore, 1) := by decide +kernel
theorem dX6_addFormer_63 : decode cX6_addFormer 63 = .ok (.iinc 2 1, 3) := by decide +kernel
theorem dX6_addFormer_66 : decode cX6_addFormer 66 = .ok (.goto (-64), 3) := by decide +kernel
theorem dX6_addFormer_69 : decode cX6_addFormer 69 = .ok (.return_, 1) := by decide +kernel
set_option maxRecDepth 20000 in
theorem ggX6_weight_X4_less : GoodIn wsX6_weight wsX4_less := goodIn_r _ [7, 8, 17, 18] (by decide +kernel) (by decide +kernel)
set_option maxRecDepth 20000 in
theorem gX6_weight_X4_less : GoodIn wsX6_weight (wsV RX6 68 RX4 yX4_less wsX4_less) := goodIn_app (goodIn_of _ (by decide +kernel)) ggX6_weight_X4_less
theorem dX6_weight_0 : decode cX6_weight 0 = .ok (.iload_n 1, 1) := by decide +kernel
theorem dX6_weight_1 : decode cX6_weight 1 = .ok (.iconst 1, 1) := by decide +kernel
theorem dX6_weight_2 : decode cX6_weight 2 = .ok (.if_icmp .lt 29, 3) := by decide +kernel
theorem dX6_weight_5 : decode cX6_weight 5 = .ok (.iload_n 1, 1) := by decide +kernel
theorem dX6_weight_6 : decode cX6_weight 6 = .ok (.aload_n 0, 1) := by decide +kernel
theorem dX6_weight_7 : decode cX6_weight 7 = .ok (.getfield 9, 3) := by decide +kernel
theorem dX6_weight_10 : decode cX6_weight 10 = .ok (.arraylength, 1) := by decide +kernel
theorem dX6_weight_11 : decode cX6_weight 11 = .ok (.if_icmp .ge 20, 3) := by decide +kernel
theorem dX6_weight_14 : decode cX6_weight 14 = .ok (.aload_n 0, 1) := by decide +kernel
theorem dX6_weight_15 : decode cX6_weight 15 = .ok (.getfield 34, 3) := by decide +kernel
theorem dX6_weight_18 : decode cX6_weight 18 = .ok (.iconst 0, 1) := by decide +kernel
theorem dX6_weight_19 : decode cX6_weight 19 = .ok (.aload_n 0, 1) := by decide +kernel
theorem dX6_weight_20 : decode cX6_weight 20 = .ok (.getfield 9, 3) := by decide +kernel
theorem dX6_weight_23 : decode cX6_weight 23 = .ok (.iload_n 1, 1) := by decide +kernel
theorem dX6_weight_24 : decode cX6_weight 24 = .ok (.iaload, 1) := by decide +kernel
theorem dX6_weight_25 : decode cX6_weight 25 = .ok (.invokevirtual 68, 3) := by decide +kernel
theorem dX6_weight_28 : decode cX6_weight 28 = .ok (.goto 4, 3) := by decide +kernel
theorem dX6_weight_31 : decode cX6_weight 31 = .ok (.iconst 0, 1) := by decide +kernel
theorem dX6_weight_32 : decode cX6_weight 32 = .ok (.ireturn, 1) := by decide +kernel

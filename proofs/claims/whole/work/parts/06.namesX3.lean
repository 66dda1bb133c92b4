theorem dX3_init_0 : decode cX3_init 0 = .ok (.aload_n 0, 1) := by decide +kernel
theorem dX3_init_1 : decode cX3_init 1 = .ok (.invokespecial 3, 3) := by decide +kernel
theorem dX3_init_4 : decode cX3_init 4 = .ok (.aload_n 0, 1) := by decide +kernel
theorem dX3_init_5 : decode cX3_init 5 = .ok (.bipush 17, 2) := by decide +kernel
theorem dX3_init_7 : decode cX3_init 7 = .ok (.newarray .int, 2) := by decide +kernel
theorem dX3_init_9 : decode cX3_init 9 = .ok (.putfield 9, 3) := by decide +kernel
theorem dX3_init_12 : decode cX3_init 12 = .ok (.aload_n 0, 1) := by decide +kernel
theorem dX3_init_13 : decode cX3_init 13 = .ok (.bipush 16, 2) := by decide +kernel
theorem dX3_init_15 : decode cX3_init 15 = .ok (.newarray .int, 2) := by decide +kernel
theorem dX3_init_17 : decode cX3_init 17 = .ok (.putfield 15, 3) := by decide +kernel
theorem dX3_init_20 : decode cX3_init 20 = .ok (.aload_n 0, 1) := by decide +kernel
theorem dX3_init_21 : decode cX3_init 21 = .ok (.bipush 32, 2) := by decide +kernel
theorem dX3_init_23 : decode cX3_init 23 = .ok (.newarray .int, 2) := by decide +kernel
theorem dX3_init_25 : decode cX3_init 25 = .ok (.putfield 18, 3) := by decide +kernel
theorem dX3_init_28 : decode cX3_init 28 = .ok (.aload_n 0, 1) := by decide +kernel
theorem dX3_init_29 : decode cX3_init 29 = .ok (.iconst 0, 1) := by decide +kernel
theorem dX3_init_30 : decode cX3_init 30 = .ok (.putfield 21, 3) := by decide +kernel
theorem dX3_init_33 : decode cX3_init 33 = .ok (.aload_n 0, 1) := by decide +kernel
theorem dX3_init_34 : decode cX3_init 34 = .ok (.aload_n 1, 1) := by decide +kernel
theorem dX3_init_35 : decode cX3_init 35 = .ok (.putfield 25, 3) := by decide +kernel
theorem dX3_init_38 : decode cX3_init 38 = .ok (.return_, 1) := by decide +kernel
set_option maxRecDepth 20000 in
theorem ggX3_numberAt_X3_takeWeights : GoodIn wsX3_numberAt wsX3_takeWeights := goodIn_r _ [8, 1, 9, 10, 11, 12, 13, 14, 15, 16, 17, 18, 19, 20, 21, 22, 36, 37, 38, 39, 40, 41, 42, 43, 44, 45, 46, 47, 48, 49, 50] (by decide +kernel) (by decide +kernel)
set_option maxRecDepth 20000 in
theorem gX3_numberAt_X3_takeWeights : GoodIn wsX3_numberAt (wsV RX3 32 RX3 yX3_takeWeights wsX3_takeWeights) := goodIn_app (goodIn_of _ (by decide +kernel)) ggX3_numberAt_X3_takeWeights
set_option maxRecDepth 20000 in
theorem ggX3_numberAt_X3_raise : GoodIn wsX3_numberAt wsX3_raise := goodIn_r _ [26, 2, 27, 28, 29, 7, 30, 31, 1, 32, 33, 34, 35, 3, 9, 44, 45, 46, 47, 48, 49, 50] (by decide +kernel) (by decide +kernel)
set_option maxRecDepth 20000 in
theorem gX3_numberAt_X3_raise : GoodIn wsX3_numberAt (wsV RX3 36 RX3 yX3_raise wsX3_raise) := goodIn_app (goodIn_of _ (by decide +kernel)) ggX3_numberAt_X3_raise
theorem dX3_numberAt_0 : decode cX3_numberAt 0 = .ok (.aload_n 2, 1) := by decide +kernel
theorem dX3_numberAt_1 : decode cX3_numberAt 1 = .ok (.getfield 29, 3) := by decide +kernel
theorem dX3_numberAt_4 : decode cX3_numberAt 4 = .ok (.iconst 1, 1) := by decide +kernel
theorem dX3_numberAt_5 : decode cX3_numberAt 5 = .ok (.if_icmp .lt 12, 3) := by decide +kernel
theorem dX3_numberAt_8 : decode cX3_numberAt 8 = .ok (.aload_n 2, 1) := by decide +kernel
theorem dX3_numberAt_9 : decode cX3_numberAt 9 = .ok (.getfield 29, 3) := by decide +kernel
theorem dX3_numberAt_12 : decode cX3_numberAt 12 = .ok (.bipush 16, 2) := by decide +kernel
theorem dX3_numberAt_14 : decode cX3_numberAt 14 = .ok (.if_icmp .le 5, 3) := by decide +kernel
theorem dX3_numberAt_17 : decode cX3_numberAt 17 = .ok (.iconst 0, 1) := by decide +kernel
theorem dX3_numberAt_18 : decode cX3_numberAt 18 = .ok (.ireturn, 1) := by decide +kernel
theorem dX3_numberAt_19 : decode cX3_numberAt 19 = .ok (.aload_n 0, 1) := by decide +kernel
theorem dX3_numberAt_20 : decode cX3_numberAt 20 = .ok (.aload_n 2, 1) := by decide +kernel
theorem dX3_numberAt_21 : decode cX3_numberAt 21 = .ok (.invokevirtual 32, 3) := by decide +kernel
theorem dX3_numberAt_24 : decode cX3_numberAt 24 = .ok (.aload_n 0, 1) := by decide +kernel
theorem dX3_numberAt_25 : decode cX3_numberAt 25 = .ok (.iload_n 1, 1) := by decide +kernel
theorem dX3_numberAt_26 : decode cX3_numberAt 26 = .ok (.invokevirtual 36, 3) := by decide +kernel
theorem dX3_numberAt_29 : decode cX3_numberAt 29 = .ok (.iconst 0, 1) := by decide +kernel
theorem dX3_numberAt_30 : decode cX3_numberAt 30 = .ok (.istore 4, 2) := by decide +kernel
theorem dX3_numberAt_32 : decode cX3_numberAt 32 = .ok (.iconst 0, 1) := by decide +kernel
theorem dX3_numberAt_33 : decode cX3_numberAt 33 = .ok (.istore 5, 2) := by decide +kernel
theorem dX3_numberAt_35 : decode cX3_numberAt 35 = .ok (.iload 5, 2) := by decide +kernel
theorem dX3_numberAt_37 : decode cX3_numberAt 37 = .ok (.aload_n 0, 1) := by decide +kernel
theorem dX3_numberAt_38 : decode cX3_numberAt 38 = .ok (.getfield 21, 3) := by decide +kernel
theorem dX3_numberAt_41 : decode cX3_numberAt 41 = .ok (.if_icmp .ge 33, 3) := by decide +kernel
theorem dX3_numberAt_44 : decode cX3_numberAt 44 = .ok (.iload 5, 2) := by decide +kernel
theorem dX3_numberAt_46 : decode cX3_numberAt 46 = .ok (.aload_n 3, 1) := by decide +kernel
theorem dX3_numberAt_47 : decode cX3_numberAt 47 = .ok (.arraylength, 1) := by decide +kernel
theorem dX3_numberAt_48 : decode cX3_numberAt 48 = .ok (.if_icmp .ge 26, 3) := by decide +kernel
theorem dX3_numberAt_51 : decode cX3_numberAt 51 = .ok (.iload 4, 2) := by decide +kernel
theorem dX3_numberAt_53 : decode cX3_numberAt 53 = .ok (.aload_n 0, 1) := by decide +kernel
theorem dX3_numberAt_54 : decode cX3_numberAt 54 = .ok (.getfield 15, 3) := by decide +kernel
theorem dX3_numberAt_57 : decode cX3_numberAt 57 = .ok (.iload 5, 2) := by decide +kernel
theorem dX3_numberAt_59 : decode cX3_numberAt 59 = .ok (.iaload, 1) := by decide +kernel
theorem dX3_numberAt_60 : decode cX3_numberAt 60 = .ok (.aload_n 3, 1) := by decide +kernel
theorem dX3_numberAt_61 : decode cX3_numberAt 61 = .ok (.iload 5, 2) := by decide +kernel
theorem dX3_numberAt_63 : decode cX3_numberAt 63 = .ok (.iaload, 1) := by decide +kernel
theorem dX3_numberAt_64 : decode cX3_numberAt 64 = .ok (.imul, 1) := by decide +kernel
theorem dX3_numberAt_65 : decode cX3_numberAt 65 = .ok (.iadd, 1) := by decide +kernel
theorem dX3_numberAt_66 : decode cX3_numberAt 66 = .ok (.istore 4, 2) := by decide +kernel
theorem dX3_numberAt_68 : decode cX3_numberAt 68 = .ok (.iinc 5 1, 3) := by decide +kernel
theorem dX3_numberAt_71 : decode cX3_numberAt 71 = .ok (.goto (-36), 3) := by decide +kernel
theorem dX3_numberAt_74 : decode cX3_numberAt 74 = .ok (.iload 4, 2) := by decide +kernel
theorem dX3_numberAt_76 : decode cX3_numberAt 76 = .ok (.aload_n 0, 1) := by decide +kernel
theorem dX3_numberAt_77 : decode cX3_numberAt 77 = .ok (.getfield 25, 3) := by decide +kernel
theorem dX3_numberAt_80 : decode cX3_numberAt 80 = .ok (.getfield 40, 3) := by decide +kernel
theorem dX3_numberAt_83 : decode cX3_numberAt 83 = .ok (.irem, 1) := by decide +kernel
theorem dX3_numberAt_84 : decode cX3_numberAt 84 = .ok (.ireturn, 1) := by decide +kernel
set_option maxRecDepth 20000 in
theorem ggX3_takeWeights_X6_weight : GoodIn wsX3_takeWeights wsX6_weight := goodIn_r _ [7, 8, 9, 10, 11, 12, 13, 14, 15, 16, 17, 18, 19, 20, 21, 22, 23, 29, 30] (by decide +kernel) (by decide +kernel)
set_option maxRecDepth 20000 in
theorem gX3_takeWeights_X6_weight : GoodIn wsX3_takeWeights (wsV RX3 45 RX6 yX6_weight wsX6_weight) := goodIn_app (goodIn_of _ (by decide +kernel)) ggX3_takeWeights_X6_weight
theorem dX3_takeWeights_0 : decode cX3_takeWeights 0 = .ok (.aload_n 0, 1) := by decide +kernel
theorem dX3_takeWeights_1 : decode cX3_takeWeights 1 = .ok (.aload_n 1, 1) := by decide +kernel
theorem dX3_takeWeights_2 : decode cX3_takeWeights 2 = .ok (.getfield 29, 3) := by decide +kernel
theorem dX3_takeWeights_5 : decode cX3_takeWeights 5 = .ok (.putfield 21, 3) := by decide +kernel
theorem dX3_takeWeights_8 : decode cX3_takeWeights 8 = .ok (.iconst 1, 1) := by decide +kernel
theorem dX3_takeWeights_9 : decode cX3_takeWeights 9 = .ok (.istore_n 2, 1) := by decide +kernel
theorem dX3_takeWeights_10 : decode cX3_takeWeights 10 = .ok (.iload_n 2, 1) := by decide +kernel
theorem dX3_takeWeights_11 : decode cX3_takeWeights 11 = .ok (.aload_n 0, 1) := by decide +kernel
theorem dX3_takeWeights_12 : decode cX3_takeWeights 12 = .ok (.getfield 21, 3) := by decide +kernel
theorem dX3_takeWeights_15 : decode cX3_takeWeights 15 = .ok (.if_icmp .gt 20, 3) := by decide +kernel
theorem dX3_takeWeights_18 : decode cX3_takeWeights 18 = .ok (.aload_n 0, 1) := by decide +kernel
theorem dX3_takeWeights_19 : decode cX3_takeWeights 19 = .ok (.getfield 9, 3) := by decide +kernel
theorem dX3_takeWeights_22 : decode cX3_takeWeights 22 = .ok (.iload_n 2, 1) := by decide +kernel
theorem dX3_takeWeights_23 : decode cX3_takeWeights 23 = .ok (.aload_n 1, 1) := by decide +kernel
theorem dX3_takeWeights_24 : decode cX3_takeWeights 24 = .ok (.iload_n 2, 1) := by decide +kernel
theorem dX3_takeWeights_25 : decode cX3_takeWeights 25 = .ok (.invokevirtual 45, 3) := by decide +kernel
theorem dX3_takeWeights_28 : decode cX3_takeWeights 28 = .ok (.iastore, 1) := by decide +kernel
theorem dX3_takeWeights_29 : decode cX3_takeWeights 29 = .ok (.iinc 2 1, 3) := by decide +kernel
theorem dX3_takeWeights_32 : decode cX3_takeWeights 32 = .ok (.goto (-22), 3) := by decide +kernel
theorem dX3_takeWeights_35 : decode cX3_takeWeights 35 = .ok (.return_, 1) := by decide +kernel
set_option maxRecDepth 20000 in
theorem ggX3_raise_X3_squareInto : GoodIn wsX3_raise wsX3_squareInto := goodIn_r _ [6, 7, 8, 1, 15, 16, 17, 18, 19] (by decide +kernel) (by decide +kernel)
set_option maxRecDepth 20000 in
theorem gX3_raise_X3_squareInto : GoodIn wsX3_raise (wsV RX3 49 RX3 yX3_squareInto wsX3_squareInto) := goodIn_app (goodIn_of _ (by decide +kernel)) ggX3_raise_X3_squareInto
set_option maxRecDepth 20000 in
theorem ggX3_raise_X3_reduce : GoodIn wsX3_raise wsX3_reduce := goodIn_r _ [12, 7, 8, 13, 14, 1, 15, 16, 17, 18, 19, 20, 21] (by decide +kernel) (by decide +kernel)
set_option maxRecDepth 20000 in
theorem gX3_raise_X3_reduce : GoodIn wsX3_raise (wsV RX3 52 RX3 yX3_reduce wsX3_reduce) := goodIn_app (goodIn_of _ (by decide +kernel)) ggX3_raise_X3_reduce
theorem dX3_raise_0 : decode cX3_raise 0 = .ok (.iconst 0, 1) := by decide +kernel
theorem dX3_raise_1 : decode cX3_raise 1 = .ok (.istore_n 2, 1) := by decide +kernel
theorem dX3_raise_2 : decode cX3_raise 2 = .ok (.iload_n 2, 1) := by decide +kernel
theorem dX3_raise_3 : decode cX3_raise 3 = .ok (.aload_n 0, 1) := by decide +kernel
theorem dX3_raise_4 : decode cX3_raise 4 = .ok (.getfield 15, 3) := by decide +kernel
theorem dX3_raise_7 : decode cX3_raise 7 = .ok (.arraylength, 1) := by decide +kernel
theorem dX3_raise_8 : decode cX3_raise 8 = .ok (.if_icmp .ge 16, 3) := by decide +kernel
theorem dX3_raise_11 : decode cX3_raise 11 = .ok (.aload_n 0, 1) := by decide +kernel
theorem dX3_raise_12 : decode cX3_raise 12 = .ok (.getfield 15, 3) := by decide +kernel
theorem dX3_raise_15 : decode cX3_raise 15 = .ok (.iload_n 2, 1) := by decide +kernel
theorem dX3_raise_16 : decode cX3_raise 16 = .ok (.iconst 0, 1) := by decide +kernel
theorem dX3_raise_17 : decode cX3_raise 17 = .ok (.iastore, 1) := by decide +kernel
theorem dX3_raise_18 : decode cX3_raise 18 = .ok (.iinc 2 1, 3) := by decide +kernel
theorem dX3_raise_21 : decode cX3_raise 21 = .ok (.goto (-19), 3) := by decide +kernel
theorem dX3_raise_24 : decode cX3_raise 24 = .ok (.aload_n 0, 1) := by decide +kernel
theorem dX3_raise_25 : decode cX3_raise 25 = .ok (.getfield 15, 3) := by decide +kernel
theorem dX3_raise_28 : decode cX3_raise 28 = .ok (.iconst 0, 1) := by decide +kernel
theorem dX3_raise_29 : decode cX3_raise 29 = .ok (.iconst 1, 1) := by decide +kernel
theorem dX3_raise_30 : decode cX3_raise 30 = .ok (.iastore, 1) := by decide +kernel
theorem dX3_raise_31 : decode cX3_raise 31 = .ok (.bipush 29, 2) := by decide +kernel
theorem dX3_raise_33 : decode cX3_raise 33 = .ok (.istore_n 2, 1) := by decide +kernel
theorem dX3_raise_34 : decode cX3_raise 34 = .ok (.iload_n 2, 1) := by decide +kernel
theorem dX3_raise_35 : decode cX3_raise 35 = .ok (.ifCond .lt 22, 3) := by decide +kernel
theorem dX3_raise_38 : decode cX3_raise 38 = .ok (.aload_n 0, 1) := by decide +kernel
theorem dX3_raise_39 : decode cX3_raise 39 = .ok (.iload_n 1, 1) := by decide +kernel
theorem dX3_raise_40 : decode cX3_raise 40 = .ok (.iload_n 2, 1) := by decide +kernel
theorem dX3_raise_41 : decode cX3_raise 41 = .ok (.ishr, 1) := by decide +kernel
theorem dX3_raise_42 : decode cX3_raise 42 = .ok (.iconst 1, 1) := by decide +kernel
theorem dX3_raise_43 : decode cX3_raise 43 = .ok (.iand, 1) := by decide +kernel
theorem dX3_raise_44 : decode cX3_raise 44 = .ok (.invokevirtual 49, 3) := by decide +kernel
theorem dX3_raise_47 : decode cX3_raise 47 = .ok (.aload_n 0, 1) := by decide +kernel
theorem dX3_raise_48 : decode cX3_raise 48 = .ok (.invokevirtual 52, 3) := by decide +kernel
theorem dX3_raise_51 : decode cX3_raise 51 = .ok (.iinc 2 (-1), 3) := by decide +kernel
theorem dX3_raise_54 : decode cX3_raise 54 = .ok (.goto (-20), 3) := by decide +kernel
theorem dX3_raise_57 : decode cX3_raise 57 = .ok (.return_, 1) := by decide +kernel
theorem dX3_squareInto_0 : decode cX3_squareInto 0 = .ok (.iconst 0, 1) := by decide +kernel
theorem dX3_squareInto_1 : decode cX3_squareInto 1 = .ok (.istore_n 2, 1) := by decide +kernel
theorem dX3_squareInto_2 : decode cX3_squareInto 2 = .ok (.iload_n 2, 1) := by decide +kernel
theorem dX3_squareInto_3 : decode cX3_squareInto 3 = .ok (.aload_n 0, 1) := by decide +kernel
theorem dX3_squareInto_4 : decode cX3_squareInto 4 = .ok (.getfield 18, 3) := by decide +kernel
theorem dX3_squareInto_7 : decode cX3_squareInto 7 = .ok (.arraylength, 1) := by decide +kernel
theorem dX3_squareInto_8 : decode cX3_squareInto 8 = .ok (.if_icmp .ge 16, 3) := by decide +kernel
theorem dX3_squareInto_11 : decode cX3_squareInto 11 = .ok (.aload_n 0, 1) := by decide +kernel
theorem dX3_squareInto_12 : decode cX3_squareInto 12 = .ok (.getfield 18, 3) := by decide +kernel
theorem dX3_squareInto_15 : decode cX3_squareInto 15 = .ok (.iload_n 2, 1) := by decide +kernel
theorem dX3_squareInto_16 : decode cX3_squareInto 16 = .ok (.iconst 0, 1) := by decide +kernel
theorem dX3_squareInto_17 : decode cX3_squareInto 17 = .ok (.iastore, 1) := by decide +kernel
theorem dX3_squareInto_18 : decode cX3_squareInto 18 = .ok (.iinc 2 1, 3) := by decide +kernel
theorem dX3_squareInto_21 : decode cX3_squareInto 21 = .ok (.goto (-19), 3) := by decide +kernel
theorem dX3_squareInto_24 : decode cX3_squareInto 24 = .ok (.iconst 0, 1) := by decide +kernel
theorem dX3_squareInto_25 : decode cX3_squareInto 25 = .ok (.istore_n 2, 1) := by decide +kernel
theorem dX3_squareInto_26 : decode cX3_squareInto 26 = .ok (.iload_n 2, 1) := by decide +kernel
theorem dX3_squareInto_27 : decode cX3_squareInto 27 = .ok (.aload_n 0, 1) := by decide +kernel
theorem dX3_squareInto_28 : decode cX3_squareInto 28 = .ok (.getfield 21, 3) := by decide +kernel
theorem dX3_squareInto_31 : decode cX3_squareInto 31 = .ok (.if_icmp .ge 51, 3) := by decide +kernel
theorem dX3_squareInto_34 : decode cX3_squareInto 34 = .ok (.iconst 0, 1) := by decide +kernel
theorem dX3_squareInto_35 : decode cX3_squareInto 35 = .ok (.istore_n 3, 1) := by decide +kernel
theorem dX3_squareInto_36 : decode cX3_squareInto 36 = .ok (.iload_n 3, 1) := by decide +kernel
theorem dX3_squareInto_37 : decode cX3_squareInto 37 = .ok (.aload_n 0, 1) := by decide +kernel
theorem dX3_squareInto_38 : decode cX3_squareInto 38 = .ok (.getfield 21, 3) := by decide +kernel
theorem dX3_squareInto_41 : decode cX3_squareInto 41 = .ok (.if_icmp .ge 35, 3) := by decide +kernel
theorem dX3_squareInto_44 : decode cX3_squareInto 44 = .ok (.aload_n 0, 1) := by decide +kernel
theorem dX3_squareInto_45 : decode cX3_squareInto 45 = .ok (.getfield 18, 3) := by decide +kernel
theorem dX3_squareInto_48 : decode cX3_squareInto 48 = .ok (.iload_n 2, 1) := by decide +kernel
theorem dX3_squareInto_49 : decode cX3_squareInto 49 = .ok (.iload_n 3, 1) := by decide +kernel
theorem dX3_squareInto_50 : decode cX3_squareInto 50 = .ok (.iadd, 1) := by decide +kernel
theorem dX3_squareInto_51 : decode cX3_squareInto 51 = .ok (.iload_n 1, 1) := by decide +kernel
theorem dX3_squareInto_52 : decode cX3_squareInto 52 = .ok (.iadd, 1) := by decide +kernel
theorem dX3_squareInto_53 : decode cX3_squareInto 53 = .ok (.dup2, 1) := by decide +kernel
theorem dX3_squareInto_54 : decode cX3_squareInto 54 = .ok (.iaload, 1) := by decide +kernel
theorem dX3_squareInto_55 : decode cX3_squareInto 55 = .ok (.aload_n 0, 1) := by decide +kernel
theorem dX3_squareInto_56 : decode cX3_squareInto 56 = .ok (.getfield 15, 3) := by decide +kernel
theorem dX3_squareInto_59 : decode cX3_squareInto 59 = .ok (.iload_n 2, 1) := by decide +kernel
theorem dX3_squareInto_60 : decode cX3_squareInto 60 = .ok (.iaload, 1) := by decide +kernel
theorem dX3_squareInto_61 : decode cX3_squareInto 61 = .ok (.aload_n 0, 1) := by decide +kernel
theorem dX3_squareInto_62 : decode cX3_squareInto 62 = .ok (.getfield 15, 3) := by decide +kernel
theorem dX3_squareInto_65 : decode cX3_squareInto 65 = .ok (.iload_n 3, 1) := by decide +kernel
theorem dX3_squareInto_66 : decode cX3_squareInto 66 = .ok (.iaload, 1) := by decide +kernel
theorem dX3_squareInto_67 : decode cX3_squareInto 67 = .ok (.imul, 1) := by decide +kernel
theorem dX3_squareInto_68 : decode cX3_squareInto 68 = .ok (.iadd, 1) := by decide +kernel
theorem dX3_squareInto_69 : decode cX3_squareInto 69 = .ok (.iastore, 1) := by decide +kernel
theorem dX3_squareInto_70 : decode cX3_squareInto 70 = .ok (.iinc 3 1, 3) := by decide +kernel
theorem dX3_squareInto_73 : decode cX3_squareInto 73 = .ok (.goto (-37), 3) := by decide +kernel
theorem dX3_squareInto_76 : decode cX3_squareInto 76 = .ok (.iinc 2 1, 3) := by decide +kernel
theorem dX3_squareInto_79 : decode cX3_squareInto 79 = .ok (.goto (-53), 3) := by decide +kernel
theorem dX3_squareInto_82 : decode cX3_squareInto 82 = .ok (.return_, 1) := by decide +kernel
theorem dX3_reduce_0 : decode cX3_reduce 0 = .ok (.aload_n 0, 1) := by decide +kernel
theorem dX3_reduce_1 : decode cX3_reduce 1 = .ok (.getfield 18, 3) := by decide +kernel
theorem dX3_reduce_4 : decode cX3_reduce 4 = .ok (.arraylength, 1) := by decide +kernel
theorem dX3_reduce_5 : decode cX3_reduce 5 = .ok (.iconst 1, 1) := by decide +kernel
theorem dX3_reduce_6 : decode cX3_reduce 6 = .ok (.isub, 1) := by decide +kernel
theorem dX3_reduce_7 : decode cX3_reduce 7 = .ok (.istore_n 1, 1) := by decide +kernel
theorem dX3_reduce_8 : decode cX3_reduce 8 = .ok (.iload_n 1, 1) := by decide +kernel
theorem dX3_reduce_9 : decode cX3_reduce 9 = .ok (.aload_n 0, 1) := by decide +kernel
theorem dX3_reduce_10 : decode cX3_reduce 10 = .ok (.getfield 21, 3) := by decide +kernel
theorem dX3_reduce_13 : decode cX3_reduce 13 = .ok (.if_icmp .lt 77, 3) := by decide +kernel
theorem dX3_reduce_16 : decode cX3_reduce 16 = .ok (.aload_n 0, 1) := by decide +kernel
theorem dX3_reduce_17 : decode cX3_reduce 17 = .ok (.getfield 18, 3) := by decide +kernel
theorem dX3_reduce_20 : decode cX3_reduce 20 = .ok (.iload_n 1, 1) := by decide +kernel
theorem dX3_reduce_21 : decode cX3_reduce 21 = .ok (.iaload, 1) := by decide +kernel
theorem dX3_reduce_22 : decode cX3_reduce 22 = .ok (.aload_n 0, 1) := by decide +kernel
theorem dX3_reduce_23 : decode cX3_reduce 23 = .ok (.getfield 25, 3) := by decide +kernel
theorem dX3_reduce_26 : decode cX3_reduce 26 = .ok (.getfield 40, 3) := by decide +kernel
theorem dX3_reduce_29 : decode cX3_reduce 29 = .ok (.irem, 1) := by decide +kernel
theorem dX3_reduce_30 : decode cX3_reduce 30 = .ok (.istore_n 2, 1) := by decide +kernel
theorem dX3_reduce_31 : decode cX3_reduce 31 = .ok (.iconst 1, 1) := by decide +kernel
theorem dX3_reduce_32 : decode cX3_reduce 32 = .ok (.istore_n 3, 1) := by decide +kernel
theorem dX3_reduce_33 : decode cX3_reduce 33 = .ok (.iload_n 3, 1) := by decide +kernel
theorem dX3_reduce_34 : decode cX3_reduce 34 = .ok (.aload_n 0, 1) := by decide +kernel
theorem dX3_reduce_35 : decode cX3_reduce 35 = .ok (.getfield 21, 3) := by decide +kernel
theorem dX3_reduce_38 : decode cX3_reduce 38 = .ok (.if_icmp .gt 46, 3) := by decide +kernel
theorem dX3_reduce_41 : decode cX3_reduce 41 = .ok (.iload_n 2, 1) := by decide +kernel
theorem dX3_reduce_42 : decode cX3_reduce 42 = .ok (.ifCond .eq 42, 3) := by decide +kernel
theorem dX3_reduce_45 : decode cX3_reduce 45 = .ok (.aload_n 0, 1) := by decide +kernel
theorem dX3_reduce_46 : decode cX3_reduce 46 = .ok (.getfield 18, 3) := by decide +kernel
theorem dX3_reduce_49 : decode cX3_reduce 49 = .ok (.iload_n 1, 1) := by decide +kernel
theorem dX3_reduce_50 : decode cX3_reduce 50 = .ok (.iload_n 3, 1) := by decide +kernel
theorem dX3_reduce_51 : decode cX3_reduce 51 = .ok (.isub, 1) := by decide +kernel
theorem dX3_reduce_52 : decode cX3_reduce 52 = .ok (.aload_n 0, 1) := by decide +kernel
theorem dX3_reduce_53 : decode cX3_reduce 53 = .ok (.getfield 18, 3) := by decide +kernel
theorem dX3_reduce_56 : decode cX3_reduce 56 = .ok (.iload_n 1, 1) := by decide +kernel
theorem dX3_reduce_57 : decode cX3_reduce 57 = .ok (.iload_n 3, 1) := by decide +kernel
theorem dX3_reduce_58 : decode cX3_reduce 58 = .ok (.isub, 1) := by decide +kernel
theorem dX3_reduce_59 : decode cX3_reduce 59 = .ok (.iaload, 1) := by decide +kernel
theorem dX3_reduce_60 : decode cX3_reduce 60 = .ok (.iload_n 2, 1) := by decide +kernel
theorem dX3_reduce_61 : decode cX3_reduce 61 = .ok (.aload_n 0, 1) := by decide +kernel
theorem dX3_reduce_62 : decode cX3_reduce 62 = .ok (.getfield 9, 3) := by decide +kernel
theorem dX3_reduce_65 : decode cX3_reduce 65 = .ok (.iload_n 3, 1) := by decide +kernel
theorem dX3_reduce_66 : decode cX3_reduce 66 = .ok (.iaload, 1) := by decide +kernel
theorem dX3_reduce_67 : decode cX3_reduce 67 = .ok (.imul, 1) := by decide +kernel
theorem dX3_reduce_68 : decode cX3_reduce 68 = .ok (.iadd, 1) := by decide +kernel
theorem dX3_reduce_69 : decode cX3_reduce 69 = .ok (.aload_n 0, 1) := by decide +kernel
theorem dX3_reduce_70 : decode cX3_reduce 70 = .ok (.getfield 25, 3) := by decide +kernel
theorem dX3_reduce_73 : decode cX3_reduce 73 = .ok (.getfield 40, 3) := by decide +kernel
theorem dX3_reduce_76 : decode cX3_reduce 76 = .ok (.irem, 1) := by decide +kernel
theorem dX3_reduce_77 : decode cX3_reduce 77 = .ok (.iastore, 1) := by decide +kernel
theorem dX3_reduce_78 : decode cX3_reduce 78 = .ok (.iinc 3 1, 3) := by decide +kernel
theorem dX3_reduce_81 : decode cX3_reduce 81 = .ok (.goto (-48), 3) := by decide +kernel
theorem dX3_reduce_84 : decode cX3_reduce 84 = .ok (.iinc 1 (-1), 3) := by decide +kernel
theorem dX3_reduce_87 : decode cX3_reduce 87 = .ok (.goto (-79), 3) := by decide +kernel
theorem dX3_reduce_90 : decode cX3_reduce 90 = .ok (.iconst 0, 1) := by decide +kernel
theorem dX3_reduce_91 : decode cX3_reduce 91 = .ok (.istore_n 1, 1) := by decide +kernel
theorem dX3_reduce_92 : decode cX3_reduce 92 = .ok (.iload_n 1, 1) := by decide +kernel
theorem dX3_reduce_93 : decode cX3_reduce 93 = .ok (.aload_n 0, 1) := by decide +kernel
theorem dX3_reduce_94 : decode cX3_reduce 94 = .ok (.getfield 21, 3) := by decide +kernel
theorem dX3_reduce_97 : decode cX3_reduce 97 = .ok (.if_icmp .ge 29, 3) := by decide +kernel
theorem dX3_reduce_100 : decode cX3_reduce 100 = .ok (.aload_n 0, 1) := by decide +kernel
theorem dX3_reduce_101 : decode cX3_reduce 101 = .ok (.getfield 15, 3) := by decide +kernel
theorem dX3_reduce_104 : decode cX3_reduce 104 = .ok (.iload_n 1, 1) := by decide +kernel
theorem dX3_reduce_105 : decode cX3_reduce 105 = .ok (.aload_n 0, 1) := by decide +kernel
theorem dX3_reduce_106 : decode cX3_reduce 106 = .ok (.getfield 18, 3) := by decide +kernel
theorem dX3_reduce_109 : decode cX3_reduce 109 = .ok (.iload_n 1, 1) := by decide +kernel
theorem dX3_reduce_110 : decode cX3_reduce 110 = .ok (.iaload, 1) := by decide +kernel
theorem dX3_reduce_111 : decode cX3_reduce 111 = .ok (.aload_n 0, 1) := by decide +kernel
theorem dX3_reduce_112 : decode cX3_reduce 112 = .ok (.getfield 25, 3) := by decide +kernel
theorem dX3_reduce_115 : decode cX3_reduce 115 = .ok (.getfield 40, 3) := by decide +kernel
theorem dX3_reduce_118 : decode cX3_reduce 118 = .ok (.irem, 1) := by decide +kernel
theorem dX3_reduce_119 : decode cX3_reduce 119 = .ok (.iastore, 1) := by decide +kernel
theorem dX3_reduce_120 : decode cX3_reduce 120 = .ok (.iinc 1 1, 3) := by decide +kernel
theorem dX3_reduce_123 : decode cX3_reduce 123 = .ok (.goto (-31), 3) := by decide +kernel
theorem dX3_reduce_126 : decode cX3_reduce 126 = .ok (.return_, 1) := by decide +kernel

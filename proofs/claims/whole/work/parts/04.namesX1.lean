theorem dX1_init_0 : decode cX1_init 0 = .ok (.aload_n 0, 1) := by decide +kernel
theorem dX1_init_1 : decode cX1_init 1 = .ok (.invokespecial 3, 3) := by decide +kernel
theorem dX1_init_4 : decode cX1_init 4 = .ok (.aload_n 0, 1) := by decide +kernel
theorem dX1_init_5 : decode cX1_init 5 = .ok (.bipush 16, 2) := by decide +kernel
theorem dX1_init_7 : decode cX1_init 7 = .ok (.newarray .int, 2) := by decide +kernel
theorem dX1_init_9 : decode cX1_init 9 = .ok (.putfield 11, 3) := by decide +kernel
theorem dX1_init_12 : decode cX1_init 12 = .ok (.aload_n 0, 1) := by decide +kernel
theorem dX1_init_13 : decode cX1_init 13 = .ok (.bipush 115, 2) := by decide +kernel
theorem dX1_init_15 : decode cX1_init 15 = .ok (.newarray .int, 2) := by decide +kernel
theorem dX1_init_17 : decode cX1_init 17 = .ok (.putfield 15, 3) := by decide +kernel
theorem dX1_init_20 : decode cX1_init 20 = .ok (.aload_n 0, 1) := by decide +kernel
theorem dX1_init_21 : decode cX1_init 21 = .ok (.bipush 23, 2) := by decide +kernel
theorem dX1_init_23 : decode cX1_init 23 = .ok (.newarray .int, 2) := by decide +kernel
theorem dX1_init_25 : decode cX1_init 25 = .ok (.putfield 18, 3) := by decide +kernel
theorem dX1_init_28 : decode cX1_init 28 = .ok (.aload_n 0, 1) := by decide +kernel
theorem dX1_init_29 : decode cX1_init 29 = .ok (.iconst 0, 1) := by decide +kernel
theorem dX1_init_30 : decode cX1_init 30 = .ok (.putfield 21, 3) := by decide +kernel
theorem dX1_init_33 : decode cX1_init 33 = .ok (.aload_n 0, 1) := by decide +kernel
theorem dX1_init_34 : decode cX1_init 34 = .ok (.iconst 0, 1) := by decide +kernel
theorem dX1_init_35 : decode cX1_init 35 = .ok (.putfield 25, 3) := by decide +kernel
theorem dX1_init_38 : decode cX1_init 38 = .ok (.aload_n 0, 1) := by decide +kernel
theorem dX1_init_39 : decode cX1_init 39 = .ok (.aload_n 1, 1) := by decide +kernel
theorem dX1_init_40 : decode cX1_init 40 = .ok (.putfield 28, 3) := by decide +kernel
theorem dX1_init_43 : decode cX1_init 43 = .ok (.aload_n 0, 1) := by decide +kernel
theorem dX1_init_44 : decode cX1_init 44 = .ok (.aload_n 2, 1) := by decide +kernel
theorem dX1_init_45 : decode cX1_init 45 = .ok (.putfield 32, 3) := by decide +kernel
theorem dX1_init_48 : decode cX1_init 48 = .ok (.return_, 1) := by decide +kernel
theorem dX1_drop_0 : decode cX1_drop 0 = .ok (.aload_n 0, 1) := by decide +kernel
theorem dX1_drop_1 : decode cX1_drop 1 = .ok (.iconst 0, 1) := by decide +kernel
theorem dX1_drop_2 : decode cX1_drop 2 = .ok (.putfield 25, 3) := by decide +kernel
theorem dX1_drop_5 : decode cX1_drop 5 = .ok (.return_, 1) := by decide +kernel
theorem dX1_add_0 : decode cX1_add 0 = .ok (.aload_n 0, 1) := by decide +kernel
theorem dX1_add_1 : decode cX1_add 1 = .ok (.getfield 25, 3) := by decide +kernel
theorem dX1_add_4 : decode cX1_add 4 = .ok (.iconst 4, 1) := by decide +kernel
theorem dX1_add_5 : decode cX1_add 5 = .ok (.if_icmp .lt 5, 3) := by decide +kernel
theorem dX1_add_8 : decode cX1_add 8 = .ok (.iconst 0, 1) := by decide +kernel
theorem dX1_add_9 : decode cX1_add 9 = .ok (.ireturn, 1) := by decide +kernel
theorem dX1_add_10 : decode cX1_add 10 = .ok (.aload_n 0, 1) := by decide +kernel
theorem dX1_add_11 : decode cX1_add 11 = .ok (.getfield 25, 3) := by decide +kernel
theorem dX1_add_14 : decode cX1_add 14 = .ok (.iconst 4, 1) := by decide +kernel
theorem dX1_add_15 : decode cX1_add 15 = .ok (.imul, 1) := by decide +kernel
theorem dX1_add_16 : decode cX1_add 16 = .ok (.istore 5, 2) := by decide +kernel
theorem dX1_add_18 : decode cX1_add 18 = .ok (.aload_n 0, 1) := by decide +kernel
theorem dX1_add_19 : decode cX1_add 19 = .ok (.getfield 11, 3) := by decide +kernel
theorem dX1_add_22 : decode cX1_add 22 = .ok (.iload 5, 2) := by decide +kernel
theorem dX1_add_24 : decode cX1_add 24 = .ok (.iconst 0, 1) := by decide +kernel
theorem dX1_add_25 : decode cX1_add 25 = .ok (.iadd, 1) := by decide +kernel
theorem dX1_add_26 : decode cX1_add 26 = .ok (.iload_n 1, 1) := by decide +kernel
theorem dX1_add_27 : decode cX1_add 27 = .ok (.iastore, 1) := by decide +kernel
theorem dX1_add_28 : decode cX1_add 28 = .ok (.aload_n 0, 1) := by decide +kernel
theorem dX1_add_29 : decode cX1_add 29 = .ok (.getfield 11, 3) := by decide +kernel
theorem dX1_add_32 : decode cX1_add 32 = .ok (.iload 5, 2) := by decide +kernel
theorem dX1_add_34 : decode cX1_add 34 = .ok (.iconst 1, 1) := by decide +kernel
theorem dX1_add_35 : decode cX1_add 35 = .ok (.iadd, 1) := by decide +kernel
theorem dX1_add_36 : decode cX1_add 36 = .ok (.iload_n 2, 1) := by decide +kernel
theorem dX1_add_37 : decode cX1_add 37 = .ok (.iastore, 1) := by decide +kernel
theorem dX1_add_38 : decode cX1_add 38 = .ok (.aload_n 0, 1) := by decide +kernel
theorem dX1_add_39 : decode cX1_add 39 = .ok (.getfield 11, 3) := by decide +kernel
theorem dX1_add_42 : decode cX1_add 42 = .ok (.iload 5, 2) := by decide +kernel
theorem dX1_add_44 : decode cX1_add 44 = .ok (.iconst 2, 1) := by decide +kernel
theorem dX1_add_45 : decode cX1_add 45 = .ok (.iadd, 1) := by decide +kernel
theorem dX1_add_46 : decode cX1_add 46 = .ok (.iload_n 3, 1) := by decide +kernel
theorem dX1_add_47 : decode cX1_add 47 = .ok (.iastore, 1) := by decide +kernel
theorem dX1_add_48 : decode cX1_add 48 = .ok (.aload_n 0, 1) := by decide +kernel
theorem dX1_add_49 : decode cX1_add 49 = .ok (.getfield 11, 3) := by decide +kernel
theorem dX1_add_52 : decode cX1_add 52 = .ok (.iload 5, 2) := by decide +kernel
theorem dX1_add_54 : decode cX1_add 54 = .ok (.iconst 3, 1) := by decide +kernel
theorem dX1_add_55 : decode cX1_add 55 = .ok (.iadd, 1) := by decide +kernel
theorem dX1_add_56 : decode cX1_add 56 = .ok (.iload 4, 2) := by decide +kernel
theorem dX1_add_58 : decode cX1_add 58 = .ok (.iastore, 1) := by decide +kernel
theorem dX1_add_59 : decode cX1_add 59 = .ok (.aload_n 0, 1) := by decide +kernel
theorem dX1_add_60 : decode cX1_add 60 = .ok (.dup, 1) := by decide +kernel
theorem dX1_add_61 : decode cX1_add 61 = .ok (.getfield 25, 3) := by decide +kernel
theorem dX1_add_64 : decode cX1_add 64 = .ok (.iconst 1, 1) := by decide +kernel
theorem dX1_add_65 : decode cX1_add 65 = .ok (.iadd, 1) := by decide +kernel
theorem dX1_add_66 : decode cX1_add 66 = .ok (.putfield 25, 3) := by decide +kernel
theorem dX1_add_69 : decode cX1_add 69 = .ok (.iconst 1, 1) := by decide +kernel
theorem dX1_add_70 : decode cX1_add 70 = .ok (.ireturn, 1) := by decide +kernel
theorem dX1_part_0 : decode cX1_part 0 = .ok (.iload_n 1, 1) := by decide +kernel
theorem dX1_part_1 : decode cX1_part 1 = .ok (.iconst 4, 1) := by decide +kernel
theorem dX1_part_2 : decode cX1_part 2 = .ok (.imul, 1) := by decide +kernel
theorem dX1_part_3 : decode cX1_part 3 = .ok (.iload_n 2, 1) := by decide +kernel
theorem dX1_part_4 : decode cX1_part 4 = .ok (.iadd, 1) := by decide +kernel
theorem dX1_part_5 : decode cX1_part 5 = .ok (.istore_n 3, 1) := by decide +kernel
theorem dX1_part_6 : decode cX1_part 6 = .ok (.iload_n 3, 1) := by decide +kernel
theorem dX1_part_7 : decode cX1_part 7 = .ok (.ifCond .lt 21, 3) := by decide +kernel
theorem dX1_part_10 : decode cX1_part 10 = .ok (.iload_n 3, 1) := by decide +kernel
theorem dX1_part_11 : decode cX1_part 11 = .ok (.aload_n 0, 1) := by decide +kernel
theorem dX1_part_12 : decode cX1_part 12 = .ok (.getfield 11, 3) := by decide +kernel
theorem dX1_part_15 : decode cX1_part 15 = .ok (.arraylength, 1) := by decide +kernel
theorem dX1_part_16 : decode cX1_part 16 = .ok (.if_icmp .ge 12, 3) := by decide +kernel
theorem dX1_part_19 : decode cX1_part 19 = .ok (.aload_n 0, 1) := by decide +kernel
theorem dX1_part_20 : decode cX1_part 20 = .ok (.getfield 11, 3) := by decide +kernel
theorem dX1_part_23 : decode cX1_part 23 = .ok (.iload_n 3, 1) := by decide +kernel
theorem dX1_part_24 : decode cX1_part 24 = .ok (.iaload, 1) := by decide +kernel
theorem dX1_part_25 : decode cX1_part 25 = .ok (.goto 4, 3) := by decide +kernel
theorem dX1_part_28 : decode cX1_part 28 = .ok (.iconst 0, 1) := by decide +kernel
theorem dX1_part_29 : decode cX1_part 29 = .ok (.ireturn, 1) := by decide +kernel
set_option maxRecDepth 20000 in
theorem ggX1_answer_X1_ofTwoLetters : GoodIn wsX1_answer wsX1_ofTwoLetters := goodIn_r _ [9, 2, 3, 4, 10, 11, 12, 8, 13, 14, 15, 16, 17, 18, 19, 20, 21, 22, 23, 24, 25, 26, 27, 28, 29, 30, 31, 32, 33, 34, 35, 36, 37, 38, 39, 40, 41, 42, 43, 44, 47, 48, 49, 45, 46] (by decide +kernel) (by decide +kernel)
set_option maxRecDepth 20000 in
theorem gX1_answer_X1_ofTwoLetters : GoodIn wsX1_answer (wsV RX1 36 RX1 yX1_ofTwoLetters wsX1_ofTwoLetters) := goodIn_app (goodIn_of _ (by decide +kernel)) ggX1_answer_X1_ofTwoLetters
set_option maxRecDepth 20000 in
theorem ggX1_answer_X1_part : GoodIn wsX1_answer wsX1_part := goodIn_r _ [13, 14, 38, 39, 40, 41, 42, 43, 44] (by decide +kernel) (by decide +kernel)
set_option maxRecDepth 20000 in
theorem gX1_answer_X1_part : GoodIn wsX1_answer (wsV RX1 40 RX1 yX1_part wsX1_part) := goodIn_app (goodIn_of _ (by decide +kernel)) ggX1_answer_X1_part
set_option maxRecDepth 20000 in
theorem ggX1_answer_X0_letter : GoodIn wsX1_answer wsX0_letter := goodIn_r _ [19, 20, 21, 22, 23, 24, 25, 26, 27, 28, 29, 30, 31, 32, 33, 34, 35, 36, 47, 48, 49, 45, 46] (by decide +kernel) (by decide +kernel)
set_option maxRecDepth 20000 in
theorem gX1_answer_X0_letter : GoodIn wsX1_answer (wsV RX1 44 RX0 yX0_letter wsX0_letter) := goodIn_app (goodIn_of _ (by decide +kernel)) ggX1_answer_X0_letter
set_option maxRecDepth 20000 in
theorem ggX1_answer_X4_times : GoodIn wsX1_answer wsX4_times := goodIn_r _ [36, 28, 45, 46] (by decide +kernel) (by decide +kernel)
set_option maxRecDepth 20000 in
theorem gX1_answer_X4_times : GoodIn wsX1_answer (wsV RX1 49 RX4 yX4_times wsX4_times) := goodIn_app (goodIn_of _ (by decide +kernel)) ggX1_answer_X4_times
theorem dX1_answer_0 : decode cX1_answer 0 = .ok (.iconst 0, 1) := by decide +kernel
theorem dX1_answer_1 : decode cX1_answer 1 = .ok (.istore 4, 2) := by decide +kernel
theorem dX1_answer_3 : decode cX1_answer 3 = .ok (.iconst 0, 1) := by decide +kernel
theorem dX1_answer_4 : decode cX1_answer 4 = .ok (.istore 5, 2) := by decide +kernel
theorem dX1_answer_6 : decode cX1_answer 6 = .ok (.iload 5, 2) := by decide +kernel
theorem dX1_answer_8 : decode cX1_answer 8 = .ok (.aload_n 0, 1) := by decide +kernel
theorem dX1_answer_9 : decode cX1_answer 9 = .ok (.getfield 25, 3) := by decide +kernel
theorem dX1_answer_12 : decode cX1_answer 12 = .ok (.if_icmp .ge 48, 3) := by decide +kernel
theorem dX1_answer_15 : decode cX1_answer 15 = .ok (.iload 4, 2) := by decide +kernel
theorem dX1_answer_17 : decode cX1_answer 17 = .ok (.aload_n 0, 1) := by decide +kernel
theorem dX1_answer_18 : decode cX1_answer 18 = .ok (.getfield 28, 3) := by decide +kernel
theorem dX1_answer_21 : decode cX1_answer 21 = .ok (.aload_n 0, 1) := by decide +kernel
theorem dX1_answer_22 : decode cX1_answer 22 = .ok (.iload 5, 2) := by decide +kernel
theorem dX1_answer_24 : decode cX1_answer 24 = .ok (.iload_n 1, 1) := by decide +kernel
theorem dX1_answer_25 : decode cX1_answer 25 = .ok (.iload_n 2, 1) := by decide +kernel
theorem dX1_answer_26 : decode cX1_answer 26 = .ok (.invokevirtual 36, 3) := by decide +kernel
theorem dX1_answer_29 : decode cX1_answer 29 = .ok (.aload_n 0, 1) := by decide +kernel
theorem dX1_answer_30 : decode cX1_answer 30 = .ok (.getfield 32, 3) := by decide +kernel
theorem dX1_answer_33 : decode cX1_answer 33 = .ok (.aload_n 0, 1) := by decide +kernel
theorem dX1_answer_34 : decode cX1_answer 34 = .ok (.getfield 21, 3) := by decide +kernel
theorem dX1_answer_37 : decode cX1_answer 37 = .ok (.iload_n 3, 1) := by decide +kernel
theorem dX1_answer_38 : decode cX1_answer 38 = .ok (.aload_n 0, 1) := by decide +kernel
theorem dX1_answer_39 : decode cX1_answer 39 = .ok (.iload 5, 2) := by decide +kernel
theorem dX1_answer_41 : decode cX1_answer 41 = .ok (.iconst 3, 1) := by decide +kernel
theorem dX1_answer_42 : decode cX1_answer 42 = .ok (.invokevirtual 40, 3) := by decide +kernel
theorem dX1_answer_45 : decode cX1_answer 45 = .ok (.invokevirtual 44, 3) := by decide +kernel
theorem dX1_answer_48 : decode cX1_answer 48 = .ok (.invokevirtual 49, 3) := by decide +kernel
theorem dX1_answer_51 : decode cX1_answer 51 = .ok (.iadd, 1) := by decide +kernel
theorem dX1_answer_52 : decode cX1_answer 52 = .ok (.istore 4, 2) := by decide +kernel
theorem dX1_answer_54 : decode cX1_answer 54 = .ok (.iinc 5 1, 3) := by decide +kernel
theorem dX1_answer_57 : decode cX1_answer 57 = .ok (.goto (-51), 3) := by decide +kernel
theorem dX1_answer_60 : decode cX1_answer 60 = .ok (.iload 4, 2) := by decide +kernel
theorem dX1_answer_62 : decode cX1_answer 62 = .ok (.aload_n 0, 1) := by decide +kernel
theorem dX1_answer_63 : decode cX1_answer 63 = .ok (.getfield 28, 3) := by decide +kernel
theorem dX1_answer_66 : decode cX1_answer 66 = .ok (.getfield 54, 3) := by decide +kernel
theorem dX1_answer_69 : decode cX1_answer 69 = .ok (.irem, 1) := by decide +kernel
theorem dX1_answer_70 : decode cX1_answer 70 = .ok (.ireturn, 1) := by decide +kernel
set_option maxRecDepth 20000 in
theorem ggX1_ofTwoLetters_X1_part : GoodIn wsX1_ofTwoLetters wsX1_part := goodIn_r _ [8, 9, 33, 34, 35, 36, 37, 38, 39] (by decide +kernel) (by decide +kernel)
set_option maxRecDepth 20000 in
theorem gX1_ofTwoLetters_X1_part : GoodIn wsX1_ofTwoLetters (wsV RX1 40 RX1 yX1_part wsX1_part) := goodIn_app (goodIn_of _ (by decide +kernel)) ggX1_ofTwoLetters_X1_part
set_option maxRecDepth 20000 in
theorem ggX1_ofTwoLetters_X0_letter : GoodIn wsX1_ofTwoLetters wsX0_letter := goodIn_r _ [14, 15, 16, 17, 18, 19, 20, 21, 22, 23, 24, 25, 26, 27, 28, 29, 30, 31, 40, 41, 42, 43, 44] (by decide +kernel) (by decide +kernel)
set_option maxRecDepth 20000 in
theorem gX1_ofTwoLetters_X0_letter : GoodIn wsX1_ofTwoLetters (wsV RX1 44 RX0 yX0_letter wsX0_letter) := goodIn_app (goodIn_of _ (by decide +kernel)) ggX1_ofTwoLetters_X0_letter
set_option maxRecDepth 20000 in
theorem ggX1_ofTwoLetters_X4_times : GoodIn wsX1_ofTwoLetters wsX4_times := goodIn_r _ [31, 23, 43, 44] (by decide +kernel) (by decide +kernel)
set_option maxRecDepth 20000 in
theorem gX1_ofTwoLetters_X4_times : GoodIn wsX1_ofTwoLetters (wsV RX1 49 RX4 yX4_times wsX4_times) := goodIn_app (goodIn_of _ (by decide +kernel)) ggX1_ofTwoLetters_X4_times
theorem dX1_ofTwoLetters_0 : decode cX1_ofTwoLetters 0 = .ok (.aload_n 0, 1) := by decide +kernel
theorem dX1_ofTwoLetters_1 : decode cX1_ofTwoLetters 1 = .ok (.getfield 28, 3) := by decide +kernel
theorem dX1_ofTwoLetters_4 : decode cX1_ofTwoLetters 4 = .ok (.aload_n 0, 1) := by decide +kernel
theorem dX1_ofTwoLetters_5 : decode cX1_ofTwoLetters 5 = .ok (.iload_n 1, 1) := by decide +kernel
theorem dX1_ofTwoLetters_6 : decode cX1_ofTwoLetters 6 = .ok (.iconst 0, 1) := by decide +kernel
theorem dX1_ofTwoLetters_7 : decode cX1_ofTwoLetters 7 = .ok (.invokevirtual 40, 3) := by decide +kernel
theorem dX1_ofTwoLetters_10 : decode cX1_ofTwoLetters 10 = .ok (.aload_n 0, 1) := by decide +kernel
theorem dX1_ofTwoLetters_11 : decode cX1_ofTwoLetters 11 = .ok (.getfield 32, 3) := by decide +kernel
theorem dX1_ofTwoLetters_14 : decode cX1_ofTwoLetters 14 = .ok (.aload_n 0, 1) := by decide +kernel
theorem dX1_ofTwoLetters_15 : decode cX1_ofTwoLetters 15 = .ok (.getfield 21, 3) := by decide +kernel
theorem dX1_ofTwoLetters_18 : decode cX1_ofTwoLetters 18 = .ok (.iload_n 2, 1) := by decide +kernel
theorem dX1_ofTwoLetters_19 : decode cX1_ofTwoLetters 19 = .ok (.aload_n 0, 1) := by decide +kernel
theorem dX1_ofTwoLetters_20 : decode cX1_ofTwoLetters 20 = .ok (.iload_n 1, 1) := by decide +kernel
theorem dX1_ofTwoLetters_21 : decode cX1_ofTwoLetters 21 = .ok (.iconst 1, 1) := by decide +kernel
theorem dX1_ofTwoLetters_22 : decode cX1_ofTwoLetters 22 = .ok (.invokevirtual 40, 3) := by decide +kernel
theorem dX1_ofTwoLetters_25 : decode cX1_ofTwoLetters 25 = .ok (.invokevirtual 44, 3) := by decide +kernel
theorem dX1_ofTwoLetters_28 : decode cX1_ofTwoLetters 28 = .ok (.invokevirtual 49, 3) := by decide +kernel
theorem dX1_ofTwoLetters_31 : decode cX1_ofTwoLetters 31 = .ok (.istore 4, 2) := by decide +kernel
theorem dX1_ofTwoLetters_33 : decode cX1_ofTwoLetters 33 = .ok (.aload_n 0, 1) := by decide +kernel
theorem dX1_ofTwoLetters_34 : decode cX1_ofTwoLetters 34 = .ok (.getfield 28, 3) := by decide +kernel
theorem dX1_ofTwoLetters_37 : decode cX1_ofTwoLetters 37 = .ok (.iload 4, 2) := by decide +kernel
theorem dX1_ofTwoLetters_39 : decode cX1_ofTwoLetters 39 = .ok (.aload_n 0, 1) := by decide +kernel
theorem dX1_ofTwoLetters_40 : decode cX1_ofTwoLetters 40 = .ok (.getfield 32, 3) := by decide +kernel
theorem dX1_ofTwoLetters_43 : decode cX1_ofTwoLetters 43 = .ok (.aload_n 0, 1) := by decide +kernel
theorem dX1_ofTwoLetters_44 : decode cX1_ofTwoLetters 44 = .ok (.getfield 21, 3) := by decide +kernel
theorem dX1_ofTwoLetters_47 : decode cX1_ofTwoLetters 47 = .ok (.iload_n 3, 1) := by decide +kernel
theorem dX1_ofTwoLetters_48 : decode cX1_ofTwoLetters 48 = .ok (.aload_n 0, 1) := by decide +kernel
theorem dX1_ofTwoLetters_49 : decode cX1_ofTwoLetters 49 = .ok (.iload_n 1, 1) := by decide +kernel
theorem dX1_ofTwoLetters_50 : decode cX1_ofTwoLetters 50 = .ok (.iconst 2, 1) := by decide +kernel
theorem dX1_ofTwoLetters_51 : decode cX1_ofTwoLetters 51 = .ok (.invokevirtual 40, 3) := by decide +kernel
theorem dX1_ofTwoLetters_54 : decode cX1_ofTwoLetters 54 = .ok (.invokevirtual 44, 3) := by decide +kernel
theorem dX1_ofTwoLetters_57 : decode cX1_ofTwoLetters 57 = .ok (.invokevirtual 49, 3) := by decide +kernel
theorem dX1_ofTwoLetters_60 : decode cX1_ofTwoLetters 60 = .ok (.ireturn, 1) := by decide +kernel
set_option maxRecDepth 20000 in
theorem ggX1_readyLines_X0_letter : GoodIn wsX1_readyLines wsX0_letter := goodIn_r _ [9, 10, 11, 12, 13, 14, 15, 16, 17, 18, 19, 20, 21, 22, 23, 24, 25, 26, 36, 37, 38, 34, 35] (by decide +kernel) (by decide +kernel)
set_option maxRecDepth 20000 in
theorem gX1_readyLines_X0_letter : GoodIn wsX1_readyLines (wsV RX1 44 RX0 yX0_letter wsX0_letter) := goodIn_app (goodIn_of _ (by decide +kernel)) ggX1_readyLines_X0_letter
theorem dX1_readyLines_0 : decode cX1_readyLines 0 = .ok (.iconst 0, 1) := by decide +kernel
theorem dX1_readyLines_1 : decode cX1_readyLines 1 = .ok (.istore_n 1, 1) := by decide +kernel
theorem dX1_readyLines_2 : decode cX1_readyLines 2 = .ok (.iload_n 1, 1) := by decide +kernel
theorem dX1_readyLines_3 : decode cX1_readyLines 3 = .ok (.iconst 4, 1) := by decide +kernel
theorem dX1_readyLines_4 : decode cX1_readyLines 4 = .ok (.if_icmp .gt 58, 3) := by decide +kernel
theorem dX1_readyLines_7 : decode cX1_readyLines 7 = .ok (.iconst 0, 1) := by decide +kernel
theorem dX1_readyLines_8 : decode cX1_readyLines 8 = .ok (.istore_n 2, 1) := by decide +kernel
theorem dX1_readyLines_9 : decode cX1_readyLines 9 = .ok (.iload_n 2, 1) := by decide +kernel
theorem dX1_readyLines_10 : decode cX1_readyLines 10 = .ok (.aload_n 0, 1) := by decide +kernel
theorem dX1_readyLines_11 : decode cX1_readyLines 11 = .ok (.getfield 28, 3) := by decide +kernel
theorem dX1_readyLines_14 : decode cX1_readyLines 14 = .ok (.getfield 54, 3) := by decide +kernel
theorem dX1_readyLines_17 : decode cX1_readyLines 17 = .ok (.if_icmp .ge 39, 3) := by decide +kernel
theorem dX1_readyLines_20 : decode cX1_readyLines 20 = .ok (.iload_n 2, 1) := by decide +kernel
theorem dX1_readyLines_21 : decode cX1_readyLines 21 = .ok (.bipush 23, 2) := by decide +kernel
theorem dX1_readyLines_23 : decode cX1_readyLines 23 = .ok (.if_icmp .ge 33, 3) := by decide +kernel
theorem dX1_readyLines_26 : decode cX1_readyLines 26 = .ok (.aload_n 0, 1) := by decide +kernel
theorem dX1_readyLines_27 : decode cX1_readyLines 27 = .ok (.getfield 15, 3) := by decide +kernel
theorem dX1_readyLines_30 : decode cX1_readyLines 30 = .ok (.iload_n 1, 1) := by decide +kernel
theorem dX1_readyLines_31 : decode cX1_readyLines 31 = .ok (.bipush 23, 2) := by decide +kernel
theorem dX1_readyLines_33 : decode cX1_readyLines 33 = .ok (.imul, 1) := by decide +kernel
theorem dX1_readyLines_34 : decode cX1_readyLines 34 = .ok (.iload_n 2, 1) := by decide +kernel
theorem dX1_readyLines_35 : decode cX1_readyLines 35 = .ok (.iadd, 1) := by decide +kernel
theorem dX1_readyLines_36 : decode cX1_readyLines 36 = .ok (.aload_n 0, 1) := by decide +kernel
theorem dX1_readyLines_37 : decode cX1_readyLines 37 = .ok (.getfield 32, 3) := by decide +kernel
theorem dX1_readyLines_40 : decode cX1_readyLines 40 = .ok (.aload_n 0, 1) := by decide +kernel
theorem dX1_readyLines_41 : decode cX1_readyLines 41 = .ok (.getfield 21, 3) := by decide +kernel
theorem dX1_readyLines_44 : decode cX1_readyLines 44 = .ok (.iload_n 2, 1) := by decide +kernel
theorem dX1_readyLines_45 : decode cX1_readyLines 45 = .ok (.iload_n 1, 1) := by decide +kernel
theorem dX1_readyLines_46 : decode cX1_readyLines 46 = .ok (.invokevirtual 44, 3) := by decide +kernel
theorem dX1_readyLines_49 : decode cX1_readyLines 49 = .ok (.iastore, 1) := by decide +kernel
theorem dX1_readyLines_50 : decode cX1_readyLines 50 = .ok (.iinc 2 1, 3) := by decide +kernel
theorem dX1_readyLines_53 : decode cX1_readyLines 53 = .ok (.goto (-44), 3) := by decide +kernel
theorem dX1_readyLines_56 : decode cX1_readyLines 56 = .ok (.iinc 1 1, 3) := by decide +kernel
theorem dX1_readyLines_59 : decode cX1_readyLines 59 = .ok (.goto (-57), 3) := by decide +kernel
theorem dX1_readyLines_62 : decode cX1_readyLines 62 = .ok (.return_, 1) := by decide +kernel
set_option maxRecDepth 20000 in
theorem ggX1_answerLine_X1_ofTwoLetters : GoodIn wsX1_answerLine wsX1_ofTwoLetters := goodIn_r _ [8, 3, 9, 10, 11, 12, 13, 7, 14, 15, 16, 17, 18, 19, 20, 21, 22, 23, 24, 25, 26, 27, 28, 29, 30, 31, 32, 33, 34, 35, 36, 37, 38, 47, 48, 49, 50, 51, 52, 53, 56, 57, 58, 54, 55] (by decide +kernel) (by decide +kernel)
set_option maxRecDepth 20000 in
theorem gX1_answerLine_X1_ofTwoLetters : GoodIn wsX1_answerLine (wsV RX1 36 RX1 yX1_ofTwoLetters wsX1_ofTwoLetters) := goodIn_app (goodIn_of _ (by decide +kernel)) ggX1_answerLine_X1_ofTwoLetters
set_option maxRecDepth 20000 in
theorem ggX1_answerLine_X1_part : GoodIn wsX1_answerLine wsX1_part := goodIn_r _ [14, 15, 47, 48, 49, 50, 51, 52, 53] (by decide +kernel) (by decide +kernel)
set_option maxRecDepth 20000 in
theorem gX1_answerLine_X1_part : GoodIn wsX1_answerLine (wsV RX1 40 RX1 yX1_part wsX1_part) := goodIn_app (goodIn_of _ (by decide +kernel)) ggX1_answerLine_X1_part
set_option maxRecDepth 20000 in
theorem ggX1_answerLine_X1_addToLine : GoodIn wsX1_answerLine wsX1_addToLine := goodIn_r _ [42, 3, 1, 43, 44, 45, 46, 47, 48, 49, 50, 51, 52, 53, 54, 55] (by decide +kernel) (by decide +kernel)
set_option maxRecDepth 20000 in
theorem gX1_answerLine_X1_addToLine : GoodIn wsX1_answerLine (wsV RX1 57 RX1 yX1_addToLine wsX1_addToLine) := goodIn_app (goodIn_of _ (by decide +kernel)) ggX1_answerLine_X1_addToLine
theorem dX1_answerLine_0 : decode cX1_answerLine 0 = .ok (.iconst 0, 1) := by decide +kernel
theorem dX1_answerLine_1 : decode cX1_answerLine 1 = .ok (.istore_n 3, 1) := by decide +kernel
theorem dX1_answerLine_2 : decode cX1_answerLine 2 = .ok (.iload_n 3, 1) := by decide +kernel
theorem dX1_answerLine_3 : decode cX1_answerLine 3 = .ok (.aload_n 0, 1) := by decide +kernel
theorem dX1_answerLine_4 : decode cX1_answerLine 4 = .ok (.getfield 18, 3) := by decide +kernel
theorem dX1_answerLine_7 : decode cX1_answerLine 7 = .ok (.arraylength, 1) := by decide +kernel
theorem dX1_answerLine_8 : decode cX1_answerLine 8 = .ok (.if_icmp .ge 16, 3) := by decide +kernel
theorem dX1_answerLine_11 : decode cX1_answerLine 11 = .ok (.aload_n 0, 1) := by decide +kernel
theorem dX1_answerLine_12 : decode cX1_answerLine 12 = .ok (.getfield 18, 3) := by decide +kernel
theorem dX1_answerLine_15 : decode cX1_answerLine 15 = .ok (.iload_n 3, 1) := by decide +kernel
theorem dX1_answerLine_16 : decode cX1_answerLine 16 = .ok (.iconst 0, 1) := by decide +kernel
theorem dX1_answerLine_17 : decode cX1_answerLine 17 = .ok (.iastore, 1) := by decide +kernel
theorem dX1_answerLine_18 : decode cX1_answerLine 18 = .ok (.iinc 3 1, 3) := by decide +kernel
theorem dX1_answerLine_21 : decode cX1_answerLine 21 = .ok (.goto (-19), 3) := by decide +kernel
theorem dX1_answerLine_24 : decode cX1_answerLine 24 = .ok (.iconst 0, 1) := by decide +kernel
theorem dX1_answerLine_25 : decode cX1_answerLine 25 = .ok (.istore_n 3, 1) := by decide +kernel
theorem dX1_answerLine_26 : decode cX1_answerLine 26 = .ok (.iload_n 3, 1) := by decide +kernel
theorem dX1_answerLine_27 : decode cX1_answerLine 27 = .ok (.aload_n 0, 1) := by decide +kernel
theorem dX1_answerLine_28 : decode cX1_answerLine 28 = .ok (.getfield 25, 3) := by decide +kernel
theorem dX1_answerLine_31 : decode cX1_answerLine 31 = .ok (.if_icmp .ge 26, 3) := by decide +kernel
theorem dX1_answerLine_34 : decode cX1_answerLine 34 = .ok (.aload_n 0, 1) := by decide +kernel
theorem dX1_answerLine_35 : decode cX1_answerLine 35 = .ok (.aload_n 0, 1) := by decide +kernel
theorem dX1_answerLine_36 : decode cX1_answerLine 36 = .ok (.iload_n 3, 1) := by decide +kernel
theorem dX1_answerLine_37 : decode cX1_answerLine 37 = .ok (.iload_n 1, 1) := by decide +kernel
theorem dX1_answerLine_38 : decode cX1_answerLine 38 = .ok (.iload_n 2, 1) := by decide +kernel
theorem dX1_answerLine_39 : decode cX1_answerLine 39 = .ok (.invokevirtual 36, 3) := by decide +kernel
theorem dX1_answerLine_42 : decode cX1_answerLine 42 = .ok (.aload_n 0, 1) := by decide +kernel
theorem dX1_answerLine_43 : decode cX1_answerLine 43 = .ok (.iload_n 3, 1) := by decide +kernel
theorem dX1_answerLine_44 : decode cX1_answerLine 44 = .ok (.iconst 3, 1) := by decide +kernel
theorem dX1_answerLine_45 : decode cX1_answerLine 45 = .ok (.invokevirtual 40, 3) := by decide +kernel
theorem dX1_answerLine_48 : decode cX1_answerLine 48 = .ok (.invokevirtual 57, 3) := by decide +kernel
theorem dX1_answerLine_51 : decode cX1_answerLine 51 = .ok (.iinc 3 1, 3) := by decide +kernel
theorem dX1_answerLine_54 : decode cX1_answerLine 54 = .ok (.goto (-28), 3) := by decide +kernel
theorem dX1_answerLine_57 : decode cX1_answerLine 57 = .ok (.iconst 0, 1) := by decide +kernel
theorem dX1_answerLine_58 : decode cX1_answerLine 58 = .ok (.istore_n 3, 1) := by decide +kernel
theorem dX1_answerLine_59 : decode cX1_answerLine 59 = .ok (.iload_n 3, 1) := by decide +kernel
theorem dX1_answerLine_60 : decode cX1_answerLine 60 = .ok (.aload_n 0, 1) := by decide +kernel
theorem dX1_answerLine_61 : decode cX1_answerLine 61 = .ok (.getfield 18, 3) := by decide +kernel
theorem dX1_answerLine_64 : decode cX1_answerLine 64 = .ok (.arraylength, 1) := by decide +kernel
theorem dX1_answerLine_65 : decode cX1_answerLine 65 = .ok (.if_icmp .ge 29, 3) := by decide +kernel
theorem dX1_answerLine_68 : decode cX1_answerLine 68 = .ok (.aload_n 0, 1) := by decide +kernel
theorem dX1_answerLine_69 : decode cX1_answerLine 69 = .ok (.getfield 18, 3) := by decide +kernel
theorem dX1_answerLine_72 : decode cX1_answerLine 72 = .ok (.iload_n 3, 1) := by decide +kernel
theorem dX1_answerLine_73 : decode cX1_answerLine 73 = .ok (.aload_n 0, 1) := by decide +kernel
theorem dX1_answerLine_74 : decode cX1_answerLine 74 = .ok (.getfield 18, 3) := by decide +kernel
theorem dX1_answerLine_77 : decode cX1_answerLine 77 = .ok (.iload_n 3, 1) := by decide +kernel
theorem dX1_answerLine_78 : decode cX1_answerLine 78 = .ok (.iaload, 1) := by decide +kernel
theorem dX1_answerLine_79 : decode cX1_answerLine 79 = .ok (.aload_n 0, 1) := by decide +kernel
theorem dX1_answerLine_80 : decode cX1_answerLine 80 = .ok (.getfield 28, 3) := by decide +kernel
theorem dX1_answerLine_83 : decode cX1_answerLine 83 = .ok (.getfield 54, 3) := by decide +kernel
theorem dX1_answerLine_86 : decode cX1_answerLine 86 = .ok (.irem, 1) := by decide +kernel
theorem dX1_answerLine_87 : decode cX1_answerLine 87 = .ok (.iastore, 1) := by decide +kernel
theorem dX1_answerLine_88 : decode cX1_answerLine 88 = .ok (.iinc 3 1, 3) := by decide +kernel
theorem dX1_answerLine_91 : decode cX1_answerLine 91 = .ok (.goto (-32), 3) := by decide +kernel
theorem dX1_answerLine_94 : decode cX1_answerLine 94 = .ok (.return_, 1) := by decide +kernel
set_option maxRecDepth 20000 in
theorem ggX1_addToLine_X7_isExponent : GoodIn wsX1_addToLine wsX7_isExponent := goodIn_r _ [6] (by decide +kernel) (by decide +kernel)
set_option maxRecDepth 20000 in
theorem gX1_addToLine_X7_isExponent_n61 : GoodIn wsX1_addToLine (wsX7_isExponent) := ggX1_addToLine_X7_isExponent
theorem dX1_addToLine_0 : decode cX1_addToLine 0 = .ok (.iload_n 2, 1) := by decide +kernel
theorem dX1_addToLine_1 : decode cX1_addToLine 1 = .ok (.invokestatic 61, 3) := by decide +kernel
theorem dX1_addToLine_4 : decode cX1_addToLine 4 = .ok (.ifCond .ne 4, 3) := by decide +kernel
theorem dX1_addToLine_7 : decode cX1_addToLine 7 = .ok (.return_, 1) := by decide +kernel
theorem dX1_addToLine_8 : decode cX1_addToLine 8 = .ok (.iload_n 2, 1) := by decide +kernel
theorem dX1_addToLine_9 : decode cX1_addToLine 9 = .ok (.bipush 23, 2) := by decide +kernel
theorem dX1_addToLine_11 : decode cX1_addToLine 11 = .ok (.imul, 1) := by decide +kernel
theorem dX1_addToLine_12 : decode cX1_addToLine 12 = .ok (.istore_n 3, 1) := by decide +kernel
theorem dX1_addToLine_13 : decode cX1_addToLine 13 = .ok (.iconst 0, 1) := by decide +kernel
theorem dX1_addToLine_14 : decode cX1_addToLine 14 = .ok (.istore 4, 2) := by decide +kernel
theorem dX1_addToLine_16 : decode cX1_addToLine 16 = .ok (.iload 4, 2) := by decide +kernel
theorem dX1_addToLine_18 : decode cX1_addToLine 18 = .ok (.aload_n 0, 1) := by decide +kernel
theorem dX1_addToLine_19 : decode cX1_addToLine 19 = .ok (.getfield 28, 3) := by decide +kernel
theorem dX1_addToLine_22 : decode cX1_addToLine 22 = .ok (.getfield 54, 3) := by decide +kernel
theorem dX1_addToLine_25 : decode cX1_addToLine 25 = .ok (.if_icmp .ge 40, 3) := by decide +kernel
theorem dX1_addToLine_28 : decode cX1_addToLine 28 = .ok (.iload 4, 2) := by decide +kernel
theorem dX1_addToLine_30 : decode cX1_addToLine 30 = .ok (.aload_n 0, 1) := by decide +kernel
theorem dX1_addToLine_31 : decode cX1_addToLine 31 = .ok (.getfield 18, 3) := by decide +kernel
theorem dX1_addToLine_34 : decode cX1_addToLine 34 = .ok (.arraylength, 1) := by decide +kernel
theorem dX1_addToLine_35 : decode cX1_addToLine 35 = .ok (.if_icmp .ge 30, 3) := by decide +kernel
theorem dX1_addToLine_38 : decode cX1_addToLine 38 = .ok (.aload_n 0, 1) := by decide +kernel
theorem dX1_addToLine_39 : decode cX1_addToLine 39 = .ok (.getfield 18, 3) := by decide +kernel
theorem dX1_addToLine_42 : decode cX1_addToLine 42 = .ok (.iload 4, 2) := by decide +kernel
theorem dX1_addToLine_44 : decode cX1_addToLine 44 = .ok (.dup2, 1) := by decide +kernel
theorem dX1_addToLine_45 : decode cX1_addToLine 45 = .ok (.iaload, 1) := by decide +kernel
theorem dX1_addToLine_46 : decode cX1_addToLine 46 = .ok (.iload_n 1, 1) := by decide +kernel
theorem dX1_addToLine_47 : decode cX1_addToLine 47 = .ok (.aload_n 0, 1) := by decide +kernel
theorem dX1_addToLine_48 : decode cX1_addToLine 48 = .ok (.getfield 15, 3) := by decide +kernel
theorem dX1_addToLine_51 : decode cX1_addToLine 51 = .ok (.iload_n 3, 1) := by decide +kernel
theorem dX1_addToLine_52 : decode cX1_addToLine 52 = .ok (.iload 4, 2) := by decide +kernel
theorem dX1_addToLine_54 : decode cX1_addToLine 54 = .ok (.iadd, 1) := by decide +kernel
theorem dX1_addToLine_55 : decode cX1_addToLine 55 = .ok (.iaload, 1) := by decide +kernel
theorem dX1_addToLine_56 : decode cX1_addToLine 56 = .ok (.imul, 1) := by decide +kernel
theorem dX1_addToLine_57 : decode cX1_addToLine 57 = .ok (.iadd, 1) := by decide +kernel
theorem dX1_addToLine_58 : decode cX1_addToLine 58 = .ok (.iastore, 1) := by decide +kernel
theorem dX1_addToLine_59 : decode cX1_addToLine 59 = .ok (.iinc 4 1, 3) := by decide +kernel
theorem dX1_addToLine_62 : decode cX1_addToLine 62 = .ok (.goto (-46), 3) := by decide +kernel
theorem dX1_addToLine_65 : decode cX1_addToLine 65 = .ok (.return_, 1) := by decide +kernel
theorem dX1_zerosInLine_0 : decode cX1_zerosInLine 0 = .ok (.iconst 0, 1) := by decide +kernel
theorem dX1_zerosInLine_1 : decode cX1_zerosInLine 1 = .ok (.istore_n 1, 1) := by decide +kernel
theorem dX1_zerosInLine_2 : decode cX1_zerosInLine 2 = .ok (.iconst 0, 1) := by decide +kernel
theorem dX1_zerosInLine_3 : decode cX1_zerosInLine 3 = .ok (.istore_n 2, 1) := by decide +kernel
theorem dX1_zerosInLine_4 : decode cX1_zerosInLine 4 = .ok (.iload_n 2, 1) := by decide +kernel
theorem dX1_zerosInLine_5 : decode cX1_zerosInLine 5 = .ok (.aload_n 0, 1) := by decide +kernel
theorem dX1_zerosInLine_6 : decode cX1_zerosInLine 6 = .ok (.getfield 28, 3) := by decide +kernel
theorem dX1_zerosInLine_9 : decode cX1_zerosInLine 9 = .ok (.getfield 54, 3) := by decide +kernel
theorem dX1_zerosInLine_12 : decode cX1_zerosInLine 12 = .ok (.if_icmp .ge 35, 3) := by decide +kernel
theorem dX1_zerosInLine_15 : decode cX1_zerosInLine 15 = .ok (.iload_n 2, 1) := by decide +kernel
theorem dX1_zerosInLine_16 : decode cX1_zerosInLine 16 = .ok (.aload_n 0, 1) := by decide +kernel
theorem dX1_zerosInLine_17 : decode cX1_zerosInLine 17 = .ok (.getfield 18, 3) := by decide +kernel
theorem dX1_zerosInLine_20 : decode cX1_zerosInLine 20 = .ok (.arraylength, 1) := by decide +kernel
theorem dX1_zerosInLine_21 : decode cX1_zerosInLine 21 = .ok (.if_icmp .ge 26, 3) := by decide +kernel
theorem dX1_zerosInLine_24 : decode cX1_zerosInLine 24 = .ok (.iload_n 1, 1) := by decide +kernel
theorem dX1_zerosInLine_25 : decode cX1_zerosInLine 25 = .ok (.aload_n 0, 1) := by decide +kernel
theorem dX1_zerosInLine_26 : decode cX1_zerosInLine 26 = .ok (.getfield 18, 3) := by decide +kernel
theorem dX1_zerosInLine_29 : decode cX1_zerosInLine 29 = .ok (.iload_n 2, 1) := by decide +kernel
theorem dX1_zerosInLine_30 : decode cX1_zerosInLine 30 = .ok (.iaload, 1) := by decide +kernel
theorem dX1_zerosInLine_31 : decode cX1_zerosInLine 31 = .ok (.ifCond .ne 7, 3) := by decide +kernel
theorem dX1_zerosInLine_34 : decode cX1_zerosInLine 34 = .ok (.iconst 1, 1) := by decide +kernel
theorem dX1_zerosInLine_35 : decode cX1_zerosInLine 35 = .ok (.goto 4, 3) := by decide +kernel
theorem dX1_zerosInLine_38 : decode cX1_zerosInLine 38 = .ok (.iconst 0, 1) := by decide +kernel
theorem dX1_zerosInLine_39 : decode cX1_zerosInLine 39 = .ok (.iadd, 1) := by decide +kernel
theorem dX1_zerosInLine_40 : decode cX1_zerosInLine 40 = .ok (.istore_n 1, 1) := by decide +kernel
theorem dX1_zerosInLine_41 : decode cX1_zerosInLine 41 = .ok (.iinc 2 1, 3) := by decide +kernel
theorem dX1_zerosInLine_44 : decode cX1_zerosInLine 44 = .ok (.goto (-40), 3) := by decide +kernel
theorem dX1_zerosInLine_47 : decode cX1_zerosInLine 47 = .ok (.iload_n 1, 1) := by decide +kernel
theorem dX1_zerosInLine_48 : decode cX1_zerosInLine 48 = .ok (.ireturn, 1) := by decide +kernel
theorem dX1_alikeInLine_0 : decode cX1_alikeInLine 0 = .ok (.iconst 0, 1) := by decide +kernel
theorem dX1_alikeInLine_1 : decode cX1_alikeInLine 1 = .ok (.istore_n 2, 1) := by decide +kernel
theorem dX1_alikeInLine_2 : decode cX1_alikeInLine 2 = .ok (.iconst 0, 1) := by decide +kernel
theorem dX1_alikeInLine_3 : decode cX1_alikeInLine 3 = .ok (.istore_n 3, 1) := by decide +kernel
theorem dX1_alikeInLine_4 : decode cX1_alikeInLine 4 = .ok (.iload_n 3, 1) := by decide +kernel
theorem dX1_alikeInLine_5 : decode cX1_alikeInLine 5 = .ok (.aload_n 0, 1) := by decide +kernel
theorem dX1_alikeInLine_6 : decode cX1_alikeInLine 6 = .ok (.getfield 28, 3) := by decide +kernel
theorem dX1_alikeInLine_9 : decode cX1_alikeInLine 9 = .ok (.getfield 54, 3) := by decide +kernel
theorem dX1_alikeInLine_12 : decode cX1_alikeInLine 12 = .ok (.if_icmp .ge 41, 3) := by decide +kernel
theorem dX1_alikeInLine_15 : decode cX1_alikeInLine 15 = .ok (.iload_n 3, 1) := by decide +kernel
theorem dX1_alikeInLine_16 : decode cX1_alikeInLine 16 = .ok (.aload_n 0, 1) := by decide +kernel
theorem dX1_alikeInLine_17 : decode cX1_alikeInLine 17 = .ok (.getfield 18, 3) := by decide +kernel
theorem dX1_alikeInLine_20 : decode cX1_alikeInLine 20 = .ok (.arraylength, 1) := by decide +kernel
theorem dX1_alikeInLine_21 : decode cX1_alikeInLine 21 = .ok (.if_icmp .ge 32, 3) := by decide +kernel
theorem dX1_alikeInLine_24 : decode cX1_alikeInLine 24 = .ok (.iload_n 2, 1) := by decide +kernel
theorem dX1_alikeInLine_25 : decode cX1_alikeInLine 25 = .ok (.aload_n 0, 1) := by decide +kernel
theorem dX1_alikeInLine_26 : decode cX1_alikeInLine 26 = .ok (.getfield 18, 3) := by decide +kernel
theorem dX1_alikeInLine_29 : decode cX1_alikeInLine 29 = .ok (.iload_n 3, 1) := by decide +kernel
theorem dX1_alikeInLine_30 : decode cX1_alikeInLine 30 = .ok (.iaload, 1) := by decide +kernel
theorem dX1_alikeInLine_31 : decode cX1_alikeInLine 31 = .ok (.aload_n 1, 1) := by decide +kernel
theorem dX1_alikeInLine_32 : decode cX1_alikeInLine 32 = .ok (.getfield 18, 3) := by decide +kernel
theorem dX1_alikeInLine_35 : decode cX1_alikeInLine 35 = .ok (.iload_n 3, 1) := by decide +kernel
theorem dX1_alikeInLine_36 : decode cX1_alikeInLine 36 = .ok (.iaload, 1) := by decide +kernel
theorem dX1_alikeInLine_37 : decode cX1_alikeInLine 37 = .ok (.if_icmp .ne 7, 3) := by decide +kernel
theorem dX1_alikeInLine_40 : decode cX1_alikeInLine 40 = .ok (.iconst 1, 1) := by decide +kernel
theorem dX1_alikeInLine_41 : decode cX1_alikeInLine 41 = .ok (.goto 4, 3) := by decide +kernel
theorem dX1_alikeInLine_44 : decode cX1_alikeInLine 44 = .ok (.iconst 0, 1) := by decide +kernel
theorem dX1_alikeInLine_45 : decode cX1_alikeInLine 45 = .ok (.iadd, 1) := by decide +kernel
theorem dX1_alikeInLine_46 : decode cX1_alikeInLine 46 = .ok (.istore_n 2, 1) := by decide +kernel
theorem dX1_alikeInLine_47 : decode cX1_alikeInLine 47 = .ok (.iinc 3 1, 3) := by decide +kernel
theorem dX1_alikeInLine_50 : decode cX1_alikeInLine 50 = .ok (.goto (-46), 3) := by decide +kernel
theorem dX1_alikeInLine_53 : decode cX1_alikeInLine 53 = .ok (.iload_n 2, 1) := by decide +kernel
theorem dX1_alikeInLine_54 : decode cX1_alikeInLine 54 = .ok (.ireturn, 1) := by decide +kernel

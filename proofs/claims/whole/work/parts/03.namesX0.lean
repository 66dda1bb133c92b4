theorem dX0_init_0 : decode cX0_init 0 = .ok (.aload_n 0, 1) := by decide +kernel
theorem dX0_init_1 : decode cX0_init 1 = .ok (.invokespecial 3, 3) := by decide +kernel
theorem dX0_init_4 : decode cX0_init 4 = .ok (.aload_n 0, 1) := by decide +kernel
theorem dX0_init_5 : decode cX0_init 5 = .ok (.iconst 1, 1) := by decide +kernel
theorem dX0_init_6 : decode cX0_init 6 = .ok (.putfield 9, 3) := by decide +kernel
theorem dX0_init_9 : decode cX0_init 9 = .ok (.aload_n 0, 1) := by decide +kernel
theorem dX0_init_10 : decode cX0_init 10 = .ok (.iconst 2, 1) := by decide +kernel
theorem dX0_init_11 : decode cX0_init 11 = .ok (.putfield 15, 3) := by decide +kernel
theorem dX0_init_14 : decode cX0_init 14 = .ok (.aload_n 0, 1) := by decide +kernel
theorem dX0_init_15 : decode cX0_init 15 = .ok (.aload_n 1, 1) := by decide +kernel
theorem dX0_init_16 : decode cX0_init 16 = .ok (.putfield 18, 3) := by decide +kernel
theorem dX0_init_19 : decode cX0_init 19 = .ok (.return_, 1) := by decide +kernel
set_option maxRecDepth 20000 in
theorem ggX0_letter_X4_plus : GoodIn wsX0_letter wsX4_plus := goodIn_r _ [8, 9, 21, 22] (by decide +kernel) (by decide +kernel)
set_option maxRecDepth 20000 in
theorem gX0_letter_X4_plus : GoodIn wsX0_letter (wsV RX0 22 RX4 yX4_plus wsX4_plus) := goodIn_app (goodIn_of _ (by decide +kernel)) ggX0_letter_X4_plus
set_option maxRecDepth 20000 in
theorem ggX0_letter_X4_power : GoodIn wsX0_letter wsX4_power := goodIn_r _ [13, 9, 21, 22] (by decide +kernel) (by decide +kernel)
set_option maxRecDepth 20000 in
theorem gX0_letter_X4_power : GoodIn wsX0_letter (wsV RX0 28 RX4 yX4_power wsX4_power) := goodIn_app (goodIn_of _ (by decide +kernel)) ggX0_letter_X4_power
set_option maxRecDepth 20000 in
theorem ggX0_letter_X4_times : GoodIn wsX0_letter wsX4_times := goodIn_r _ [17, 9, 21, 22] (by decide +kernel) (by decide +kernel)
set_option maxRecDepth 20000 in
theorem gX0_letter_X4_times : GoodIn wsX0_letter (wsV RX0 31 RX4 yX4_times wsX4_times) := goodIn_app (goodIn_of _ (by decide +kernel)) ggX0_letter_X4_times
theorem dX0_letter_0 : decode cX0_letter 0 = .ok (.iload_n 1, 1) := by decide +kernel
theorem dX0_letter_1 : decode cX0_letter 1 = .ok (.ifCond .ne 7, 3) := by decide +kernel
theorem dX0_letter_4 : decode cX0_letter 4 = .ok (.iload_n 2, 1) := by decide +kernel
theorem dX0_letter_5 : decode cX0_letter 5 = .ok (.goto 15, 3) := by decide +kernel
theorem dX0_letter_8 : decode cX0_letter 8 = .ok (.aload_n 0, 1) := by decide +kernel
theorem dX0_letter_9 : decode cX0_letter 9 = .ok (.getfield 18, 3) := by decide +kernel
theorem dX0_letter_12 : decode cX0_letter 12 = .ok (.iload_n 2, 1) := by decide +kernel
theorem dX0_letter_13 : decode cX0_letter 13 = .ok (.aload_n 0, 1) := by decide +kernel
theorem dX0_letter_14 : decode cX0_letter 14 = .ok (.getfield 9, 3) := by decide +kernel
theorem dX0_letter_17 : decode cX0_letter 17 = .ok (.invokevirtual 22, 3) := by decide +kernel
theorem dX0_letter_20 : decode cX0_letter 20 = .ok (.istore 4, 2) := by decide +kernel
theorem dX0_letter_22 : decode cX0_letter 22 = .ok (.aload_n 0, 1) := by decide +kernel
theorem dX0_letter_23 : decode cX0_letter 23 = .ok (.getfield 18, 3) := by decide +kernel
theorem dX0_letter_26 : decode cX0_letter 26 = .ok (.iload 4, 2) := by decide +kernel
theorem dX0_letter_28 : decode cX0_letter 28 = .ok (.iload_n 3, 1) := by decide +kernel
theorem dX0_letter_29 : decode cX0_letter 29 = .ok (.invokevirtual 28, 3) := by decide +kernel
theorem dX0_letter_32 : decode cX0_letter 32 = .ok (.istore 5, 2) := by decide +kernel
theorem dX0_letter_34 : decode cX0_letter 34 = .ok (.iload_n 1, 1) := by decide +kernel
theorem dX0_letter_35 : decode cX0_letter 35 = .ok (.iconst 2, 1) := by decide +kernel
theorem dX0_letter_36 : decode cX0_letter 36 = .ok (.if_icmp .ne 19, 3) := by decide +kernel
theorem dX0_letter_39 : decode cX0_letter 39 = .ok (.aload_n 0, 1) := by decide +kernel
theorem dX0_letter_40 : decode cX0_letter 40 = .ok (.getfield 18, 3) := by decide +kernel
theorem dX0_letter_43 : decode cX0_letter 43 = .ok (.aload_n 0, 1) := by decide +kernel
theorem dX0_letter_44 : decode cX0_letter 44 = .ok (.getfield 15, 3) := by decide +kernel
theorem dX0_letter_47 : decode cX0_letter 47 = .ok (.iload 5, 2) := by decide +kernel
theorem dX0_letter_49 : decode cX0_letter 49 = .ok (.invokevirtual 31, 3) := by decide +kernel
theorem dX0_letter_52 : decode cX0_letter 52 = .ok (.goto 5, 3) := by decide +kernel
theorem dX0_letter_55 : decode cX0_letter 55 = .ok (.iload 5, 2) := by decide +kernel
theorem dX0_letter_57 : decode cX0_letter 57 = .ok (.ireturn, 1) := by decide +kernel
theorem dX0_bodiesAsked_0 : decode cX0_bodiesAsked 0 = .ok (.iload_n 0, 1) := by decide +kernel
theorem dX0_bodiesAsked_1 : decode cX0_bodiesAsked 1 = .ok (.iconst 2, 1) := by decide +kernel
theorem dX0_bodiesAsked_2 : decode cX0_bodiesAsked 2 = .ok (.if_icmp .ne 6, 3) := by decide +kernel
theorem dX0_bodiesAsked_5 : decode cX0_bodiesAsked 5 = .ok (.bipush 111, 2) := by decide +kernel
theorem dX0_bodiesAsked_7 : decode cX0_bodiesAsked 7 = .ok (.ireturn, 1) := by decide +kernel
theorem dX0_bodiesAsked_8 : decode cX0_bodiesAsked 8 = .ok (.iload_n 0, 1) := by decide +kernel
theorem dX0_bodiesAsked_9 : decode cX0_bodiesAsked 9 = .ok (.iconst 1, 1) := by decide +kernel
theorem dX0_bodiesAsked_10 : decode cX0_bodiesAsked 10 = .ok (.if_icmp .ne 8, 3) := by decide +kernel
theorem dX0_bodiesAsked_13 : decode cX0_bodiesAsked 13 = .ok (.bipush 11, 2) := by decide +kernel
theorem dX0_bodiesAsked_15 : decode cX0_bodiesAsked 15 = .ok (.goto 4, 3) := by decide +kernel
theorem dX0_bodiesAsked_18 : decode cX0_bodiesAsked 18 = .ok (.iconst 1, 1) := by decide +kernel
theorem dX0_bodiesAsked_19 : decode cX0_bodiesAsked 19 = .ok (.ireturn, 1) := by decide +kernel

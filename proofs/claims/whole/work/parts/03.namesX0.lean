theorem dX0_init_0 : decode cX0_init 0 = .ok (.aload_n 0, 1) := by decide +kernel
theorem dX0_init_1 : decode cX0_init 1 = .ok (.invokespecial 3, 3) := by decide +kernel
theorem dX0_init_4 : decode cX0_init 4 = .ok (.aload_n 0, 1) := by decide +kernel
theorem dX0_init_5 : decode cX0_init 5 = .ok (.iconst 1, 1) := by decide +kernel
theorem dX0_init_6 : decode cX0_init 6 = .ok (.putfield 9, 3) := by decide +kernel
theorem dX0_init_9 : decode cX0_init 9 = .ok (.aload_n 0, 1) := by decide +kernel
theorem dX0_init_10 : decode cX0_init 10 = .ok (.iconst 2, 1) := by decide +kernel
theorem dX0_init_11 : decode cX0_init 11 = .ok (.putfield 15, 3) := by decide +kernel
theorem dX0_init_14 : decode cX0_init 14 = .ok (.aload_n 0, 1) := by decide +kernel
theorem dX0_init_15 : decode cX0_init 15 = .ok (.aload_n 1, 1) := by decide +kernel
theorem dX0_init_16 : decode cX0_init 16 = .ok (.putfield 18, 3) := by decide +kernel
theorem dX0_init_19 : decode cX0_init 19 = .ok (.return_, 1) := by decide +kernel
set_option maxRecDepth 20000 in
theorem ggX0_letter_X0_scaled : GoodIn wsX0_letter wsX0_scaled := goodIn_r _ [6, 1, 7, 8, 9, 10, 5, 11, 12, 13, 14, 15, 16, 17, 18, 19, 20, 21, 22, 23, 24, 25, 26, 27, 28, 29, 30, 31] (by decide +kernel) (by decide +kernel)
set_option maxRecDepth 20000 in
theorem gX0_letter_X0_scaled : GoodIn wsX0_letter (wsV RX0 22 RX0 yX0_scaled wsX0_scaled) := goodIn_app (goodIn_of _ (by decide +kernel)) ggX0_letter_X0_scaled
set_option maxRecDepth 20000 in
theorem ggX0_letter_X0_shifted : GoodIn wsX0_letter wsX0_shifted := goodIn_r _ [11, 1, 12, 13, 14, 15, 16, 17, 18, 19, 20, 21, 22, 27, 28, 29, 30, 31] (by decide +kernel) (by decide +kernel)
set_option maxRecDepth 20000 in
theorem gX0_letter_X0_shifted : GoodIn wsX0_letter (wsV RX0 26 RX0 yX0_shifted wsX0_shifted) := goodIn_app (goodIn_of _ (by decide +kernel)) ggX0_letter_X0_shifted
set_option maxRecDepth 20000 in
theorem ggX0_letter_X4_power : GoodIn wsX0_letter wsX4_power := goodIn_r _ [22, 18, 30, 31] (by decide +kernel) (by decide +kernel)
set_option maxRecDepth 20000 in
theorem gX0_letter_X4_power : GoodIn wsX0_letter (wsV RX0 29 RX4 yX4_power wsX4_power) := goodIn_app (goodIn_of _ (by decide +kernel)) ggX0_letter_X4_power
theorem dX0_letter_0 : decode cX0_letter 0 = .ok (.iload_n 1, 1) := by decide +kernel
theorem dX0_letter_1 : decode cX0_letter 1 = .ok (.iconst 2, 1) := by decide +kernel
theorem dX0_letter_2 : decode cX0_letter 2 = .ok (.if_icmp .ne 10, 3) := by decide +kernel
theorem dX0_letter_5 : decode cX0_letter 5 = .ok (.aload_n 0, 1) := by decide +kernel
theorem dX0_letter_6 : decode cX0_letter 6 = .ok (.iload_n 2, 1) := by decide +kernel
theorem dX0_letter_7 : decode cX0_letter 7 = .ok (.iload_n 3, 1) := by decide +kernel
theorem dX0_letter_8 : decode cX0_letter 8 = .ok (.invokevirtual 22, 3) := by decide +kernel
theorem dX0_letter_11 : decode cX0_letter 11 = .ok (.ireturn, 1) := by decide +kernel
theorem dX0_letter_12 : decode cX0_letter 12 = .ok (.iload_n 1, 1) := by decide +kernel
theorem dX0_letter_13 : decode cX0_letter 13 = .ok (.iconst 1, 1) := by decide +kernel
theorem dX0_letter_14 : decode cX0_letter 14 = .ok (.if_icmp .ne 12, 3) := by decide +kernel
theorem dX0_letter_17 : decode cX0_letter 17 = .ok (.aload_n 0, 1) := by decide +kernel
theorem dX0_letter_18 : decode cX0_letter 18 = .ok (.iload_n 2, 1) := by decide +kernel
theorem dX0_letter_19 : decode cX0_letter 19 = .ok (.iload_n 3, 1) := by decide +kernel
theorem dX0_letter_20 : decode cX0_letter 20 = .ok (.invokevirtual 26, 3) := by decide +kernel
theorem dX0_letter_23 : decode cX0_letter 23 = .ok (.goto 12, 3) := by decide +kernel
theorem dX0_letter_26 : decode cX0_letter 26 = .ok (.aload_n 0, 1) := by decide +kernel
theorem dX0_letter_27 : decode cX0_letter 27 = .ok (.getfield 18, 3) := by decide +kernel
theorem dX0_letter_30 : decode cX0_letter 30 = .ok (.iload_n 2, 1) := by decide +kernel
theorem dX0_letter_31 : decode cX0_letter 31 = .ok (.iload_n 3, 1) := by decide +kernel
theorem dX0_letter_32 : decode cX0_letter 32 = .ok (.invokevirtual 29, 3) := by decide +kernel
theorem dX0_letter_35 : decode cX0_letter 35 = .ok (.ireturn, 1) := by decide +kernel
set_option maxRecDepth 20000 in
theorem ggX0_shifted_X4_plus : GoodIn wsX0_shifted wsX4_plus := goodIn_r _ [7, 8, 16, 17] (by decide +kernel) (by decide +kernel)
set_option maxRecDepth 20000 in
theorem gX0_shifted_X4_plus : GoodIn wsX0_shifted (wsV RX0 34 RX4 yX4_plus wsX4_plus) := goodIn_app (goodIn_of _ (by decide +kernel)) ggX0_shifted_X4_plus
set_option maxRecDepth 20000 in
theorem ggX0_shifted_X4_power : GoodIn wsX0_shifted wsX4_power := goodIn_r _ [12, 8, 16, 17] (by decide +kernel) (by decide +kernel)
set_option maxRecDepth 20000 in
theorem gX0_shifted_X4_power : GoodIn wsX0_shifted (wsV RX0 29 RX4 yX4_power wsX4_power) := goodIn_app (goodIn_of _ (by decide +kernel)) ggX0_shifted_X4_power
theorem dX0_shifted_0 : decode cX0_shifted 0 = .ok (.aload_n 0, 1) := by decide +kernel
theorem dX0_shifted_1 : decode cX0_shifted 1 = .ok (.getfield 18, 3) := by decide +kernel
theorem dX0_shifted_4 : decode cX0_shifted 4 = .ok (.aload_n 0, 1) := by decide +kernel
theorem dX0_shifted_5 : decode cX0_shifted 5 = .ok (.getfield 18, 3) := by decide +kernel
theorem dX0_shifted_8 : decode cX0_shifted 8 = .ok (.iload_n 1, 1) := by decide +kernel
theorem dX0_shifted_9 : decode cX0_shifted 9 = .ok (.aload_n 0, 1) := by decide +kernel
theorem dX0_shifted_10 : decode cX0_shifted 10 = .ok (.getfield 9, 3) := by decide +kernel
theorem dX0_shifted_13 : decode cX0_shifted 13 = .ok (.invokevirtual 34, 3) := by decide +kernel
theorem dX0_shifted_16 : decode cX0_shifted 16 = .ok (.iload_n 2, 1) := by decide +kernel
theorem dX0_shifted_17 : decode cX0_shifted 17 = .ok (.invokevirtual 29, 3) := by decide +kernel
theorem dX0_shifted_20 : decode cX0_shifted 20 = .ok (.ireturn, 1) := by decide +kernel
set_option maxRecDepth 20000 in
theorem ggX0_scaled_X0_shifted : GoodIn wsX0_scaled wsX0_shifted := goodIn_r _ [7, 1, 8, 9, 10, 11, 12, 13, 14, 15, 16, 17, 18, 23, 24, 25, 26, 27] (by decide +kernel) (by decide +kernel)
set_option maxRecDepth 20000 in
theorem gX0_scaled_X0_shifted : GoodIn wsX0_scaled (wsV RX0 26 RX0 yX0_shifted wsX0_shifted) := goodIn_app (goodIn_of _ (by decide +kernel)) ggX0_scaled_X0_shifted
set_option maxRecDepth 20000 in
theorem ggX0_scaled_X4_times : GoodIn wsX0_scaled wsX4_times := goodIn_r _ [22, 14, 26, 27] (by decide +kernel) (by decide +kernel)
set_option maxRecDepth 20000 in
theorem gX0_scaled_X4_times : GoodIn wsX0_scaled (wsV RX0 37 RX4 yX4_times wsX4_times) := goodIn_app (goodIn_of _ (by decide +kernel)) ggX0_scaled_X4_times
theorem dX0_scaled_0 : decode cX0_scaled 0 = .ok (.aload_n 0, 1) := by decide +kernel
theorem dX0_scaled_1 : decode cX0_scaled 1 = .ok (.getfield 18, 3) := by decide +kernel
theorem dX0_scaled_4 : decode cX0_scaled 4 = .ok (.aload_n 0, 1) := by decide +kernel
theorem dX0_scaled_5 : decode cX0_scaled 5 = .ok (.getfield 15, 3) := by decide +kernel
theorem dX0_scaled_8 : decode cX0_scaled 8 = .ok (.aload_n 0, 1) := by decide +kernel
theorem dX0_scaled_9 : decode cX0_scaled 9 = .ok (.iload_n 1, 1) := by decide +kernel
theorem dX0_scaled_10 : decode cX0_scaled 10 = .ok (.iload_n 2, 1) := by decide +kernel
theorem dX0_scaled_11 : decode cX0_scaled 11 = .ok (.invokevirtual 26, 3) := by decide +kernel
theorem dX0_scaled_14 : decode cX0_scaled 14 = .ok (.invokevirtual 37, 3) := by decide +kernel
theorem dX0_scaled_17 : decode cX0_scaled 17 = .ok (.ireturn, 1) := by decide +kernel
theorem dX0_bodiesAsked_0 : decode cX0_bodiesAsked 0 = .ok (.iload_n 0, 1) := by decide +kernel
theorem dX0_bodiesAsked_1 : decode cX0_bodiesAsked 1 = .ok (.iconst 2, 1) := by decide +kernel
theorem dX0_bodiesAsked_2 : decode cX0_bodiesAsked 2 = .ok (.if_icmp .ne 6, 3) := by decide +kernel
theorem dX0_bodiesAsked_5 : decode cX0_bodiesAsked 5 = .ok (.bipush 111, 2) := by decide +kernel
theorem dX0_bodiesAsked_7 : decode cX0_bodiesAsked 7 = .ok (.ireturn, 1) := by decide +kernel
theorem dX0_bodiesAsked_8 : decode cX0_bodiesAsked 8 = .ok (.iload_n 0, 1) := by decide +kernel
theorem dX0_bodiesAsked_9 : decode cX0_bodiesAsked 9 = .ok (.iconst 1, 1) := by decide +kernel
theorem dX0_bodiesAsked_10 : decode cX0_bodiesAsked 10 = .ok (.if_icmp .ne 8, 3) := by decide +kernel
theorem dX0_bodiesAsked_13 : decode cX0_bodiesAsked 13 = .ok (.bipush 11, 2) := by decide +kernel
theorem dX0_bodiesAsked_15 : decode cX0_bodiesAsked 15 = .ok (.goto 4, 3) := by decide +kernel
theorem dX0_bodiesAsked_18 : decode cX0_bodiesAsked 18 = .ok (.iconst 1, 1) := by decide +kernel
theorem dX0_bodiesAsked_19 : decode cX0_bodiesAsked 19 = .ok (.ireturn, 1) := by decide +kernel

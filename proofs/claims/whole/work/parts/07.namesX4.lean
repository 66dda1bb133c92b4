set_option maxRecDepth 20000 in
theorem ggX4_init_X4_fillInverses : GoodIn wsX4_init wsX4_fillInverses := goodIn_r _ [11, 5, 6, 12, 13] (by decide +kernel) (by decide +kernel)
set_option maxRecDepth 20000 in
theorem gX4_init_X4_fillInverses : GoodIn wsX4_init (wsV RX4 19 RX4 yX4_fillInverses wsX4_fillInverses) := goodIn_app (goodIn_of _ (by decide +kernel)) ggX4_init_X4_fillInverses
theorem dX4_init_0 : decode cX4_init 0 = .ok (.aload_n 0, 1) := by decide +kernel
theorem dX4_init_1 : decode cX4_init 1 = .ok (.invokespecial 3, 3) := by decide +kernel
theorem dX4_init_4 : decode cX4_init 4 = .ok (.aload_n 0, 1) := by decide +kernel
theorem dX4_init_5 : decode cX4_init 5 = .ok (.sipush 997, 3) := by decide +kernel
theorem dX4_init_8 : decode cX4_init 8 = .ok (.newarray .int, 2) := by decide +kernel
theorem dX4_init_10 : decode cX4_init 10 = .ok (.putfield 9, 3) := by decide +kernel
theorem dX4_init_13 : decode cX4_init 13 = .ok (.aload_n 0, 1) := by decide +kernel
theorem dX4_init_14 : decode cX4_init 14 = .ok (.bipush 101, 2) := by decide +kernel
theorem dX4_init_16 : decode cX4_init 16 = .ok (.putfield 15, 3) := by decide +kernel
theorem dX4_init_19 : decode cX4_init 19 = .ok (.aload_n 0, 1) := by decide +kernel
theorem dX4_init_20 : decode cX4_init 20 = .ok (.invokevirtual 19, 3) := by decide +kernel
theorem dX4_init_23 : decode cX4_init 23 = .ok (.return_, 1) := by decide +kernel
set_option maxRecDepth 20000 in
theorem ggX4_become_X4_isPrime : GoodIn wsX4_become wsX4_isPrime := goodIn_r _ [5] (by decide +kernel) (by decide +kernel)
set_option maxRecDepth 20000 in
theorem gX4_become_X4_isPrime : GoodIn wsX4_become (va_wsS RX4 22 yX4_isPrime wsX4_isPrime) := goodIn_app (goodIn_of _ (by decide +kernel)) ggX4_become_X4_isPrime
set_option maxRecDepth 20000 in
theorem ggX4_become_X4_fillInverses : GoodIn wsX4_become wsX4_fillInverses := goodIn_r _ [9, 10, 1, 11, 12] (by decide +kernel) (by decide +kernel)
set_option maxRecDepth 20000 in
theorem gX4_become_X4_fillInverses : GoodIn wsX4_become (wsV RX4 19 RX4 yX4_fillInverses wsX4_fillInverses) := goodIn_app (goodIn_of _ (by decide +kernel)) ggX4_become_X4_fillInverses
theorem dX4_become_0 : decode cX4_become 0 = .ok (.iload_n 1, 1) := by decide +kernel
theorem dX4_become_1 : decode cX4_become 1 = .ok (.iconst 5, 1) := by decide +kernel
theorem dX4_become_2 : decode cX4_become 2 = .ok (.if_icmp .lt 17, 3) := by decide +kernel
theorem dX4_become_5 : decode cX4_become 5 = .ok (.iload_n 1, 1) := by decide +kernel
theorem dX4_become_6 : decode cX4_become 6 = .ok (.sipush 997, 3) := by decide +kernel
theorem dX4_become_9 : decode cX4_become 9 = .ok (.if_icmp .gt 10, 3) := by decide +kernel
theorem dX4_become_12 : decode cX4_become 12 = .ok (.iload_n 1, 1) := by decide +kernel
theorem dX4_become_13 : decode cX4_become 13 = .ok (.invokestatic 22, 3) := by decide +kernel
theorem dX4_become_16 : decode cX4_become 16 = .ok (.ifCond .ne 5, 3) := by decide +kernel
theorem dX4_become_19 : decode cX4_become 19 = .ok (.iconst 0, 1) := by decide +kernel
theorem dX4_become_20 : decode cX4_become 20 = .ok (.ireturn, 1) := by decide +kernel
theorem dX4_become_21 : decode cX4_become 21 = .ok (.aload_n 0, 1) := by decide +kernel
theorem dX4_become_22 : decode cX4_become 22 = .ok (.iload_n 1, 1) := by decide +kernel
theorem dX4_become_23 : decode cX4_become 23 = .ok (.putfield 15, 3) := by decide +kernel
theorem dX4_become_26 : decode cX4_become 26 = .ok (.aload_n 0, 1) := by decide +kernel
theorem dX4_become_27 : decode cX4_become 27 = .ok (.invokevirtual 19, 3) := by decide +kernel
theorem dX4_become_30 : decode cX4_become 30 = .ok (.iconst 1, 1) := by decide +kernel
theorem dX4_become_31 : decode cX4_become 31 = .ok (.ireturn, 1) := by decide +kernel
theorem dX4_isPrime_0 : decode cX4_isPrime 0 = .ok (.iconst 2, 1) := by decide +kernel
theorem dX4_isPrime_1 : decode cX4_isPrime 1 = .ok (.istore_n 1, 1) := by decide +kernel
theorem dX4_isPrime_2 : decode cX4_isPrime 2 = .ok (.iload_n 1, 1) := by decide +kernel
theorem dX4_isPrime_3 : decode cX4_isPrime 3 = .ok (.iload_n 1, 1) := by decide +kernel
theorem dX4_isPrime_4 : decode cX4_isPrime 4 = .ok (.imul, 1) := by decide +kernel
theorem dX4_isPrime_5 : decode cX4_isPrime 5 = .ok (.iload_n 0, 1) := by decide +kernel
theorem dX4_isPrime_6 : decode cX4_isPrime 6 = .ok (.if_icmp .gt 17, 3) := by decide +kernel
theorem dX4_isPrime_9 : decode cX4_isPrime 9 = .ok (.iload_n 0, 1) := by decide +kernel
theorem dX4_isPrime_10 : decode cX4_isPrime 10 = .ok (.iload_n 1, 1) := by decide +kernel
theorem dX4_isPrime_11 : decode cX4_isPrime 11 = .ok (.irem, 1) := by decide +kernel
theorem dX4_isPrime_12 : decode cX4_isPrime 12 = .ok (.ifCond .ne 5, 3) := by decide +kernel
theorem dX4_isPrime_15 : decode cX4_isPrime 15 = .ok (.iconst 0, 1) := by decide +kernel
theorem dX4_isPrime_16 : decode cX4_isPrime 16 = .ok (.ireturn, 1) := by decide +kernel
theorem dX4_isPrime_17 : decode cX4_isPrime 17 = .ok (.iinc 1 1, 3) := by decide +kernel
theorem dX4_isPrime_20 : decode cX4_isPrime 20 = .ok (.goto (-18), 3) := by decide +kernel
theorem dX4_isPrime_23 : decode cX4_isPrime 23 = .ok (.iload_n 0, 1) := by decide +kernel
theorem dX4_isPrime_24 : decode cX4_isPrime 24 = .ok (.iconst 1, 1) := by decide +kernel
theorem dX4_isPrime_25 : decode cX4_isPrime 25 = .ok (.if_icmp .le 7, 3) := by decide +kernel
theorem dX4_isPrime_28 : decode cX4_isPrime 28 = .ok (.iconst 1, 1) := by decide +kernel
theorem dX4_isPrime_29 : decode cX4_isPrime 29 = .ok (.goto 4, 3) := by decide +kernel
theorem dX4_isPrime_32 : decode cX4_isPrime 32 = .ok (.iconst 0, 1) := by decide +kernel
theorem dX4_isPrime_33 : decode cX4_isPrime 33 = .ok (.ireturn, 1) := by decide +kernel
theorem dX4_fillInverses_0 : decode cX4_fillInverses 0 = .ok (.aload_n 0, 1) := by decide +kernel
theorem dX4_fillInverses_1 : decode cX4_fillInverses 1 = .ok (.getfield 9, 3) := by decide +kernel
theorem dX4_fillInverses_4 : decode cX4_fillInverses 4 = .ok (.iconst 1, 1) := by decide +kernel
theorem dX4_fillInverses_5 : decode cX4_fillInverses 5 = .ok (.iconst 1, 1) := by decide +kernel
theorem dX4_fillInverses_6 : decode cX4_fillInverses 6 = .ok (.iastore, 1) := by decide +kernel
theorem dX4_fillInverses_7 : decode cX4_fillInverses 7 = .ok (.iconst 2, 1) := by decide +kernel
theorem dX4_fillInverses_8 : decode cX4_fillInverses 8 = .ok (.istore_n 1, 1) := by decide +kernel
theorem dX4_fillInverses_9 : decode cX4_fillInverses 9 = .ok (.iload_n 1, 1) := by decide +kernel
theorem dX4_fillInverses_10 : decode cX4_fillInverses 10 = .ok (.aload_n 0, 1) := by decide +kernel
theorem dX4_fillInverses_11 : decode cX4_fillInverses 11 = .ok (.getfield 15, 3) := by decide +kernel
theorem dX4_fillInverses_14 : decode cX4_fillInverses 14 = .ok (.if_icmp .ge 52, 3) := by decide +kernel
theorem dX4_fillInverses_17 : decode cX4_fillInverses 17 = .ok (.iload_n 1, 1) := by decide +kernel
theorem dX4_fillInverses_18 : decode cX4_fillInverses 18 = .ok (.aload_n 0, 1) := by decide +kernel
theorem dX4_fillInverses_19 : decode cX4_fillInverses 19 = .ok (.getfield 9, 3) := by decide +kernel
theorem dX4_fillInverses_22 : decode cX4_fillInverses 22 = .ok (.arraylength, 1) := by decide +kernel
theorem dX4_fillInverses_23 : decode cX4_fillInverses 23 = .ok (.if_icmp .ge 43, 3) := by decide +kernel
theorem dX4_fillInverses_26 : decode cX4_fillInverses 26 = .ok (.aload_n 0, 1) := by decide +kernel
theorem dX4_fillInverses_27 : decode cX4_fillInverses 27 = .ok (.getfield 9, 3) := by decide +kernel
theorem dX4_fillInverses_30 : decode cX4_fillInverses 30 = .ok (.iload_n 1, 1) := by decide +kernel
theorem dX4_fillInverses_31 : decode cX4_fillInverses 31 = .ok (.aload_n 0, 1) := by decide +kernel
theorem dX4_fillInverses_32 : decode cX4_fillInverses 32 = .ok (.getfield 15, 3) := by decide +kernel
theorem dX4_fillInverses_35 : decode cX4_fillInverses 35 = .ok (.aload_n 0, 1) := by decide +kernel
theorem dX4_fillInverses_36 : decode cX4_fillInverses 36 = .ok (.getfield 15, 3) := by decide +kernel
theorem dX4_fillInverses_39 : decode cX4_fillInverses 39 = .ok (.iload_n 1, 1) := by decide +kernel
theorem dX4_fillInverses_40 : decode cX4_fillInverses 40 = .ok (.idiv, 1) := by decide +kernel
theorem dX4_fillInverses_41 : decode cX4_fillInverses 41 = .ok (.isub, 1) := by decide +kernel
theorem dX4_fillInverses_42 : decode cX4_fillInverses 42 = .ok (.aload_n 0, 1) := by decide +kernel
theorem dX4_fillInverses_43 : decode cX4_fillInverses 43 = .ok (.getfield 9, 3) := by decide +kernel
theorem dX4_fillInverses_46 : decode cX4_fillInverses 46 = .ok (.aload_n 0, 1) := by decide +kernel
theorem dX4_fillInverses_47 : decode cX4_fillInverses 47 = .ok (.getfield 15, 3) := by decide +kernel
theorem dX4_fillInverses_50 : decode cX4_fillInverses 50 = .ok (.iload_n 1, 1) := by decide +kernel
theorem dX4_fillInverses_51 : decode cX4_fillInverses 51 = .ok (.irem, 1) := by decide +kernel
theorem dX4_fillInverses_52 : decode cX4_fillInverses 52 = .ok (.iaload, 1) := by decide +kernel
theorem dX4_fillInverses_53 : decode cX4_fillInverses 53 = .ok (.imul, 1) := by decide +kernel
theorem dX4_fillInverses_54 : decode cX4_fillInverses 54 = .ok (.aload_n 0, 1) := by decide +kernel
theorem dX4_fillInverses_55 : decode cX4_fillInverses 55 = .ok (.getfield 15, 3) := by decide +kernel
theorem dX4_fillInverses_58 : decode cX4_fillInverses 58 = .ok (.irem, 1) := by decide +kernel
theorem dX4_fillInverses_59 : decode cX4_fillInverses 59 = .ok (.iastore, 1) := by decide +kernel
theorem dX4_fillInverses_60 : decode cX4_fillInverses 60 = .ok (.iinc 1 1, 3) := by decide +kernel
theorem dX4_fillInverses_63 : decode cX4_fillInverses 63 = .ok (.goto (-54), 3) := by decide +kernel
theorem dX4_fillInverses_66 : decode cX4_fillInverses 66 = .ok (.return_, 1) := by decide +kernel
theorem dX4_has_0 : decode cX4_has 0 = .ok (.iload_n 1, 1) := by decide +kernel
theorem dX4_has_1 : decode cX4_has 1 = .ok (.ifCond .lt 15, 3) := by decide +kernel
theorem dX4_has_4 : decode cX4_has 4 = .ok (.iload_n 1, 1) := by decide +kernel
theorem dX4_has_5 : decode cX4_has 5 = .ok (.aload_n 0, 1) := by decide +kernel
theorem dX4_has_6 : decode cX4_has 6 = .ok (.getfield 15, 3) := by decide +kernel
theorem dX4_has_9 : decode cX4_has 9 = .ok (.if_icmp .ge 7, 3) := by decide +kernel
theorem dX4_has_12 : decode cX4_has 12 = .ok (.iconst 1, 1) := by decide +kernel
theorem dX4_has_13 : decode cX4_has 13 = .ok (.goto 4, 3) := by decide +kernel
theorem dX4_has_16 : decode cX4_has 16 = .ok (.iconst 0, 1) := by decide +kernel
theorem dX4_has_17 : decode cX4_has 17 = .ok (.ireturn, 1) := by decide +kernel
theorem dX4_times_0 : decode cX4_times 0 = .ok (.iload_n 1, 1) := by decide +kernel
theorem dX4_times_1 : decode cX4_times 1 = .ok (.iload_n 2, 1) := by decide +kernel
theorem dX4_times_2 : decode cX4_times 2 = .ok (.imul, 1) := by decide +kernel
theorem dX4_times_3 : decode cX4_times 3 = .ok (.aload_n 0, 1) := by decide +kernel
theorem dX4_times_4 : decode cX4_times 4 = .ok (.getfield 15, 3) := by decide +kernel
theorem dX4_times_7 : decode cX4_times 7 = .ok (.irem, 1) := by decide +kernel
theorem dX4_times_8 : decode cX4_times 8 = .ok (.ireturn, 1) := by decide +kernel
theorem dX4_plus_0 : decode cX4_plus 0 = .ok (.iload_n 1, 1) := by decide +kernel
theorem dX4_plus_1 : decode cX4_plus 1 = .ok (.iload_n 2, 1) := by decide +kernel
theorem dX4_plus_2 : decode cX4_plus 2 = .ok (.iadd, 1) := by decide +kernel
theorem dX4_plus_3 : decode cX4_plus 3 = .ok (.aload_n 0, 1) := by decide +kernel
theorem dX4_plus_4 : decode cX4_plus 4 = .ok (.getfield 15, 3) := by decide +kernel
theorem dX4_plus_7 : decode cX4_plus 7 = .ok (.irem, 1) := by decide +kernel
theorem dX4_plus_8 : decode cX4_plus 8 = .ok (.ireturn, 1) := by decide +kernel
theorem dX4_less_0 : decode cX4_less 0 = .ok (.iload_n 1, 1) := by decide +kernel
theorem dX4_less_1 : decode cX4_less 1 = .ok (.aload_n 0, 1) := by decide +kernel
theorem dX4_less_2 : decode cX4_less 2 = .ok (.getfield 15, 3) := by decide +kernel
theorem dX4_less_5 : decode cX4_less 5 = .ok (.iadd, 1) := by decide +kernel
theorem dX4_less_6 : decode cX4_less 6 = .ok (.iload_n 2, 1) := by decide +kernel
theorem dX4_less_7 : decode cX4_less 7 = .ok (.isub, 1) := by decide +kernel
theorem dX4_less_8 : decode cX4_less 8 = .ok (.aload_n 0, 1) := by decide +kernel
theorem dX4_less_9 : decode cX4_less 9 = .ok (.getfield 15, 3) := by decide +kernel
theorem dX4_less_12 : decode cX4_less 12 = .ok (.irem, 1) := by decide +kernel
theorem dX4_less_13 : decode cX4_less 13 = .ok (.ireturn, 1) := by decide +kernel
theorem dX4_over_0 : decode cX4_over 0 = .ok (.iload_n 2, 1) := by decide +kernel
theorem dX4_over_1 : decode cX4_over 1 = .ok (.ifCond .le 36, 3) := by decide +kernel
theorem dX4_over_4 : decode cX4_over 4 = .ok (.iload_n 2, 1) := by decide +kernel
theorem dX4_over_5 : decode cX4_over 5 = .ok (.aload_n 0, 1) := by decide +kernel
theorem dX4_over_6 : decode cX4_over 6 = .ok (.getfield 15, 3) := by decide +kernel
theorem dX4_over_9 : decode cX4_over 9 = .ok (.if_icmp .ge 28, 3) := by decide +kernel
theorem dX4_over_12 : decode cX4_over 12 = .ok (.iload_n 2, 1) := by decide +kernel
theorem dX4_over_13 : decode cX4_over 13 = .ok (.aload_n 0, 1) := by decide +kernel
theorem dX4_over_14 : decode cX4_over 14 = .ok (.getfield 9, 3) := by decide +kernel
theorem dX4_over_17 : decode cX4_over 17 = .ok (.arraylength, 1) := by decide +kernel
theorem dX4_over_18 : decode cX4_over 18 = .ok (.if_icmp .ge 19, 3) := by decide +kernel
theorem dX4_over_21 : decode cX4_over 21 = .ok (.iload_n 1, 1) := by decide +kernel
theorem dX4_over_22 : decode cX4_over 22 = .ok (.aload_n 0, 1) := by decide +kernel
theorem dX4_over_23 : decode cX4_over 23 = .ok (.getfield 9, 3) := by decide +kernel
theorem dX4_over_26 : decode cX4_over 26 = .ok (.iload_n 2, 1) := by decide +kernel
theorem dX4_over_27 : decode cX4_over 27 = .ok (.iaload, 1) := by decide +kernel
theorem dX4_over_28 : decode cX4_over 28 = .ok (.imul, 1) := by decide +kernel
theorem dX4_over_29 : decode cX4_over 29 = .ok (.aload_n 0, 1) := by decide +kernel
theorem dX4_over_30 : decode cX4_over 30 = .ok (.getfield 15, 3) := by decide +kernel
theorem dX4_over_33 : decode cX4_over 33 = .ok (.irem, 1) := by decide +kernel
theorem dX4_over_34 : decode cX4_over 34 = .ok (.goto 4, 3) := by decide +kernel
theorem dX4_over_37 : decode cX4_over 37 = .ok (.iconst 0, 1) := by decide +kernel
theorem dX4_over_38 : decode cX4_over 38 = .ok (.ireturn, 1) := by decide +kernel
theorem dX4_power_0 : decode cX4_power 0 = .ok (.iconst 1, 1) := by decide +kernel
theorem dX4_power_1 : decode cX4_power 1 = .ok (.istore_n 3, 1) := by decide +kernel
theorem dX4_power_2 : decode cX4_power 2 = .ok (.iconst 0, 1) := by decide +kernel
theorem dX4_power_3 : decode cX4_power 3 = .ok (.istore 4, 2) := by decide +kernel
theorem dX4_power_5 : decode cX4_power 5 = .ok (.iload 4, 2) := by decide +kernel
theorem dX4_power_7 : decode cX4_power 7 = .ok (.iload_n 2, 1) := by decide +kernel
theorem dX4_power_8 : decode cX4_power 8 = .ok (.if_icmp .ge 18, 3) := by decide +kernel
theorem dX4_power_11 : decode cX4_power 11 = .ok (.iload_n 3, 1) := by decide +kernel
theorem dX4_power_12 : decode cX4_power 12 = .ok (.iload_n 1, 1) := by decide +kernel
theorem dX4_power_13 : decode cX4_power 13 = .ok (.imul, 1) := by decide +kernel
theorem dX4_power_14 : decode cX4_power 14 = .ok (.aload_n 0, 1) := by decide +kernel
theorem dX4_power_15 : decode cX4_power 15 = .ok (.getfield 15, 3) := by decide +kernel
theorem dX4_power_18 : decode cX4_power 18 = .ok (.irem, 1) := by decide +kernel
theorem dX4_power_19 : decode cX4_power 19 = .ok (.istore_n 3, 1) := by decide +kernel
theorem dX4_power_20 : decode cX4_power 20 = .ok (.iinc 4 1, 3) := by decide +kernel
theorem dX4_power_23 : decode cX4_power 23 = .ok (.goto (-18), 3) := by decide +kernel
theorem dX4_power_26 : decode cX4_power 26 = .ok (.iload_n 3, 1) := by decide +kernel
theorem dX4_power_27 : decode cX4_power 27 = .ok (.ireturn, 1) := by decide +kernel

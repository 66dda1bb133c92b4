set_option maxRecDepth 20000 in
theorem ggX7_init_X4_init : GoodIn wsX7_init wsX4_init := goodIn_r _ [40, 41, 2, 3, 17, 42, 43, 44, 45, 46, 6, 47, 113, 114] (by decide +kernel) (by decide +kernel)
set_option maxRecDepth 20000 in
theorem gX7_init_X4_init : GoodIn wsX7_init (wsX4_init) := ggX7_init_X4_init
set_option maxRecDepth 20000 in
theorem ggX7_init_X0_init : GoodIn wsX7_init wsX0_init := goodIn_r _ [50, 51, 2, 3, 52, 53, 54, 127, 128, 129] (by decide +kernel) (by decide +kernel)
set_option maxRecDepth 20000 in
theorem gX7_init_X0_init : GoodIn wsX7_init (wsX0_init) := ggX7_init_X0_init
set_option maxRecDepth 20000 in
theorem ggX7_init_X1_init : GoodIn wsX7_init wsX1_init := goodIn_r _ [57, 58, 2, 3, 17, 59, 60, 61, 62, 63, 64, 65, 130, 131, 132, 133, 134, 135, 136] (by decide +kernel) (by decide +kernel)
set_option maxRecDepth 20000 in
theorem gX7_init_X1_init : GoodIn wsX7_init (wsX1_init) := ggX7_init_X1_init
set_option maxRecDepth 20000 in
theorem ggX7_init_X6_init : GoodIn wsX7_init wsX6_init := goodIn_r _ [68, 69, 2, 3, 17, 70, 71, 72, 73, 74, 75, 76, 77, 137, 138, 139, 140, 141, 142, 143, 144] (by decide +kernel) (by decide +kernel)
set_option maxRecDepth 20000 in
theorem gX7_init_X6_init : GoodIn wsX7_init (wsX6_init) := ggX7_init_X6_init
set_option maxRecDepth 20000 in
theorem ggX7_init_X3_init : GoodIn wsX7_init wsX3_init := goodIn_r _ [80, 81, 2, 3, 17, 82, 83, 84, 85, 86, 145, 146, 147, 148, 149] (by decide +kernel) (by decide +kernel)
set_option maxRecDepth 20000 in
theorem gX7_init_X3_init : GoodIn wsX7_init (wsX3_init) := ggX7_init_X3_init
set_option maxRecDepth 20000 in
theorem ggX7_init_X2_init : GoodIn wsX7_init wsX2_init := goodIn_r _ [89, 90, 2, 3, 17, 91, 92, 93, 20, 21, 94, 95, 96, 67, 68, 69, 70, 71, 72, 73, 74, 75, 76, 77, 150, 151, 152, 153, 137, 138, 139, 140, 141, 142, 143, 144] (by decide +kernel) (by decide +kernel)
set_option maxRecDepth 20000 in
theorem gX7_init_X2_init : GoodIn wsX7_init (wsX2_init) := ggX7_init_X2_init
set_option maxRecDepth 20000 in
theorem ggX7_init_X5_init : GoodIn wsX7_init wsX5_init := goodIn_r _ [99, 100, 2, 3, 17, 101, 102, 103, 104, 105, 106, 107, 20, 21, 108, 109, 13, 14, 110, 111, 67, 68, 69, 70, 71, 72, 73, 74, 75, 76, 77, 112, 56, 57, 58, 59, 60, 61, 62, 63, 64, 65, 154, 155, 156, 157, 158, 159, 160, 161, 137, 138, 139, 140, 141, 142, 143, 144, 130, 131, 132, 133, 134, 135, 136] (by decide +kernel) (by decide +kernel)
set_option maxRecDepth 20000 in
theorem gX7_init_X5_init : GoodIn wsX7_init (wsX5_init) := ggX7_init_X5_init
theorem dX7_init_0 : decode cX7_init 0 = .ok (.aload_n 0, 1) := by decide +kernel
theorem dX7_init_1 : decode cX7_init 1 = .ok (.invokespecial 1, 3) := by decide +kernel
theorem dX7_init_4 : decode cX7_init 4 = .ok (.aload_n 0, 1) := by decide +kernel
theorem dX7_init_5 : decode cX7_init 5 = .ok (.new 7, 3) := by decide +kernel
theorem dX7_init_8 : decode cX7_init 8 = .ok (.dup, 1) := by decide +kernel
theorem dX7_init_9 : decode cX7_init 9 = .ok (.invokespecial 9, 3) := by decide +kernel
theorem dX7_init_12 : decode cX7_init 12 = .ok (.putfield 10, 3) := by decide +kernel
theorem dX7_init_15 : decode cX7_init 15 = .ok (.aload_n 0, 1) := by decide +kernel
theorem dX7_init_16 : decode cX7_init 16 = .ok (.new 16, 3) := by decide +kernel
theorem dX7_init_19 : decode cX7_init 19 = .ok (.dup, 1) := by decide +kernel
theorem dX7_init_20 : decode cX7_init 20 = .ok (.aload_n 0, 1) := by decide +kernel
theorem dX7_init_21 : decode cX7_init 21 = .ok (.getfield 10, 3) := by decide +kernel
theorem dX7_init_24 : decode cX7_init 24 = .ok (.invokespecial 18, 3) := by decide +kernel
theorem dX7_init_27 : decode cX7_init 27 = .ok (.putfield 21, 3) := by decide +kernel
theorem dX7_init_30 : decode cX7_init 30 = .ok (.aload_n 0, 1) := by decide +kernel
theorem dX7_init_31 : decode cX7_init 31 = .ok (.new 25, 3) := by decide +kernel
theorem dX7_init_34 : decode cX7_init 34 = .ok (.dup, 1) := by decide +kernel
theorem dX7_init_35 : decode cX7_init 35 = .ok (.aload_n 0, 1) := by decide +kernel
theorem dX7_init_36 : decode cX7_init 36 = .ok (.getfield 10, 3) := by decide +kernel
theorem dX7_init_39 : decode cX7_init 39 = .ok (.aload_n 0, 1) := by decide +kernel
theorem dX7_init_40 : decode cX7_init 40 = .ok (.getfield 21, 3) := by decide +kernel
theorem dX7_init_43 : decode cX7_init 43 = .ok (.invokespecial 27, 3) := by decide +kernel
theorem dX7_init_46 : decode cX7_init 46 = .ok (.putfield 30, 3) := by decide +kernel
theorem dX7_init_49 : decode cX7_init 49 = .ok (.aload_n 0, 1) := by decide +kernel
theorem dX7_init_50 : decode cX7_init 50 = .ok (.new 25, 3) := by decide +kernel
theorem dX7_init_53 : decode cX7_init 53 = .ok (.dup, 1) := by decide +kernel
theorem dX7_init_54 : decode cX7_init 54 = .ok (.aload_n 0, 1) := by decide +kernel
theorem dX7_init_55 : decode cX7_init 55 = .ok (.getfield 10, 3) := by decide +kernel
theorem dX7_init_58 : decode cX7_init 58 = .ok (.aload_n 0, 1) := by decide +kernel
theorem dX7_init_59 : decode cX7_init 59 = .ok (.getfield 21, 3) := by decide +kernel
theorem dX7_init_62 : decode cX7_init 62 = .ok (.invokespecial 27, 3) := by decide +kernel
theorem dX7_init_65 : decode cX7_init 65 = .ok (.putfield 34, 3) := by decide +kernel
theorem dX7_init_68 : decode cX7_init 68 = .ok (.aload_n 0, 1) := by decide +kernel
theorem dX7_init_69 : decode cX7_init 69 = .ok (.bipush 16, 2) := by decide +kernel
theorem dX7_init_71 : decode cX7_init 71 = .ok (.newarray .int, 2) := by decide +kernel
theorem dX7_init_73 : decode cX7_init 73 = .ok (.putfield 37, 3) := by decide +kernel
theorem dX7_init_76 : decode cX7_init 76 = .ok (.aload_n 0, 1) := by decide +kernel
theorem dX7_init_77 : decode cX7_init 77 = .ok (.new 41, 3) := by decide +kernel
theorem dX7_init_80 : decode cX7_init 80 = .ok (.dup, 1) := by decide +kernel
theorem dX7_init_81 : decode cX7_init 81 = .ok (.aload_n 0, 1) := by decide +kernel
theorem dX7_init_82 : decode cX7_init 82 = .ok (.getfield 10, 3) := by decide +kernel
theorem dX7_init_85 : decode cX7_init 85 = .ok (.invokespecial 43, 3) := by decide +kernel
theorem dX7_init_88 : decode cX7_init 88 = .ok (.putfield 44, 3) := by decide +kernel
theorem dX7_init_91 : decode cX7_init 91 = .ok (.aload_n 0, 1) := by decide +kernel
theorem dX7_init_92 : decode cX7_init 92 = .ok (.new 48, 3) := by decide +kernel
theorem dX7_init_95 : decode cX7_init 95 = .ok (.dup, 1) := by decide +kernel
theorem dX7_init_96 : decode cX7_init 96 = .ok (.aload_n 0, 1) := by decide +kernel
theorem dX7_init_97 : decode cX7_init 97 = .ok (.getfield 10, 3) := by decide +kernel
theorem dX7_init_100 : decode cX7_init 100 = .ok (.invokespecial 50, 3) := by decide +kernel
theorem dX7_init_103 : decode cX7_init 103 = .ok (.putfield 51, 3) := by decide +kernel
theorem dX7_init_106 : decode cX7_init 106 = .ok (.aload_n 0, 1) := by decide +kernel
theorem dX7_init_107 : decode cX7_init 107 = .ok (.new 55, 3) := by decide +kernel
theorem dX7_init_110 : decode cX7_init 110 = .ok (.dup, 1) := by decide +kernel
theorem dX7_init_111 : decode cX7_init 111 = .ok (.aload_n 0, 1) := by decide +kernel
theorem dX7_init_112 : decode cX7_init 112 = .ok (.getfield 10, 3) := by decide +kernel
theorem dX7_init_115 : decode cX7_init 115 = .ok (.invokespecial 57, 3) := by decide +kernel
theorem dX7_init_118 : decode cX7_init 118 = .ok (.putfield 58, 3) := by decide +kernel
theorem dX7_init_121 : decode cX7_init 121 = .ok (.aload_n 0, 1) := by decide +kernel
theorem dX7_init_122 : decode cX7_init 122 = .ok (.new 62, 3) := by decide +kernel
theorem dX7_init_125 : decode cX7_init 125 = .ok (.dup, 1) := by decide +kernel
theorem dX7_init_126 : decode cX7_init 126 = .ok (.aload_n 0, 1) := by decide +kernel
theorem dX7_init_127 : decode cX7_init 127 = .ok (.getfield 10, 3) := by decide +kernel
theorem dX7_init_130 : decode cX7_init 130 = .ok (.aload_n 0, 1) := by decide +kernel
theorem dX7_init_131 : decode cX7_init 131 = .ok (.getfield 21, 3) := by decide +kernel
theorem dX7_init_134 : decode cX7_init 134 = .ok (.invokespecial 64, 3) := by decide +kernel
theorem dX7_init_137 : decode cX7_init 137 = .ok (.putfield 65, 3) := by decide +kernel
theorem dX7_init_140 : decode cX7_init 140 = .ok (.aload_n 0, 1) := by decide +kernel
theorem dX7_init_141 : decode cX7_init 141 = .ok (.iconst 0, 1) := by decide +kernel
theorem dX7_init_142 : decode cX7_init 142 = .ok (.putfield 69, 3) := by decide +kernel
theorem dX7_init_145 : decode cX7_init 145 = .ok (.aload_n 0, 1) := by decide +kernel
theorem dX7_init_146 : decode cX7_init 146 = .ok (.iconst 0, 1) := by decide +kernel
theorem dX7_init_147 : decode cX7_init 147 = .ok (.putfield 73, 3) := by decide +kernel
theorem dX7_init_150 : decode cX7_init 150 = .ok (.aload_n 0, 1) := by decide +kernel
theorem dX7_init_151 : decode cX7_init 151 = .ok (.lconst 0, 1) := by decide +kernel
theorem dX7_init_152 : decode cX7_init 152 = .ok (.putfield 76, 3) := by decide +kernel
theorem dX7_init_155 : decode cX7_init 155 = .ok (.return_, 1) := by decide +kernel
set_option maxRecDepth 20000 in
theorem ggX7_field_X4_become : GoodIn wsX7_field wsX4_become := goodIn_r _ [9, 10, 11, 12, 8, 13, 14, 15, 16, 17, 18, 37, 38] (by decide +kernel) (by decide +kernel)
set_option maxRecDepth 20000 in
theorem gX7_field_X4_become : GoodIn wsX7_field (wsV RX7 83 RX4 yX4_become wsX4_become) := goodIn_app (goodIn_of _ (by decide +kernel)) ggX7_field_X4_become
set_option maxRecDepth 20000 in
theorem ggX7_field_X1_drop : GoodIn wsX7_field wsX1_drop := goodIn_r _ [23, 24, 39, 40, 41, 42, 43, 44, 45] (by decide +kernel) (by decide +kernel)
set_option maxRecDepth 20000 in
theorem gX7_field_X1_drop : GoodIn wsX7_field (wsV RX7 87 RX1 yX1_drop wsX1_drop) := goodIn_app (goodIn_of _ (by decide +kernel)) ggX7_field_X1_drop
theorem dX7_field_0 : decode cX7_field 0 = .ok (.aload_n 0, 1) := by decide +kernel
theorem dX7_field_1 : decode cX7_field 1 = .ok (.getfield 10, 3) := by decide +kernel
theorem dX7_field_4 : decode cX7_field 4 = .ok (.getfield 80, 3) := by decide +kernel
theorem dX7_field_7 : decode cX7_field 7 = .ok (.istore_n 2, 1) := by decide +kernel
theorem dX7_field_8 : decode cX7_field 8 = .ok (.aload_n 0, 1) := by decide +kernel
theorem dX7_field_9 : decode cX7_field 9 = .ok (.getfield 10, 3) := by decide +kernel
theorem dX7_field_12 : decode cX7_field 12 = .ok (.iload_n 1, 1) := by decide +kernel
theorem dX7_field_13 : decode cX7_field 13 = .ok (.invokevirtual 83, 3) := by decide +kernel
theorem dX7_field_16 : decode cX7_field 16 = .ok (.ifCond .ne 5, 3) := by decide +kernel
theorem dX7_field_19 : decode cX7_field 19 = .ok (.iconst (-1), 1) := by decide +kernel
theorem dX7_field_20 : decode cX7_field 20 = .ok (.ireturn, 1) := by decide +kernel
theorem dX7_field_21 : decode cX7_field 21 = .ok (.aload_n 0, 1) := by decide +kernel
theorem dX7_field_22 : decode cX7_field 22 = .ok (.getfield 30, 3) := by decide +kernel
theorem dX7_field_25 : decode cX7_field 25 = .ok (.invokevirtual 87, 3) := by decide +kernel
theorem dX7_field_28 : decode cX7_field 28 = .ok (.aload_n 0, 1) := by decide +kernel
theorem dX7_field_29 : decode cX7_field 29 = .ok (.getfield 34, 3) := by decide +kernel
theorem dX7_field_32 : decode cX7_field 32 = .ok (.invokevirtual 87, 3) := by decide +kernel
theorem dX7_field_35 : decode cX7_field 35 = .ok (.aload_n 0, 1) := by decide +kernel
theorem dX7_field_36 : decode cX7_field 36 = .ok (.iconst 0, 1) := by decide +kernel
theorem dX7_field_37 : decode cX7_field 37 = .ok (.putfield 69, 3) := by decide +kernel
theorem dX7_field_40 : decode cX7_field 40 = .ok (.iload_n 2, 1) := by decide +kernel
theorem dX7_field_41 : decode cX7_field 41 = .ok (.ireturn, 1) := by decide +kernel
set_option maxRecDepth 20000 in
theorem ggX7_set_X7_setShift : GoodIn wsX7_set wsX7_setShift := goodIn_r _ [7, 8, 19, 20, 21, 22, 23, 24, 25, 26, 27, 28, 29, 30, 31, 32, 33] (by decide +kernel) (by decide +kernel)
set_option maxRecDepth 20000 in
theorem gX7_set_X7_setShift : GoodIn wsX7_set (wsV RX7 90 RX7 yX7_setShift wsX7_setShift) := goodIn_app (goodIn_of _ (by decide +kernel)) ggX7_set_X7_setShift
set_option maxRecDepth 20000 in
theorem ggX7_set_X7_setScale : GoodIn wsX7_set wsX7_setScale := goodIn_r _ [12, 8, 19, 20, 21, 22, 23, 24, 25, 26, 27, 28, 29, 30, 31, 32, 33] (by decide +kernel) (by decide +kernel)
set_option maxRecDepth 20000 in
theorem gX7_set_X7_setScale : GoodIn wsX7_set (wsV RX7 94 RX7 yX7_setScale wsX7_setScale) := goodIn_app (goodIn_of _ (by decide +kernel)) ggX7_set_X7_setScale
set_option maxRecDepth 20000 in
theorem ggX7_set_X7_setKind : GoodIn wsX7_set wsX7_setKind := goodIn_r _ [15, 16, 17, 6, 18, 34, 35, 36, 37, 38, 39, 40] (by decide +kernel) (by decide +kernel)
set_option maxRecDepth 20000 in
theorem gX7_set_X7_setKind : GoodIn wsX7_set (va_wsS RX7 97 yX7_setKind wsX7_setKind) := goodIn_app (goodIn_of _ (by decide +kernel)) ggX7_set_X7_setKind
theorem dX7_set_0 : decode cX7_set 0 = .ok (.iload_n 1, 1) := by decide +kernel
theorem dX7_set_1 : decode cX7_set 1 = .ok (.tableswitch 61 0 3 #[31, 37, 43, 52], 31) := by decide +kernel
theorem dX7_set_32 : decode cX7_set 32 = .ok (.aload_n 0, 1) := by decide +kernel
theorem dX7_set_33 : decode cX7_set 33 = .ok (.iload_n 2, 1) := by decide +kernel
theorem dX7_set_34 : decode cX7_set 34 = .ok (.invokevirtual 90, 3) := by decide +kernel
theorem dX7_set_37 : decode cX7_set 37 = .ok (.ireturn, 1) := by decide +kernel
theorem dX7_set_38 : decode cX7_set 38 = .ok (.aload_n 0, 1) := by decide +kernel
theorem dX7_set_39 : decode cX7_set 39 = .ok (.iload_n 2, 1) := by decide +kernel
theorem dX7_set_40 : decode cX7_set 40 = .ok (.invokevirtual 94, 3) := by decide +kernel
theorem dX7_set_43 : decode cX7_set 43 = .ok (.ireturn, 1) := by decide +kernel
theorem dX7_set_44 : decode cX7_set 44 = .ok (.aload_n 0, 1) := by decide +kernel
theorem dX7_set_45 : decode cX7_set 45 = .ok (.getfield 30, 3) := by decide +kernel
theorem dX7_set_48 : decode cX7_set 48 = .ok (.iload_n 2, 1) := by decide +kernel
theorem dX7_set_49 : decode cX7_set 49 = .ok (.invokestatic 97, 3) := by decide +kernel
theorem dX7_set_52 : decode cX7_set 52 = .ok (.ireturn, 1) := by decide +kernel
theorem dX7_set_53 : decode cX7_set 53 = .ok (.aload_n 0, 1) := by decide +kernel
theorem dX7_set_54 : decode cX7_set 54 = .ok (.getfield 34, 3) := by decide +kernel
theorem dX7_set_57 : decode cX7_set 57 = .ok (.iload_n 2, 1) := by decide +kernel
theorem dX7_set_58 : decode cX7_set 58 = .ok (.invokestatic 97, 3) := by decide +kernel
theorem dX7_set_61 : decode cX7_set 61 = .ok (.ireturn, 1) := by decide +kernel
theorem dX7_set_62 : decode cX7_set 62 = .ok (.iconst (-1), 1) := by decide +kernel
theorem dX7_set_63 : decode cX7_set 63 = .ok (.ireturn, 1) := by decide +kernel
theorem dX7_setShift_0 : decode cX7_setShift 0 = .ok (.iload_n 1, 1) := by decide +kernel
theorem dX7_setShift_1 : decode cX7_setShift 1 = .ok (.ifCond .lt 10, 3) := by decide +kernel
theorem dX7_setShift_4 : decode cX7_setShift 4 = .ok (.iload_n 1, 1) := by decide +kernel
theorem dX7_setShift_5 : decode cX7_setShift 5 = .ok (.sipush 996, 3) := by decide +kernel
theorem dX7_setShift_8 : decode cX7_setShift 8 = .ok (.if_icmp .le 5, 3) := by decide +kernel
theorem dX7_setShift_11 : decode cX7_setShift 11 = .ok (.iconst (-1), 1) := by decide +kernel
theorem dX7_setShift_12 : decode cX7_setShift 12 = .ok (.ireturn, 1) := by decide +kernel
theorem dX7_setShift_13 : decode cX7_setShift 13 = .ok (.aload_n 0, 1) := by decide +kernel
theorem dX7_setShift_14 : decode cX7_setShift 14 = .ok (.getfield 21, 3) := by decide +kernel
theorem dX7_setShift_17 : decode cX7_setShift 17 = .ok (.getfield 101, 3) := by decide +kernel
theorem dX7_setShift_20 : decode cX7_setShift 20 = .ok (.istore_n 2, 1) := by decide +kernel
theorem dX7_setShift_21 : decode cX7_setShift 21 = .ok (.aload_n 0, 1) := by decide +kernel
theorem dX7_setShift_22 : decode cX7_setShift 22 = .ok (.getfield 21, 3) := by decide +kernel
theorem dX7_setShift_25 : decode cX7_setShift 25 = .ok (.iload_n 1, 1) := by decide +kernel
theorem dX7_setShift_26 : decode cX7_setShift 26 = .ok (.putfield 101, 3) := by decide +kernel
theorem dX7_setShift_29 : decode cX7_setShift 29 = .ok (.iload_n 2, 1) := by decide +kernel
theorem dX7_setShift_30 : decode cX7_setShift 30 = .ok (.ireturn, 1) := by decide +kernel
theorem dX7_setScale_0 : decode cX7_setScale 0 = .ok (.iload_n 1, 1) := by decide +kernel
theorem dX7_setScale_1 : decode cX7_setScale 1 = .ok (.iconst 1, 1) := by decide +kernel
theorem dX7_setScale_2 : decode cX7_setScale 2 = .ok (.if_icmp .lt 10, 3) := by decide +kernel
theorem dX7_setScale_5 : decode cX7_setScale 5 = .ok (.iload_n 1, 1) := by decide +kernel
theorem dX7_setScale_6 : decode cX7_setScale 6 = .ok (.sipush 996, 3) := by decide +kernel
theorem dX7_setScale_9 : decode cX7_setScale 9 = .ok (.if_icmp .le 5, 3) := by decide +kernel
theorem dX7_setScale_12 : decode cX7_setScale 12 = .ok (.iconst (-1), 1) := by decide +kernel
theorem dX7_setScale_13 : decode cX7_setScale 13 = .ok (.ireturn, 1) := by decide +kernel
theorem dX7_setScale_14 : decode cX7_setScale 14 = .ok (.aload_n 0, 1) := by decide +kernel
theorem dX7_setScale_15 : decode cX7_setScale 15 = .ok (.getfield 21, 3) := by decide +kernel
theorem dX7_setScale_18 : decode cX7_setScale 18 = .ok (.getfield 104, 3) := by decide +kernel
theorem dX7_setScale_21 : decode cX7_setScale 21 = .ok (.istore_n 2, 1) := by decide +kernel
theorem dX7_setScale_22 : decode cX7_setScale 22 = .ok (.aload_n 0, 1) := by decide +kernel
theorem dX7_setScale_23 : decode cX7_setScale 23 = .ok (.getfield 21, 3) := by decide +kernel
theorem dX7_setScale_26 : decode cX7_setScale 26 = .ok (.iload_n 1, 1) := by decide +kernel
theorem dX7_setScale_27 : decode cX7_setScale 27 = .ok (.putfield 104, 3) := by decide +kernel
theorem dX7_setScale_30 : decode cX7_setScale 30 = .ok (.iload_n 2, 1) := by decide +kernel
theorem dX7_setScale_31 : decode cX7_setScale 31 = .ok (.ireturn, 1) := by decide +kernel
set_option maxRecDepth 20000 in
theorem ggX7_setKind_X7_isKind : GoodIn wsX7_setKind wsX7_isKind := goodIn_r _ [4] (by decide +kernel) (by decide +kernel)
set_option maxRecDepth 20000 in
theorem gX7_setKind_X7_isKind : GoodIn wsX7_setKind (va_wsS RX7 107 yX7_isKind wsX7_isKind) := goodIn_app (goodIn_of _ (by decide +kernel)) ggX7_setKind_X7_isKind
theorem dX7_setKind_0 : decode cX7_setKind 0 = .ok (.iload_n 1, 1) := by decide +kernel
theorem dX7_setKind_1 : decode cX7_setKind 1 = .ok (.invokestatic 107, 3) := by decide +kernel
theorem dX7_setKind_4 : decode cX7_setKind 4 = .ok (.ifCond .ne 5, 3) := by decide +kernel
theorem dX7_setKind_7 : decode cX7_setKind 7 = .ok (.iconst (-1), 1) := by decide +kernel
theorem dX7_setKind_8 : decode cX7_setKind 8 = .ok (.ireturn, 1) := by decide +kernel
theorem dX7_setKind_9 : decode cX7_setKind 9 = .ok (.aload_n 0, 1) := by decide +kernel
theorem dX7_setKind_10 : decode cX7_setKind 10 = .ok (.getfield 110, 3) := by decide +kernel
theorem dX7_setKind_13 : decode cX7_setKind 13 = .ok (.istore_n 2, 1) := by decide +kernel
theorem dX7_setKind_14 : decode cX7_setKind 14 = .ok (.aload_n 0, 1) := by decide +kernel
theorem dX7_setKind_15 : decode cX7_setKind 15 = .ok (.iload_n 1, 1) := by decide +kernel
theorem dX7_setKind_16 : decode cX7_setKind 16 = .ok (.putfield 110, 3) := by decide +kernel
theorem dX7_setKind_19 : decode cX7_setKind 19 = .ok (.iload_n 2, 1) := by decide +kernel
theorem dX7_setKind_20 : decode cX7_setKind 20 = .ok (.ireturn, 1) := by decide +kernel
set_option maxRecDepth 20000 in
theorem ggX7_form_X7_isKind : GoodIn wsX7_form wsX7_isKind := goodIn_r _ [7] (by decide +kernel) (by decide +kernel)
set_option maxRecDepth 20000 in
theorem gX7_form_X7_isKind : GoodIn wsX7_form (va_wsS RX7 107 yX7_isKind wsX7_isKind) := goodIn_app (goodIn_of _ (by decide +kernel)) ggX7_form_X7_isKind
set_option maxRecDepth 20000 in
theorem ggX7_form_X4_has : GoodIn wsX7_form wsX4_has := goodIn_r _ [12, 13, 52, 53] (by decide +kernel) (by decide +kernel)
set_option maxRecDepth 20000 in
theorem gX7_form_X4_has : GoodIn wsX7_form (wsV RX7 113 RX4 yX4_has wsX4_has) := goodIn_app (goodIn_of _ (by decide +kernel)) ggX7_form_X4_has
set_option maxRecDepth 20000 in
theorem ggX7_form_X7_isExponent : GoodIn wsX7_form wsX7_isExponent := goodIn_r _ [16] (by decide +kernel) (by decide +kernel)
set_option maxRecDepth 20000 in
theorem gX7_form_X7_isExponent : GoodIn wsX7_form (va_wsS RX7 116 yX7_isExponent wsX7_isExponent) := goodIn_app (goodIn_of _ (by decide +kernel)) ggX7_form_X7_isExponent
set_option maxRecDepth 20000 in
theorem ggX7_form_X0_bodiesAsked : GoodIn wsX7_form wsX0_bodiesAsked := goodIn_r _ [20] (by decide +kernel) (by decide +kernel)
set_option maxRecDepth 20000 in
theorem gX7_form_X0_bodiesAsked : GoodIn wsX7_form (va_wsS RX7 119 yX0_bodiesAsked wsX0_bodiesAsked) := goodIn_app (goodIn_of _ (by decide +kernel)) ggX7_form_X0_bodiesAsked
set_option maxRecDepth 20000 in
theorem ggX7_form_X0_letter : GoodIn wsX7_form wsX0_letter := goodIn_r _ [24, 25, 26, 27, 28, 29, 30, 11, 31, 13, 32, 33, 34, 35, 36, 37, 38, 39, 54, 55, 56, 52, 53] (by decide +kernel) (by decide +kernel)
set_option maxRecDepth 20000 in
theorem gX7_form_X0_letter : GoodIn wsX7_form (wsV RX7 122 RX0 yX0_letter wsX0_letter) := goodIn_app (goodIn_of _ (by decide +kernel)) ggX7_form_X0_letter
theorem dX7_form_0 : decode cX7_form 0 = .ok (.iload_n 1, 1) := by decide +kernel
theorem dX7_form_1 : decode cX7_form 1 = .ok (.invokestatic 107, 3) := by decide +kernel
theorem dX7_form_4 : decode cX7_form 4 = .ok (.ifCond .eq 21, 3) := by decide +kernel
theorem dX7_form_7 : decode cX7_form 7 = .ok (.aload_n 0, 1) := by decide +kernel
theorem dX7_form_8 : decode cX7_form 8 = .ok (.getfield 10, 3) := by decide +kernel
theorem dX7_form_11 : decode cX7_form 11 = .ok (.iload_n 2, 1) := by decide +kernel
theorem dX7_form_12 : decode cX7_form 12 = .ok (.invokevirtual 113, 3) := by decide +kernel
theorem dX7_form_15 : decode cX7_form 15 = .ok (.ifCond .eq 10, 3) := by decide +kernel
theorem dX7_form_18 : decode cX7_form 18 = .ok (.iload_n 3, 1) := by decide +kernel
theorem dX7_form_19 : decode cX7_form 19 = .ok (.invokestatic 116, 3) := by decide +kernel
theorem dX7_form_22 : decode cX7_form 22 = .ok (.ifCond .ne 5, 3) := by decide +kernel
theorem dX7_form_25 : decode cX7_form 25 = .ok (.iconst (-1), 1) := by decide +kernel
theorem dX7_form_26 : decode cX7_form 26 = .ok (.ireturn, 1) := by decide +kernel
theorem dX7_form_27 : decode cX7_form 27 = .ok (.aload_n 0, 1) := by decide +kernel
theorem dX7_form_28 : decode cX7_form 28 = .ok (.dup, 1) := by decide +kernel
theorem dX7_form_29 : decode cX7_form 29 = .ok (.getfield 76, 3) := by decide +kernel
theorem dX7_form_32 : decode cX7_form 32 = .ok (.iload_n 1, 1) := by decide +kernel
theorem dX7_form_33 : decode cX7_form 33 = .ok (.invokestatic 119, 3) := by decide +kernel
theorem dX7_form_36 : decode cX7_form 36 = .ok (.i2l, 1) := by decide +kernel
theorem dX7_form_37 : decode cX7_form 37 = .ok (.ladd, 1) := by decide +kernel
theorem dX7_form_38 : decode cX7_form 38 = .ok (.putfield 76, 3) := by decide +kernel
theorem dX7_form_41 : decode cX7_form 41 = .ok (.aload_n 0, 1) := by decide +kernel
theorem dX7_form_42 : decode cX7_form 42 = .ok (.getfield 21, 3) := by decide +kernel
theorem dX7_form_45 : decode cX7_form 45 = .ok (.iload_n 1, 1) := by decide +kernel
theorem dX7_form_46 : decode cX7_form 46 = .ok (.iload_n 2, 1) := by decide +kernel
theorem dX7_form_47 : decode cX7_form 47 = .ok (.iload_n 3, 1) := by decide +kernel
theorem dX7_form_48 : decode cX7_form 48 = .ok (.invokevirtual 122, 3) := by decide +kernel
theorem dX7_form_51 : decode cX7_form 51 = .ok (.ireturn, 1) := by decide +kernel
set_option maxRecDepth 20000 in
theorem ggX7_term_X7_isBox : GoodIn wsX7_term wsX7_isBox := goodIn_r _ [5] (by decide +kernel) (by decide +kernel)
set_option maxRecDepth 20000 in
theorem gX7_term_X7_isBox : GoodIn wsX7_term (va_wsS RX7 126 yX7_isBox wsX7_isBox) := goodIn_app (goodIn_of _ (by decide +kernel)) ggX7_term_X7_isBox
set_option maxRecDepth 20000 in
theorem ggX7_term_X4_has : GoodIn wsX7_term wsX4_has := goodIn_r _ [10, 11, 47, 48] (by decide +kernel) (by decide +kernel)
set_option maxRecDepth 20000 in
theorem gX7_term_X4_has : GoodIn wsX7_term (wsV RX7 113 RX4 yX4_has wsX4_has) := goodIn_app (goodIn_of _ (by decide +kernel)) ggX7_term_X4_has
set_option maxRecDepth 20000 in
theorem ggX7_term_X7_isExponent : GoodIn wsX7_term wsX7_isExponent := goodIn_r _ [14] (by decide +kernel) (by decide +kernel)
set_option maxRecDepth 20000 in
theorem gX7_term_X7_isExponent : GoodIn wsX7_term (va_wsS RX7 116 yX7_isExponent wsX7_isExponent) := goodIn_app (goodIn_of _ (by decide +kernel)) ggX7_term_X7_isExponent
set_option maxRecDepth 20000 in
theorem ggX7_term_X7_boxOf : GoodIn wsX7_term wsX7_boxOf := goodIn_r _ [18, 19, 20, 28, 29, 30, 31, 32, 33, 34, 35, 36, 37, 38, 39] (by decide +kernel) (by decide +kernel)
set_option maxRecDepth 20000 in
theorem gX7_term_X7_boxOf : GoodIn wsX7_term (wsV RX7 129 RX7 yX7_boxOf wsX7_boxOf) := goodIn_app (goodIn_of _ (by decide +kernel)) ggX7_term_X7_boxOf
set_option maxRecDepth 20000 in
theorem ggX7_term_X1_add : GoodIn wsX7_term wsX1_add := goodIn_r _ [25, 26, 27, 40, 41, 42, 43, 44, 45, 46] (by decide +kernel) (by decide +kernel)
set_option maxRecDepth 20000 in
theorem gX7_term_X1_add : GoodIn wsX7_term (wsV RX7 136 RX1 yX1_add wsX1_add) := goodIn_app (goodIn_of _ (by decide +kernel)) ggX7_term_X1_add
theorem dX7_term_0 : decode cX7_term 0 = .ok (.iload_n 1, 1) := by decide +kernel
theorem dX7_term_1 : decode cX7_term 1 = .ok (.invokestatic 126, 3) := by decide +kernel
theorem dX7_term_4 : decode cX7_term 4 = .ok (.ifCond .eq 18, 3) := by decide +kernel
theorem dX7_term_7 : decode cX7_term 7 = .ok (.iload_n 2, 1) := by decide +kernel
theorem dX7_term_8 : decode cX7_term 8 = .ok (.ifCond .eq 14, 3) := by decide +kernel
theorem dX7_term_11 : decode cX7_term 11 = .ok (.aload_n 0, 1) := by decide +kernel
theorem dX7_term_12 : decode cX7_term 12 = .ok (.getfield 10, 3) := by decide +kernel
theorem dX7_term_15 : decode cX7_term 15 = .ok (.iload_n 2, 1) := by decide +kernel
theorem dX7_term_16 : decode cX7_term 16 = .ok (.invokevirtual 113, 3) := by decide +kernel
theorem dX7_term_19 : decode cX7_term 19 = .ok (.ifCond .ne 5, 3) := by decide +kernel
theorem dX7_term_22 : decode cX7_term 22 = .ok (.iconst (-1), 1) := by decide +kernel
theorem dX7_term_23 : decode cX7_term 23 = .ok (.ireturn, 1) := by decide +kernel
theorem dX7_term_24 : decode cX7_term 24 = .ok (.iload_n 3, 1) := by decide +kernel
theorem dX7_term_25 : decode cX7_term 25 = .ok (.invokestatic 116, 3) := by decide +kernel
theorem dX7_term_28 : decode cX7_term 28 = .ok (.ifCond .eq 19, 3) := by decide +kernel
theorem dX7_term_31 : decode cX7_term 31 = .ok (.iload 4, 2) := by decide +kernel
theorem dX7_term_33 : decode cX7_term 33 = .ok (.invokestatic 116, 3) := by decide +kernel
theorem dX7_term_36 : decode cX7_term 36 = .ok (.ifCond .eq 11, 3) := by decide +kernel
theorem dX7_term_39 : decode cX7_term 39 = .ok (.iload 5, 2) := by decide +kernel
theorem dX7_term_41 : decode cX7_term 41 = .ok (.invokestatic 116, 3) := by decide +kernel
theorem dX7_term_44 : decode cX7_term 44 = .ok (.ifCond .ne 5, 3) := by decide +kernel
theorem dX7_term_47 : decode cX7_term 47 = .ok (.iconst (-1), 1) := by decide +kernel
theorem dX7_term_48 : decode cX7_term 48 = .ok (.ireturn, 1) := by decide +kernel
theorem dX7_term_49 : decode cX7_term 49 = .ok (.aload_n 0, 1) := by decide +kernel
theorem dX7_term_50 : decode cX7_term 50 = .ok (.iload_n 1, 1) := by decide +kernel
theorem dX7_term_51 : decode cX7_term 51 = .ok (.invokevirtual 129, 3) := by decide +kernel
theorem dX7_term_54 : decode cX7_term 54 = .ok (.astore 6, 2) := by decide +kernel
theorem dX7_term_56 : decode cX7_term 56 = .ok (.aload 6, 2) := by decide +kernel
theorem dX7_term_58 : decode cX7_term 58 = .ok (.getfield 133, 3) := by decide +kernel
theorem dX7_term_61 : decode cX7_term 61 = .ok (.istore 7, 2) := by decide +kernel
theorem dX7_term_63 : decode cX7_term 63 = .ok (.aload 6, 2) := by decide +kernel
theorem dX7_term_65 : decode cX7_term 65 = .ok (.iload_n 2, 1) := by decide +kernel
theorem dX7_term_66 : decode cX7_term 66 = .ok (.iload_n 3, 1) := by decide +kernel
theorem dX7_term_67 : decode cX7_term 67 = .ok (.iload 4, 2) := by decide +kernel
theorem dX7_term_69 : decode cX7_term 69 = .ok (.iload 5, 2) := by decide +kernel
theorem dX7_term_71 : decode cX7_term 71 = .ok (.invokevirtual 136, 3) := by decide +kernel
theorem dX7_term_74 : decode cX7_term 74 = .ok (.ifCond .eq 8, 3) := by decide +kernel
theorem dX7_term_77 : decode cX7_term 77 = .ok (.iload 7, 2) := by decide +kernel
theorem dX7_term_79 : decode cX7_term 79 = .ok (.goto 5, 3) := by decide +kernel
theorem dX7_term_82 : decode cX7_term 82 = .ok (.bipush (-3), 2) := by decide +kernel
theorem dX7_term_84 : decode cX7_term 84 = .ok (.ireturn, 1) := by decide +kernel
set_option maxRecDepth 20000 in
theorem ggX7_empty_X7_isBox : GoodIn wsX7_empty wsX7_isBox := goodIn_r _ [4] (by decide +kernel) (by decide +kernel)
set_option maxRecDepth 20000 in
theorem gX7_empty_X7_isBox : GoodIn wsX7_empty (va_wsS RX7 126 yX7_isBox wsX7_isBox) := goodIn_app (goodIn_of _ (by decide +kernel)) ggX7_empty_X7_isBox
set_option maxRecDepth 20000 in
theorem ggX7_empty_X7_boxOf : GoodIn wsX7_empty wsX7_boxOf := goodIn_r _ [8, 9, 10, 24, 25, 26, 27, 28, 29, 30, 31, 32, 33, 34, 35] (by decide +kernel) (by decide +kernel)
set_option maxRecDepth 20000 in
theorem gX7_empty_X7_boxOf : GoodIn wsX7_empty (wsV RX7 129 RX7 yX7_boxOf wsX7_boxOf) := goodIn_app (goodIn_of _ (by decide +kernel)) ggX7_empty_X7_boxOf
set_option maxRecDepth 20000 in
theorem ggX7_empty_X1_drop : GoodIn wsX7_empty wsX1_drop := goodIn_r _ [15, 16, 17, 18, 19, 20, 21, 22, 23] (by decide +kernel) (by decide +kernel)
set_option maxRecDepth 20000 in
theorem gX7_empty_X1_drop : GoodIn wsX7_empty (wsV RX7 87 RX1 yX1_drop wsX1_drop) := goodIn_app (goodIn_of _ (by decide +kernel)) ggX7_empty_X1_drop
theorem dX7_empty_0 : decode cX7_empty 0 = .ok (.iload_n 1, 1) := by decide +kernel
theorem dX7_empty_1 : decode cX7_empty 1 = .ok (.invokestatic 126, 3) := by decide +kernel
theorem dX7_empty_4 : decode cX7_empty 4 = .ok (.ifCond .ne 5, 3) := by decide +kernel
theorem dX7_empty_7 : decode cX7_empty 7 = .ok (.iconst (-1), 1) := by decide +kernel
theorem dX7_empty_8 : decode cX7_empty 8 = .ok (.ireturn, 1) := by decide +kernel
theorem dX7_empty_9 : decode cX7_empty 9 = .ok (.aload_n 0, 1) := by decide +kernel
theorem dX7_empty_10 : decode cX7_empty 10 = .ok (.iload_n 1, 1) := by decide +kernel
theorem dX7_empty_11 : decode cX7_empty 11 = .ok (.invokevirtual 129, 3) := by decide +kernel
theorem dX7_empty_14 : decode cX7_empty 14 = .ok (.astore_n 2, 1) := by decide +kernel
theorem dX7_empty_15 : decode cX7_empty 15 = .ok (.aload_n 2, 1) := by decide +kernel
theorem dX7_empty_16 : decode cX7_empty 16 = .ok (.getfield 133, 3) := by decide +kernel
theorem dX7_empty_19 : decode cX7_empty 19 = .ok (.istore_n 3, 1) := by decide +kernel
theorem dX7_empty_20 : decode cX7_empty 20 = .ok (.aload_n 2, 1) := by decide +kernel
theorem dX7_empty_21 : decode cX7_empty 21 = .ok (.invokevirtual 87, 3) := by decide +kernel
theorem dX7_empty_24 : decode cX7_empty 24 = .ok (.iload_n 3, 1) := by decide +kernel
theorem dX7_empty_25 : decode cX7_empty 25 = .ok (.ireturn, 1) := by decide +kernel
set_option maxRecDepth 20000 in
theorem ggX7_ask_X7_isBox : GoodIn wsX7_ask wsX7_isBox := goodIn_r _ [5] (by decide +kernel) (by decide +kernel)
set_option maxRecDepth 20000 in
theorem gX7_ask_X7_isBox : GoodIn wsX7_ask (va_wsS RX7 126 yX7_isBox wsX7_isBox) := goodIn_app (goodIn_of _ (by decide +kernel)) ggX7_ask_X7_isBox
set_option maxRecDepth 20000 in
theorem ggX7_ask_X7_arePoint : GoodIn wsX7_ask wsX7_arePoint := goodIn_r _ [9, 10, 11, 12, 13, 14, 15, 16, 62, 63, 64, 65, 66, 67, 68, 69, 70, 71, 72, 73, 74, 75] (by decide +kernel) (by decide +kernel)
set_option maxRecDepth 20000 in
theorem gX7_ask_X7_arePoint : GoodIn wsX7_ask (wsV RX7 140 RX7 yX7_arePoint wsX7_arePoint) := goodIn_app (goodIn_of _ (by decide +kernel)) ggX7_ask_X7_arePoint
set_option maxRecDepth 20000 in
theorem ggX7_ask_X7_boxOf : GoodIn wsX7_ask wsX7_boxOf := goodIn_r _ [20, 21, 22, 62, 63, 64, 65, 66, 67, 68, 69, 70, 71, 72, 73] (by decide +kernel) (by decide +kernel)
set_option maxRecDepth 20000 in
theorem gX7_ask_X7_boxOf : GoodIn wsX7_ask (wsV RX7 129 RX7 yX7_boxOf wsX7_boxOf) := goodIn_app (goodIn_of _ (by decide +kernel)) ggX7_ask_X7_boxOf
set_option maxRecDepth 20000 in
theorem ggX7_ask_X1_answer : GoodIn wsX7_ask wsX1_answer := goodIn_r _ [27, 28, 29, 30, 31, 32, 33, 34, 26, 35, 36, 37, 38, 39, 40, 41, 42, 43, 44, 45, 46, 47, 48, 49, 50, 51, 14, 52, 16, 53, 54, 55, 56, 57, 58, 59, 60, 61, 76, 77, 78, 79, 80, 81, 82, 74, 75, 83, 84, 85] (by decide +kernel) (by decide +kernel)
set_option maxRecDepth 20000 in
theorem gX7_ask_X1_answer : GoodIn wsX7_ask (wsV RX7 144 RX1 yX1_answer wsX1_answer) := goodIn_app (goodIn_of _ (by decide +kernel)) ggX7_ask_X1_answer
theorem dX7_ask_0 : decode cX7_ask 0 = .ok (.iload_n 1, 1) := by decide +kernel
theorem dX7_ask_1 : decode cX7_ask 1 = .ok (.invokestatic 126, 3) := by decide +kernel
theorem dX7_ask_4 : decode cX7_ask 4 = .ok (.ifCond .eq 14, 3) := by decide +kernel
theorem dX7_ask_7 : decode cX7_ask 7 = .ok (.aload_n 0, 1) := by decide +kernel
theorem dX7_ask_8 : decode cX7_ask 8 = .ok (.iload_n 2, 1) := by decide +kernel
theorem dX7_ask_9 : decode cX7_ask 9 = .ok (.iload_n 3, 1) := by decide +kernel
theorem dX7_ask_10 : decode cX7_ask 10 = .ok (.iload 4, 2) := by decide +kernel
theorem dX7_ask_12 : decode cX7_ask 12 = .ok (.invokevirtual 140, 3) := by decide +kernel
theorem dX7_ask_15 : decode cX7_ask 15 = .ok (.ifCond .ne 5, 3) := by decide +kernel
theorem dX7_ask_18 : decode cX7_ask 18 = .ok (.iconst (-1), 1) := by decide +kernel
theorem dX7_ask_19 : decode cX7_ask 19 = .ok (.ireturn, 1) := by decide +kernel
theorem dX7_ask_20 : decode cX7_ask 20 = .ok (.aload_n 0, 1) := by decide +kernel
theorem dX7_ask_21 : decode cX7_ask 21 = .ok (.dup, 1) := by decide +kernel
theorem dX7_ask_22 : decode cX7_ask 22 = .ok (.getfield 73, 3) := by decide +kernel
theorem dX7_ask_25 : decode cX7_ask 25 = .ok (.iconst 1, 1) := by decide +kernel
theorem dX7_ask_26 : decode cX7_ask 26 = .ok (.iadd, 1) := by decide +kernel
theorem dX7_ask_27 : decode cX7_ask 27 = .ok (.putfield 73, 3) := by decide +kernel
theorem dX7_ask_30 : decode cX7_ask 30 = .ok (.aload_n 0, 1) := by decide +kernel
theorem dX7_ask_31 : decode cX7_ask 31 = .ok (.iload_n 1, 1) := by decide +kernel
theorem dX7_ask_32 : decode cX7_ask 32 = .ok (.invokevirtual 129, 3) := by decide +kernel
theorem dX7_ask_35 : decode cX7_ask 35 = .ok (.iload_n 2, 1) := by decide +kernel
theorem dX7_ask_36 : decode cX7_ask 36 = .ok (.iload_n 3, 1) := by decide +kernel
theorem dX7_ask_37 : decode cX7_ask 37 = .ok (.iload 4, 2) := by decide +kernel
theorem dX7_ask_39 : decode cX7_ask 39 = .ok (.invokevirtual 144, 3) := by decide +kernel
theorem dX7_ask_42 : decode cX7_ask 42 = .ok (.ireturn, 1) := by decide +kernel
set_option maxRecDepth 20000 in
theorem ggX7_say_X4_has : GoodIn wsX7_say wsX4_has := goodIn_r _ [8, 9, 22, 23] (by decide +kernel) (by decide +kernel)
set_option maxRecDepth 20000 in
theorem gX7_say_X4_has : GoodIn wsX7_say (wsV RX7 113 RX4 yX4_has wsX4_has) := goodIn_app (goodIn_of _ (by decide +kernel)) ggX7_say_X4_has
theorem dX7_say_0 : decode cX7_say 0 = .ok (.aload_n 0, 1) := by decide +kernel
theorem dX7_say_1 : decode cX7_say 1 = .ok (.getfield 10, 3) := by decide +kernel
theorem dX7_say_4 : decode cX7_say 4 = .ok (.iload_n 1, 1) := by decide +kernel
theorem dX7_say_5 : decode cX7_say 5 = .ok (.invokevirtual 113, 3) := by decide +kernel
theorem dX7_say_8 : decode cX7_say 8 = .ok (.ifCond .ne 5, 3) := by decide +kernel
theorem dX7_say_11 : decode cX7_say 11 = .ok (.iconst (-1), 1) := by decide +kernel
theorem dX7_say_12 : decode cX7_say 12 = .ok (.ireturn, 1) := by decide +kernel
theorem dX7_say_13 : decode cX7_say 13 = .ok (.aload_n 0, 1) := by decide +kernel
theorem dX7_say_14 : decode cX7_say 14 = .ok (.getfield 69, 3) := by decide +kernel
theorem dX7_say_17 : decode cX7_say 17 = .ok (.aload_n 0, 1) := by decide +kernel
theorem dX7_say_18 : decode cX7_say 18 = .ok (.getfield 37, 3) := by decide +kernel
theorem dX7_say_21 : decode cX7_say 21 = .ok (.arraylength, 1) := by decide +kernel
theorem dX7_say_22 : decode cX7_say 22 = .ok (.if_icmp .lt 6, 3) := by decide +kernel
theorem dX7_say_25 : decode cX7_say 25 = .ok (.bipush (-3), 2) := by decide +kernel
theorem dX7_say_27 : decode cX7_say 27 = .ok (.ireturn, 1) := by decide +kernel
theorem dX7_say_28 : decode cX7_say 28 = .ok (.aload_n 0, 1) := by decide +kernel
theorem dX7_say_29 : decode cX7_say 29 = .ok (.getfield 37, 3) := by decide +kernel
theorem dX7_say_32 : decode cX7_say 32 = .ok (.aload_n 0, 1) := by decide +kernel
theorem dX7_say_33 : decode cX7_say 33 = .ok (.getfield 69, 3) := by decide +kernel
theorem dX7_say_36 : decode cX7_say 36 = .ok (.iload_n 1, 1) := by decide +kernel
theorem dX7_say_37 : decode cX7_say 37 = .ok (.iastore, 1) := by decide +kernel
theorem dX7_say_38 : decode cX7_say 38 = .ok (.aload_n 0, 1) := by decide +kernel
theorem dX7_say_39 : decode cX7_say 39 = .ok (.dup, 1) := by decide +kernel
theorem dX7_say_40 : decode cX7_say 40 = .ok (.getfield 69, 3) := by decide +kernel
theorem dX7_say_43 : decode cX7_say 43 = .ok (.iconst 1, 1) := by decide +kernel
theorem dX7_say_44 : decode cX7_say 44 = .ok (.iadd, 1) := by decide +kernel
theorem dX7_say_45 : decode cX7_say 45 = .ok (.putfield 69, 3) := by decide +kernel
theorem dX7_say_48 : decode cX7_say 48 = .ok (.aload_n 0, 1) := by decide +kernel
theorem dX7_say_49 : decode cX7_say 49 = .ok (.getfield 69, 3) := by decide +kernel
theorem dX7_say_52 : decode cX7_say 52 = .ok (.ireturn, 1) := by decide +kernel
set_option maxRecDepth 20000 in
theorem ggX7_change_X4_has : GoodIn wsX7_change wsX4_has := goodIn_r _ [8, 9, 22, 23] (by decide +kernel) (by decide +kernel)
set_option maxRecDepth 20000 in
theorem gX7_change_X4_has : GoodIn wsX7_change (wsV RX7 113 RX4 yX4_has wsX4_has) := goodIn_app (goodIn_of _ (by decide +kernel)) ggX7_change_X4_has
theorem dX7_change_0 : decode cX7_change 0 = .ok (.iload_n 1, 1) := by decide +kernel
theorem dX7_change_1 : decode cX7_change 1 = .ok (.ifCond .lt 31, 3) := by decide +kernel
theorem dX7_change_4 : decode cX7_change 4 = .ok (.iload_n 1, 1) := by decide +kernel
theorem dX7_change_5 : decode cX7_change 5 = .ok (.aload_n 0, 1) := by decide +kernel
theorem dX7_change_6 : decode cX7_change 6 = .ok (.getfield 69, 3) := by decide +kernel
theorem dX7_change_9 : decode cX7_change 9 = .ok (.if_icmp .ge 23, 3) := by decide +kernel
theorem dX7_change_12 : decode cX7_change 12 = .ok (.iload_n 1, 1) := by decide +kernel
theorem dX7_change_13 : decode cX7_change 13 = .ok (.aload_n 0, 1) := by decide +kernel
theorem dX7_change_14 : decode cX7_change 14 = .ok (.getfield 37, 3) := by decide +kernel
theorem dX7_change_17 : decode cX7_change 17 = .ok (.arraylength, 1) := by decide +kernel
theorem dX7_change_18 : decode cX7_change 18 = .ok (.if_icmp .ge 14, 3) := by decide +kernel
theorem dX7_change_21 : decode cX7_change 21 = .ok (.aload_n 0, 1) := by decide +kernel
theorem dX7_change_22 : decode cX7_change 22 = .ok (.getfield 10, 3) := by decide +kernel
theorem dX7_change_25 : decode cX7_change 25 = .ok (.iload_n 2, 1) := by decide +kernel
theorem dX7_change_26 : decode cX7_change 26 = .ok (.invokevirtual 113, 3) := by decide +kernel
theorem dX7_change_29 : decode cX7_change 29 = .ok (.ifCond .ne 5, 3) := by decide +kernel
theorem dX7_change_32 : decode cX7_change 32 = .ok (.iconst (-1), 1) := by decide +kernel
theorem dX7_change_33 : decode cX7_change 33 = .ok (.ireturn, 1) := by decide +kernel
theorem dX7_change_34 : decode cX7_change 34 = .ok (.aload_n 0, 1) := by decide +kernel
theorem dX7_change_35 : decode cX7_change 35 = .ok (.getfield 37, 3) := by decide +kernel
theorem dX7_change_38 : decode cX7_change 38 = .ok (.iload_n 1, 1) := by decide +kernel
theorem dX7_change_39 : decode cX7_change 39 = .ok (.iaload, 1) := by decide +kernel
theorem dX7_change_40 : decode cX7_change 40 = .ok (.istore_n 3, 1) := by decide +kernel
theorem dX7_change_41 : decode cX7_change 41 = .ok (.aload_n 0, 1) := by decide +kernel
theorem dX7_change_42 : decode cX7_change 42 = .ok (.getfield 37, 3) := by decide +kernel
theorem dX7_change_45 : decode cX7_change 45 = .ok (.iload_n 1, 1) := by decide +kernel
theorem dX7_change_46 : decode cX7_change 46 = .ok (.iload_n 2, 1) := by decide +kernel
theorem dX7_change_47 : decode cX7_change 47 = .ok (.iastore, 1) := by decide +kernel
theorem dX7_change_48 : decode cX7_change 48 = .ok (.iload_n 3, 1) := by decide +kernel
theorem dX7_change_49 : decode cX7_change 49 = .ok (.ireturn, 1) := by decide +kernel
theorem dX7_clear_0 : decode cX7_clear 0 = .ok (.aload_n 0, 1) := by decide +kernel
theorem dX7_clear_1 : decode cX7_clear 1 = .ok (.getfield 69, 3) := by decide +kernel
theorem dX7_clear_4 : decode cX7_clear 4 = .ok (.istore_n 1, 1) := by decide +kernel
theorem dX7_clear_5 : decode cX7_clear 5 = .ok (.aload_n 0, 1) := by decide +kernel
theorem dX7_clear_6 : decode cX7_clear 6 = .ok (.iconst 0, 1) := by decide +kernel
theorem dX7_clear_7 : decode cX7_clear 7 = .ok (.putfield 69, 3) := by decide +kernel
theorem dX7_clear_10 : decode cX7_clear 10 = .ok (.iload_n 1, 1) := by decide +kernel
theorem dX7_clear_11 : decode cX7_clear 11 = .ok (.ireturn, 1) := by decide +kernel
set_option maxRecDepth 20000 in
theorem ggX7_register_X6_read : GoodIn wsX7_register wsX6_read := goodIn_r _ [8, 9, 10, 11, 7, 12, 13, 14, 15, 16, 17, 18, 19, 20, 21, 22, 23, 24, 25, 26, 27, 28, 29, 30, 31, 32, 33, 34, 35, 36, 37, 38, 39, 40, 41, 42, 43, 64, 65, 66, 67, 68, 69, 70, 71, 72, 73] (by decide +kernel) (by decide +kernel)
set_option maxRecDepth 20000 in
theorem gX7_register_X6_read : GoodIn wsX7_register (wsV RX7 147 RX6 yX6_read wsX6_read) := goodIn_app (goodIn_of _ (by decide +kernel)) ggX7_register_X6_read
set_option maxRecDepth 20000 in
theorem ggX7_register_X6_weight : GoodIn wsX7_register wsX6_weight := goodIn_r _ [47, 13, 23, 48, 49, 50, 36, 51, 38, 64, 65, 66, 67, 68, 69, 70, 71, 72, 73] (by decide +kernel) (by decide +kernel)
set_option maxRecDepth 20000 in
theorem gX7_register_X6_weight : GoodIn wsX7_register (wsV RX7 154 RX6 yX6_weight wsX6_weight) := goodIn_app (goodIn_of _ (by decide +kernel)) ggX7_register_X6_weight
theorem dX7_register_0 : decode cX7_register 0 = .ok (.aload_n 0, 1) := by decide +kernel
theorem dX7_register_1 : decode cX7_register 1 = .ok (.getfield 44, 3) := by decide +kernel
theorem dX7_register_4 : decode cX7_register 4 = .ok (.aload_n 0, 1) := by decide +kernel
theorem dX7_register_5 : decode cX7_register 5 = .ok (.getfield 37, 3) := by decide +kernel
theorem dX7_register_8 : decode cX7_register 8 = .ok (.aload_n 0, 1) := by decide +kernel
theorem dX7_register_9 : decode cX7_register 9 = .ok (.getfield 69, 3) := by decide +kernel
theorem dX7_register_12 : decode cX7_register 12 = .ok (.invokevirtual 147, 3) := by decide +kernel
theorem dX7_register_15 : decode cX7_register 15 = .ok (.iload_n 1, 1) := by decide +kernel
theorem dX7_register_16 : decode cX7_register 16 = .ok (.ifCond .lt 14, 3) := by decide +kernel
theorem dX7_register_19 : decode cX7_register 19 = .ok (.iload_n 1, 1) := by decide +kernel
theorem dX7_register_20 : decode cX7_register 20 = .ok (.aload_n 0, 1) := by decide +kernel
theorem dX7_register_21 : decode cX7_register 21 = .ok (.getfield 44, 3) := by decide +kernel
theorem dX7_register_24 : decode cX7_register 24 = .ok (.getfield 151, 3) := by decide +kernel
theorem dX7_register_27 : decode cX7_register 27 = .ok (.if_icmp .le 5, 3) := by decide +kernel
theorem dX7_register_30 : decode cX7_register 30 = .ok (.iconst (-1), 1) := by decide +kernel
theorem dX7_register_31 : decode cX7_register 31 = .ok (.ireturn, 1) := by decide +kernel
theorem dX7_register_32 : decode cX7_register 32 = .ok (.iload_n 1, 1) := by decide +kernel
theorem dX7_register_33 : decode cX7_register 33 = .ok (.ifCond .ne 13, 3) := by decide +kernel
theorem dX7_register_36 : decode cX7_register 36 = .ok (.aload_n 0, 1) := by decide +kernel
theorem dX7_register_37 : decode cX7_register 37 = .ok (.getfield 44, 3) := by decide +kernel
theorem dX7_register_40 : decode cX7_register 40 = .ok (.getfield 151, 3) := by decide +kernel
theorem dX7_register_43 : decode cX7_register 43 = .ok (.goto 11, 3) := by decide +kernel
theorem dX7_register_46 : decode cX7_register 46 = .ok (.aload_n 0, 1) := by decide +kernel
theorem dX7_register_47 : decode cX7_register 47 = .ok (.getfield 44, 3) := by decide +kernel
theorem dX7_register_50 : decode cX7_register 50 = .ok (.iload_n 1, 1) := by decide +kernel
theorem dX7_register_51 : decode cX7_register 51 = .ok (.invokevirtual 154, 3) := by decide +kernel
theorem dX7_register_54 : decode cX7_register 54 = .ok (.ireturn, 1) := by decide +kernel
set_option maxRecDepth 20000 in
theorem ggX7_far_X6_read : GoodIn wsX7_far wsX6_read := goodIn_r _ [10, 11, 12, 13, 9, 14, 15, 16, 17, 18, 19, 20, 21, 22, 23, 24, 25, 26, 27, 28, 29, 30, 31, 32, 33, 34, 35, 36, 37, 38, 39, 40, 41, 42, 43, 44, 45, 92, 93, 94, 95, 96, 97, 98, 99, 100, 101] (by decide +kernel) (by decide +kernel)
set_option maxRecDepth 20000 in
theorem gX7_far_X6_read : GoodIn wsX7_far (wsV RX7 147 RX6 yX6_read wsX6_read) := goodIn_app (goodIn_of _ (by decide +kernel)) ggX7_far_X6_read
set_option maxRecDepth 20000 in
theorem ggX7_far_X3_numberAt : GoodIn wsX7_far wsX3_numberAt := goodIn_r _ [50, 51, 52, 53, 54, 55, 56, 49, 57, 58, 59, 60, 61, 9, 62, 15, 25, 63, 64, 65, 38, 66, 40, 67, 68, 69, 70, 71, 72, 73, 74, 75, 76, 77, 78, 79, 92, 93, 94, 95, 96, 97, 98, 99, 102, 103, 104, 105, 106, 100, 101] (by decide +kernel) (by decide +kernel)
set_option maxRecDepth 20000 in
theorem gX7_far_X3_numberAt : GoodIn wsX7_far (wsV RX7 158 RX3 yX3_numberAt wsX3_numberAt) := goodIn_app (goodIn_of _ (by decide +kernel)) ggX7_far_X3_numberAt
theorem dX7_far_0 : decode cX7_far 0 = .ok (.iload_n 1, 1) := by decide +kernel
theorem dX7_far_1 : decode cX7_far 1 = .ok (.ifCond .lt 9, 3) := by decide +kernel
theorem dX7_far_4 : decode cX7_far 4 = .ok (.iload_n 1, 1) := by decide +kernel
theorem dX7_far_5 : decode cX7_far 5 = .ok (.ldc 157, 2) := by decide +kernel
theorem dX7_far_7 : decode cX7_far 7 = .ok (.if_icmp .le 5, 3) := by decide +kernel
theorem dX7_far_10 : decode cX7_far 10 = .ok (.iconst (-1), 1) := by decide +kernel
theorem dX7_far_11 : decode cX7_far 11 = .ok (.ireturn, 1) := by decide +kernel
theorem dX7_far_12 : decode cX7_far 12 = .ok (.iload_n 1, 1) := by decide +kernel
theorem dX7_far_13 : decode cX7_far 13 = .ok (.aload_n 0, 1) := by decide +kernel
theorem dX7_far_14 : decode cX7_far 14 = .ok (.getfield 69, 3) := by decide +kernel
theorem dX7_far_17 : decode cX7_far 17 = .ok (.if_icmp .ge 19, 3) := by decide +kernel
theorem dX7_far_20 : decode cX7_far 20 = .ok (.iload_n 1, 1) := by decide +kernel
theorem dX7_far_21 : decode cX7_far 21 = .ok (.aload_n 0, 1) := by decide +kernel
theorem dX7_far_22 : decode cX7_far 22 = .ok (.getfield 37, 3) := by decide +kernel
theorem dX7_far_25 : decode cX7_far 25 = .ok (.arraylength, 1) := by decide +kernel
theorem dX7_far_26 : decode cX7_far 26 = .ok (.if_icmp .ge 10, 3) := by decide +kernel
theorem dX7_far_29 : decode cX7_far 29 = .ok (.aload_n 0, 1) := by decide +kernel
theorem dX7_far_30 : decode cX7_far 30 = .ok (.getfield 37, 3) := by decide +kernel
theorem dX7_far_33 : decode cX7_far 33 = .ok (.iload_n 1, 1) := by decide +kernel
theorem dX7_far_34 : decode cX7_far 34 = .ok (.iaload, 1) := by decide +kernel
theorem dX7_far_35 : decode cX7_far 35 = .ok (.ireturn, 1) := by decide +kernel
theorem dX7_far_36 : decode cX7_far 36 = .ok (.aload_n 0, 1) := by decide +kernel
theorem dX7_far_37 : decode cX7_far 37 = .ok (.getfield 44, 3) := by decide +kernel
theorem dX7_far_40 : decode cX7_far 40 = .ok (.aload_n 0, 1) := by decide +kernel
theorem dX7_far_41 : decode cX7_far 41 = .ok (.getfield 37, 3) := by decide +kernel
theorem dX7_far_44 : decode cX7_far 44 = .ok (.aload_n 0, 1) := by decide +kernel
theorem dX7_far_45 : decode cX7_far 45 = .ok (.getfield 69, 3) := by decide +kernel
theorem dX7_far_48 : decode cX7_far 48 = .ok (.invokevirtual 147, 3) := by decide +kernel
theorem dX7_far_51 : decode cX7_far 51 = .ok (.aload_n 0, 1) := by decide +kernel
theorem dX7_far_52 : decode cX7_far 52 = .ok (.getfield 51, 3) := by decide +kernel
theorem dX7_far_55 : decode cX7_far 55 = .ok (.iload_n 1, 1) := by decide +kernel
theorem dX7_far_56 : decode cX7_far 56 = .ok (.aload_n 0, 1) := by decide +kernel
theorem dX7_far_57 : decode cX7_far 57 = .ok (.getfield 44, 3) := by decide +kernel
theorem dX7_far_60 : decode cX7_far 60 = .ok (.aload_n 0, 1) := by decide +kernel
theorem dX7_far_61 : decode cX7_far 61 = .ok (.getfield 37, 3) := by decide +kernel
theorem dX7_far_64 : decode cX7_far 64 = .ok (.invokevirtual 158, 3) := by decide +kernel
theorem dX7_far_67 : decode cX7_far 67 = .ok (.ireturn, 1) := by decide +kernel
set_option maxRecDepth 20000 in
theorem ggX7_lie_X6_read : GoodIn wsX7_lie wsX6_read := goodIn_r _ [10, 11, 12, 13, 9, 14, 15, 16, 17, 18, 19, 20, 21, 22, 23, 24, 25, 26, 27, 28, 29, 30, 31, 32, 33, 34, 35, 36, 37, 38, 39, 40, 41, 42, 43, 44, 45, 85, 86, 87, 88, 89, 90, 91, 92, 93, 94] (by decide +kernel) (by decide +kernel)
set_option maxRecDepth 20000 in
theorem gX7_lie_X6_read : GoodIn wsX7_lie (wsV RX7 147 RX6 yX6_read wsX6_read) := goodIn_app (goodIn_of _ (by decide +kernel)) ggX7_lie_X6_read
set_option maxRecDepth 20000 in
theorem ggX7_lie_X2_leastMending : GoodIn wsX7_lie wsX2_leastMending := goodIn_r _ [50, 51, 52, 53, 54, 55, 56, 57, 12, 13, 9, 14, 15, 16, 17, 18, 19, 20, 58, 59, 60, 49, 61, 62, 63, 64, 65, 66, 67, 68, 69, 70, 71, 27, 28, 29, 30, 72, 22, 23, 24, 25, 26, 31, 32, 33, 34, 35, 36, 37, 38, 39, 40, 41, 42, 43, 44, 45, 95, 96, 97, 98, 85, 86, 87, 88, 89, 90, 91, 92, 93, 94] (by decide +kernel) (by decide +kernel)
set_option maxRecDepth 20000 in
theorem gX7_lie_X2_leastMending : GoodIn wsX7_lie (wsV RX7 163 RX2 yX2_leastMending wsX2_leastMending) := goodIn_app (goodIn_of _ (by decide +kernel)) ggX7_lie_X2_leastMending
theorem dX7_lie_0 : decode cX7_lie 0 = .ok (.iload_n 1, 1) := by decide +kernel
theorem dX7_lie_1 : decode cX7_lie 1 = .ok (.ifCond .lt 9, 3) := by decide +kernel
theorem dX7_lie_4 : decode cX7_lie 4 = .ok (.iload_n 1, 1) := by decide +kernel
theorem dX7_lie_5 : decode cX7_lie 5 = .ok (.bipush 7, 2) := by decide +kernel
theorem dX7_lie_7 : decode cX7_lie 7 = .ok (.if_icmp .le 5, 3) := by decide +kernel
theorem dX7_lie_10 : decode cX7_lie 10 = .ok (.iconst (-1), 1) := by decide +kernel
theorem dX7_lie_11 : decode cX7_lie 11 = .ok (.ireturn, 1) := by decide +kernel
theorem dX7_lie_12 : decode cX7_lie 12 = .ok (.aload_n 0, 1) := by decide +kernel
theorem dX7_lie_13 : decode cX7_lie 13 = .ok (.getfield 44, 3) := by decide +kernel
theorem dX7_lie_16 : decode cX7_lie 16 = .ok (.aload_n 0, 1) := by decide +kernel
theorem dX7_lie_17 : decode cX7_lie 17 = .ok (.getfield 37, 3) := by decide +kernel
theorem dX7_lie_20 : decode cX7_lie 20 = .ok (.aload_n 0, 1) := by decide +kernel
theorem dX7_lie_21 : decode cX7_lie 21 = .ok (.getfield 69, 3) := by decide +kernel
theorem dX7_lie_24 : decode cX7_lie 24 = .ok (.invokevirtual 147, 3) := by decide +kernel
theorem dX7_lie_27 : decode cX7_lie 27 = .ok (.aload_n 0, 1) := by decide +kernel
theorem dX7_lie_28 : decode cX7_lie 28 = .ok (.getfield 44, 3) := by decide +kernel
theorem dX7_lie_31 : decode cX7_lie 31 = .ok (.getfield 151, 3) := by decide +kernel
theorem dX7_lie_34 : decode cX7_lie 34 = .ok (.iload_n 1, 1) := by decide +kernel
theorem dX7_lie_35 : decode cX7_lie 35 = .ok (.if_icmp .gt 8, 3) := by decide +kernel
theorem dX7_lie_38 : decode cX7_lie 38 = .ok (.ldc 162, 2) := by decide +kernel
theorem dX7_lie_40 : decode cX7_lie 40 = .ok (.goto 19, 3) := by decide +kernel
theorem dX7_lie_43 : decode cX7_lie 43 = .ok (.aload_n 0, 1) := by decide +kernel
theorem dX7_lie_44 : decode cX7_lie 44 = .ok (.getfield 58, 3) := by decide +kernel
theorem dX7_lie_47 : decode cX7_lie 47 = .ok (.aload_n 0, 1) := by decide +kernel
theorem dX7_lie_48 : decode cX7_lie 48 = .ok (.getfield 37, 3) := by decide +kernel
theorem dX7_lie_51 : decode cX7_lie 51 = .ok (.aload_n 0, 1) := by decide +kernel
theorem dX7_lie_52 : decode cX7_lie 52 = .ok (.getfield 69, 3) := by decide +kernel
theorem dX7_lie_55 : decode cX7_lie 55 = .ok (.iload_n 1, 1) := by decide +kernel
theorem dX7_lie_56 : decode cX7_lie 56 = .ok (.invokevirtual 163, 3) := by decide +kernel
theorem dX7_lie_59 : decode cX7_lie 59 = .ok (.ireturn, 1) := by decide +kernel
set_option maxRecDepth 20000 in
theorem ggX7_got_X7_isBox : GoodIn wsX7_got wsX7_isBox := goodIn_r _ [6] (by decide +kernel) (by decide +kernel)
set_option maxRecDepth 20000 in
theorem gX7_got_X7_isBox : GoodIn wsX7_got (va_wsS RX7 126 yX7_isBox wsX7_isBox) := goodIn_app (goodIn_of _ (by decide +kernel)) ggX7_got_X7_isBox
set_option maxRecDepth 20000 in
theorem ggX7_got_X7_boxOf : GoodIn wsX7_got wsX7_boxOf := goodIn_r _ [10, 11, 12, 164, 165, 166, 167, 168, 169, 170, 171, 172, 173, 174, 175] (by decide +kernel) (by decide +kernel)
set_option maxRecDepth 20000 in
theorem gX7_got_X7_boxOf : GoodIn wsX7_got (wsV RX7 129 RX7 yX7_boxOf wsX7_boxOf) := goodIn_app (goodIn_of _ (by decide +kernel)) ggX7_got_X7_boxOf
set_option maxRecDepth 20000 in
theorem ggX7_got_X5_recover : GoodIn wsX7_got wsX5_recover := goodIn_r _ [17, 18, 19, 20, 21, 22, 23, 24, 25, 26, 27, 28, 29, 30, 31, 16, 32, 33, 34, 35, 36, 37, 38, 39, 40, 41, 42, 43, 44, 45, 46, 47, 48, 49, 50, 51, 52, 53, 54, 55, 56, 57, 58, 59, 60, 61, 62, 63, 64, 65, 66, 67, 68, 69, 70, 71, 72, 73, 74, 75, 76, 77, 78, 79, 80, 81, 82, 83, 84, 85, 86, 87, 88, 89, 90, 91, 92, 93, 94, 95, 96, 97, 98, 99, 100, 101, 102, 103, 104, 105, 106, 107, 108, 109, 110, 111, 112, 113, 114, 115, 116, 117, 118, 119, 120, 121, 122, 123, 124, 125, 126, 127, 128, 129, 130, 131, 132, 133, 134, 135, 136, 137, 138, 139, 140, 141, 142, 143, 144, 145, 146, 147, 148, 149, 150, 151, 152, 153, 154, 155, 156, 157, 158, 159, 160, 161, 162, 176, 177, 178, 179, 180, 181, 182, 183, 191, 192, 193, 194, 195, 196, 197, 198, 184, 185, 186, 187, 188, 189, 190, 199, 200, 201, 202, 203] (by decide +kernel) (by decide +kernel)
set_option maxRecDepth 20000 in
theorem gX7_got_X5_recover : GoodIn wsX7_got (wsV RX7 167 RX5 yX5_recover wsX5_recover) := goodIn_app (goodIn_of _ (by decide +kernel)) ggX7_got_X5_recover
set_option maxRecDepth 20000 in
theorem ggX7_got_X1_part : GoodIn wsX7_got wsX1_part := goodIn_r _ [48, 49, 184, 185, 186, 187, 188, 189, 190] (by decide +kernel) (by decide +kernel)
set_option maxRecDepth 20000 in
theorem gX7_got_X1_part : GoodIn wsX7_got (wsV RX7 174 RX1 yX1_part wsX1_part) := goodIn_app (goodIn_of _ (by decide +kernel)) ggX7_got_X1_part
theorem dX7_got_0 : decode cX7_got 0 = .ok (.iload_n 1, 1) := by decide +kernel
theorem dX7_got_1 : decode cX7_got 1 = .ok (.invokestatic 126, 3) := by decide +kernel
theorem dX7_got_4 : decode cX7_got 4 = .ok (.ifCond .eq 12, 3) := by decide +kernel
theorem dX7_got_7 : decode cX7_got 7 = .ok (.iload_n 2, 1) := by decide +kernel
theorem dX7_got_8 : decode cX7_got 8 = .ok (.ifCond .lt 8, 3) := by decide +kernel
theorem dX7_got_11 : decode cX7_got 11 = .ok (.iload_n 2, 1) := by decide +kernel
theorem dX7_got_12 : decode cX7_got 12 = .ok (.iconst 4, 1) := by decide +kernel
theorem dX7_got_13 : decode cX7_got 13 = .ok (.if_icmp .le 5, 3) := by decide +kernel
theorem dX7_got_16 : decode cX7_got 16 = .ok (.iconst (-1), 1) := by decide +kernel
theorem dX7_got_17 : decode cX7_got 17 = .ok (.ireturn, 1) := by decide +kernel
theorem dX7_got_18 : decode cX7_got 18 = .ok (.aload_n 0, 1) := by decide +kernel
theorem dX7_got_19 : decode cX7_got 19 = .ok (.dup, 1) := by decide +kernel
theorem dX7_got_20 : decode cX7_got 20 = .ok (.getfield 73, 3) := by decide +kernel
theorem dX7_got_23 : decode cX7_got 23 = .ok (.bipush 9, 2) := by decide +kernel
theorem dX7_got_25 : decode cX7_got 25 = .ok (.iadd, 1) := by decide +kernel
theorem dX7_got_26 : decode cX7_got 26 = .ok (.putfield 73, 3) := by decide +kernel
theorem dX7_got_29 : decode cX7_got 29 = .ok (.aload_n 0, 1) := by decide +kernel
theorem dX7_got_30 : decode cX7_got 30 = .ok (.getfield 65, 3) := by decide +kernel
theorem dX7_got_33 : decode cX7_got 33 = .ok (.aload_n 0, 1) := by decide +kernel
theorem dX7_got_34 : decode cX7_got 34 = .ok (.iload_n 1, 1) := by decide +kernel
theorem dX7_got_35 : decode cX7_got 35 = .ok (.invokevirtual 129, 3) := by decide +kernel
theorem dX7_got_38 : decode cX7_got 38 = .ok (.invokevirtual 167, 3) := by decide +kernel
theorem dX7_got_41 : decode cX7_got 41 = .ok (.ifCond .ne 6, 3) := by decide +kernel
theorem dX7_got_44 : decode cX7_got 44 = .ok (.bipush (-2), 2) := by decide +kernel
theorem dX7_got_46 : decode cX7_got 46 = .ok (.ireturn, 1) := by decide +kernel
theorem dX7_got_47 : decode cX7_got 47 = .ok (.aload_n 0, 1) := by decide +kernel
theorem dX7_got_48 : decode cX7_got 48 = .ok (.getfield 65, 3) := by decide +kernel
theorem dX7_got_51 : decode cX7_got 51 = .ok (.getfield 171, 3) := by decide +kernel
theorem dX7_got_54 : decode cX7_got 54 = .ok (.astore 4, 2) := by decide +kernel
theorem dX7_got_56 : decode cX7_got 56 = .ok (.iload_n 2, 1) := by decide +kernel
theorem dX7_got_57 : decode cX7_got 57 = .ok (.ifCond .ne 9, 3) := by decide +kernel
theorem dX7_got_60 : decode cX7_got 60 = .ok (.aload 4, 2) := by decide +kernel
theorem dX7_got_62 : decode cX7_got 62 = .ok (.getfield 133, 3) := by decide +kernel
theorem dX7_got_65 : decode cX7_got 65 = .ok (.ireturn, 1) := by decide +kernel
theorem dX7_got_66 : decode cX7_got 66 = .ok (.iload_n 3, 1) := by decide +kernel
theorem dX7_got_67 : decode cX7_got 67 = .ok (.ifCond .lt 12, 3) := by decide +kernel
theorem dX7_got_70 : decode cX7_got 70 = .ok (.iload_n 3, 1) := by decide +kernel
theorem dX7_got_71 : decode cX7_got 71 = .ok (.aload 4, 2) := by decide +kernel
theorem dX7_got_73 : decode cX7_got 73 = .ok (.getfield 133, 3) := by decide +kernel
theorem dX7_got_76 : decode cX7_got 76 = .ok (.if_icmp .lt 7, 3) := by decide +kernel
theorem dX7_got_79 : decode cX7_got 79 = .ok (.iconst (-1), 1) := by decide +kernel
theorem dX7_got_80 : decode cX7_got 80 = .ok (.goto 12, 3) := by decide +kernel
theorem dX7_got_83 : decode cX7_got 83 = .ok (.aload 4, 2) := by decide +kernel
theorem dX7_got_85 : decode cX7_got 85 = .ok (.iload_n 3, 1) := by decide +kernel
theorem dX7_got_86 : decode cX7_got 86 = .ok (.iload_n 2, 1) := by decide +kernel
theorem dX7_got_87 : decode cX7_got 87 = .ok (.iconst 1, 1) := by decide +kernel
theorem dX7_got_88 : decode cX7_got 88 = .ok (.isub, 1) := by decide +kernel
theorem dX7_got_89 : decode cX7_got 89 = .ok (.invokevirtual 174, 3) := by decide +kernel
theorem dX7_got_92 : decode cX7_got 92 = .ok (.ireturn, 1) := by decide +kernel
set_option maxRecDepth 20000 in
theorem ggX7_right_X7_isBox : GoodIn wsX7_right wsX7_isBox := goodIn_r _ [6] (by decide +kernel) (by decide +kernel)
set_option maxRecDepth 20000 in
theorem gX7_right_X7_isBox : GoodIn wsX7_right (va_wsS RX7 126 yX7_isBox wsX7_isBox) := goodIn_app (goodIn_of _ (by decide +kernel)) ggX7_right_X7_isBox
set_option maxRecDepth 20000 in
theorem ggX7_right_X7_arePoint : GoodIn wsX7_right wsX7_arePoint := goodIn_r _ [10, 11, 12, 13, 14, 15, 16, 17, 173, 174, 175, 176, 177, 178, 179, 180, 181, 182, 183, 184, 193, 194] (by decide +kernel) (by decide +kernel)
set_option maxRecDepth 20000 in
theorem gX7_right_X7_arePoint : GoodIn wsX7_right (wsV RX7 140 RX7 yX7_arePoint wsX7_arePoint) := goodIn_app (goodIn_of _ (by decide +kernel)) ggX7_right_X7_arePoint
set_option maxRecDepth 20000 in
theorem ggX7_right_X7_boxOf : GoodIn wsX7_right wsX7_boxOf := goodIn_r _ [21, 22, 23, 173, 174, 175, 176, 177, 178, 179, 180, 181, 182, 183, 184] (by decide +kernel) (by decide +kernel)
set_option maxRecDepth 20000 in
theorem gX7_right_X7_boxOf : GoodIn wsX7_right (wsV RX7 129 RX7 yX7_boxOf wsX7_boxOf) := goodIn_app (goodIn_of _ (by decide +kernel)) ggX7_right_X7_boxOf
set_option maxRecDepth 20000 in
theorem ggX7_right_X5_recover : GoodIn wsX7_right wsX5_recover := goodIn_r _ [28, 29, 30, 31, 32, 33, 34, 35, 36, 37, 38, 39, 40, 41, 42, 27, 43, 44, 45, 46, 47, 48, 49, 50, 51, 52, 53, 54, 55, 56, 57, 58, 59, 60, 61, 62, 63, 64, 65, 66, 67, 68, 69, 70, 71, 15, 72, 17, 73, 74, 75, 76, 77, 78, 79, 80, 81, 82, 83, 84, 85, 86, 87, 88, 89, 90, 91, 92, 93, 94, 95, 96, 97, 98, 99, 100, 101, 102, 103, 104, 105, 106, 107, 108, 109, 110, 111, 112, 113, 114, 115, 116, 117, 118, 119, 120, 121, 122, 123, 124, 125, 126, 127, 128, 129, 130, 131, 132, 133, 134, 135, 136, 137, 138, 139, 140, 141, 142, 143, 144, 145, 146, 147, 148, 149, 150, 151, 152, 153, 154, 155, 156, 157, 158, 159, 160, 161, 162, 163, 164, 165, 166, 167, 168, 169, 170, 171, 185, 186, 187, 188, 189, 190, 191, 192, 195, 196, 197, 198, 199, 200, 201, 202, 203, 204, 205, 206, 207, 208, 209, 193, 194, 210, 211, 212] (by decide +kernel) (by decide +kernel)
set_option maxRecDepth 20000 in
theorem gX7_right_X5_recover : GoodIn wsX7_right (wsV RX7 167 RX5 yX5_recover wsX5_recover) := goodIn_app (goodIn_of _ (by decide +kernel)) ggX7_right_X5_recover
set_option maxRecDepth 20000 in
theorem ggX7_right_X1_answer : GoodIn wsX7_right wsX1_answer := goodIn_r _ [48, 39, 49, 50, 51, 52, 53, 54, 37, 55, 56, 57, 58, 59, 60, 61, 62, 63, 64, 65, 66, 67, 68, 69, 70, 71, 15, 72, 17, 73, 74, 75, 76, 77, 78, 79, 80, 81, 203, 204, 205, 206, 207, 208, 209, 193, 194, 210, 211, 212] (by decide +kernel) (by decide +kernel)
set_option maxRecDepth 20000 in
theorem gX7_right_X1_answer : GoodIn wsX7_right (wsV RX7 144 RX1 yX1_answer wsX1_answer) := goodIn_app (goodIn_of _ (by decide +kernel)) ggX7_right_X1_answer
theorem dX7_right_0 : decode cX7_right 0 = .ok (.iload_n 1, 1) := by decide +kernel
theorem dX7_right_1 : decode cX7_right 1 = .ok (.invokestatic 126, 3) := by decide +kernel
theorem dX7_right_4 : decode cX7_right 4 = .ok (.ifCond .eq 14, 3) := by decide +kernel
theorem dX7_right_7 : decode cX7_right 7 = .ok (.aload_n 0, 1) := by decide +kernel
theorem dX7_right_8 : decode cX7_right 8 = .ok (.iload_n 2, 1) := by decide +kernel
theorem dX7_right_9 : decode cX7_right 9 = .ok (.iload_n 3, 1) := by decide +kernel
theorem dX7_right_10 : decode cX7_right 10 = .ok (.iload 4, 2) := by decide +kernel
theorem dX7_right_12 : decode cX7_right 12 = .ok (.invokevirtual 140, 3) := by decide +kernel
theorem dX7_right_15 : decode cX7_right 15 = .ok (.ifCond .ne 5, 3) := by decide +kernel
theorem dX7_right_18 : decode cX7_right 18 = .ok (.iconst (-1), 1) := by decide +kernel
theorem dX7_right_19 : decode cX7_right 19 = .ok (.ireturn, 1) := by decide +kernel
theorem dX7_right_20 : decode cX7_right 20 = .ok (.aload_n 0, 1) := by decide +kernel
theorem dX7_right_21 : decode cX7_right 21 = .ok (.dup, 1) := by decide +kernel
theorem dX7_right_22 : decode cX7_right 22 = .ok (.getfield 73, 3) := by decide +kernel
theorem dX7_right_25 : decode cX7_right 25 = .ok (.bipush 10, 2) := by decide +kernel
theorem dX7_right_27 : decode cX7_right 27 = .ok (.iadd, 1) := by decide +kernel
theorem dX7_right_28 : decode cX7_right 28 = .ok (.putfield 73, 3) := by decide +kernel
theorem dX7_right_31 : decode cX7_right 31 = .ok (.aload_n 0, 1) := by decide +kernel
theorem dX7_right_32 : decode cX7_right 32 = .ok (.iload_n 1, 1) := by decide +kernel
theorem dX7_right_33 : decode cX7_right 33 = .ok (.invokevirtual 129, 3) := by decide +kernel
theorem dX7_right_36 : decode cX7_right 36 = .ok (.astore 5, 2) := by decide +kernel
theorem dX7_right_38 : decode cX7_right 38 = .ok (.aload_n 0, 1) := by decide +kernel
theorem dX7_right_39 : decode cX7_right 39 = .ok (.getfield 65, 3) := by decide +kernel
theorem dX7_right_42 : decode cX7_right 42 = .ok (.aload 5, 2) := by decide +kernel
theorem dX7_right_44 : decode cX7_right 44 = .ok (.invokevirtual 167, 3) := by decide +kernel
theorem dX7_right_47 : decode cX7_right 47 = .ok (.ifCond .ne 6, 3) := by decide +kernel
theorem dX7_right_50 : decode cX7_right 50 = .ok (.bipush (-2), 2) := by decide +kernel
theorem dX7_right_52 : decode cX7_right 52 = .ok (.ireturn, 1) := by decide +kernel
theorem dX7_right_53 : decode cX7_right 53 = .ok (.aload_n 0, 1) := by decide +kernel
theorem dX7_right_54 : decode cX7_right 54 = .ok (.getfield 65, 3) := by decide +kernel
theorem dX7_right_57 : decode cX7_right 57 = .ok (.getfield 171, 3) := by decide +kernel
theorem dX7_right_60 : decode cX7_right 60 = .ok (.iload_n 2, 1) := by decide +kernel
theorem dX7_right_61 : decode cX7_right 61 = .ok (.iload_n 3, 1) := by decide +kernel
theorem dX7_right_62 : decode cX7_right 62 = .ok (.iload 4, 2) := by decide +kernel
theorem dX7_right_64 : decode cX7_right 64 = .ok (.invokevirtual 144, 3) := by decide +kernel
theorem dX7_right_67 : decode cX7_right 67 = .ok (.aload 5, 2) := by decide +kernel
theorem dX7_right_69 : decode cX7_right 69 = .ok (.iload_n 2, 1) := by decide +kernel
theorem dX7_right_70 : decode cX7_right 70 = .ok (.iload_n 3, 1) := by decide +kernel
theorem dX7_right_71 : decode cX7_right 71 = .ok (.iload 4, 2) := by decide +kernel
theorem dX7_right_73 : decode cX7_right 73 = .ok (.invokevirtual 144, 3) := by decide +kernel
theorem dX7_right_76 : decode cX7_right 76 = .ok (.if_icmp .ne 7, 3) := by decide +kernel
theorem dX7_right_79 : decode cX7_right 79 = .ok (.iconst 1, 1) := by decide +kernel
theorem dX7_right_80 : decode cX7_right 80 = .ok (.goto 4, 3) := by decide +kernel
theorem dX7_right_83 : decode cX7_right 83 = .ok (.iconst 0, 1) := by decide +kernel
theorem dX7_right_84 : decode cX7_right 84 = .ok (.ireturn, 1) := by decide +kernel
set_option maxRecDepth 20000 in
theorem ggX7_zeros_X7_isBox : GoodIn wsX7_zeros wsX7_isBox := goodIn_r _ [5] (by decide +kernel) (by decide +kernel)
set_option maxRecDepth 20000 in
theorem gX7_zeros_X7_isBox : GoodIn wsX7_zeros (va_wsS RX7 126 yX7_isBox wsX7_isBox) := goodIn_app (goodIn_of _ (by decide +kernel)) ggX7_zeros_X7_isBox
set_option maxRecDepth 20000 in
theorem ggX7_zeros_X7_boxOf : GoodIn wsX7_zeros wsX7_boxOf := goodIn_r _ [9, 10, 11, 69, 70, 71, 72, 73, 74, 75, 76, 77, 78, 79, 80] (by decide +kernel) (by decide +kernel)
set_option maxRecDepth 20000 in
theorem gX7_zeros_X7_boxOf : GoodIn wsX7_zeros (wsV RX7 129 RX7 yX7_boxOf wsX7_boxOf) := goodIn_app (goodIn_of _ (by decide +kernel)) ggX7_zeros_X7_boxOf
set_option maxRecDepth 20000 in
theorem ggX7_zeros_X1_readyLines : GoodIn wsX7_zeros wsX1_readyLines := goodIn_r _ [16, 17, 18, 19, 20, 21, 22, 23, 24, 25, 26, 27, 28, 29, 30, 31, 32, 33, 34, 35, 36, 37, 38, 39, 40, 41, 42, 83, 84, 85, 86, 87, 88, 89, 81, 82, 90, 91, 92] (by decide +kernel) (by decide +kernel)
set_option maxRecDepth 20000 in
theorem gX7_zeros_X1_readyLines : GoodIn wsX7_zeros (wsV RX7 178 RX1 yX1_readyLines wsX1_readyLines) := goodIn_app (goodIn_of _ (by decide +kernel)) ggX7_zeros_X1_readyLines
set_option maxRecDepth 20000 in
theorem ggX7_zeros_X1_answerLine : GoodIn wsX7_zeros wsX1_answerLine := goodIn_r _ [46, 47, 48, 17, 49, 50, 51, 15, 52, 19, 20, 53, 54, 55, 56, 57, 21, 22, 23, 24, 25, 26, 27, 28, 29, 30, 31, 32, 33, 34, 35, 36, 37, 38, 39, 40, 41, 42, 58, 59, 60, 61, 62, 18, 63, 4, 64, 83, 84, 85, 86, 87, 88, 89, 81, 82, 90, 91, 92] (by decide +kernel) (by decide +kernel)
set_option maxRecDepth 20000 in
theorem gX7_zeros_X1_answerLine : GoodIn wsX7_zeros (wsV RX7 181 RX1 yX1_answerLine wsX1_answerLine) := goodIn_app (goodIn_of _ (by decide +kernel)) ggX7_zeros_X1_answerLine
set_option maxRecDepth 20000 in
theorem ggX7_zeros_X1_zerosInLine : GoodIn wsX7_zeros wsX1_zerosInLine := goodIn_r _ [68, 17, 47, 83, 84, 85, 86, 87, 88, 89, 81, 82] (by decide +kernel) (by decide +kernel)
set_option maxRecDepth 20000 in
theorem gX7_zeros_X1_zerosInLine : GoodIn wsX7_zeros (wsV RX7 185 RX1 yX1_zerosInLine wsX1_zerosInLine) := goodIn_app (goodIn_of _ (by decide +kernel)) ggX7_zeros_X1_zerosInLine
theorem dX7_zeros_0 : decode cX7_zeros 0 = .ok (.iload_n 1, 1) := by decide +kernel
theorem dX7_zeros_1 : decode cX7_zeros 1 = .ok (.invokestatic 126, 3) := by decide +kernel
theorem dX7_zeros_4 : decode cX7_zeros 4 = .ok (.ifCond .ne 5, 3) := by decide +kernel
theorem dX7_zeros_7 : decode cX7_zeros 7 = .ok (.iconst (-1), 1) := by decide +kernel
theorem dX7_zeros_8 : decode cX7_zeros 8 = .ok (.ireturn, 1) := by decide +kernel
theorem dX7_zeros_9 : decode cX7_zeros 9 = .ok (.aload_n 0, 1) := by decide +kernel
theorem dX7_zeros_10 : decode cX7_zeros 10 = .ok (.getfield 10, 3) := by decide +kernel
theorem dX7_zeros_13 : decode cX7_zeros 13 = .ok (.getfield 80, 3) := by decide +kernel
theorem dX7_zeros_16 : decode cX7_zeros 16 = .ok (.bipush 23, 2) := by decide +kernel
theorem dX7_zeros_18 : decode cX7_zeros 18 = .ok (.if_icmp .le 6, 3) := by decide +kernel
theorem dX7_zeros_21 : decode cX7_zeros 21 = .ok (.bipush (-2), 2) := by decide +kernel
theorem dX7_zeros_23 : decode cX7_zeros 23 = .ok (.ireturn, 1) := by decide +kernel
theorem dX7_zeros_24 : decode cX7_zeros 24 = .ok (.aload_n 0, 1) := by decide +kernel
theorem dX7_zeros_25 : decode cX7_zeros 25 = .ok (.iload_n 1, 1) := by decide +kernel
theorem dX7_zeros_26 : decode cX7_zeros 26 = .ok (.invokevirtual 129, 3) := by decide +kernel
theorem dX7_zeros_29 : decode cX7_zeros 29 = .ok (.astore_n 2, 1) := by decide +kernel
theorem dX7_zeros_30 : decode cX7_zeros 30 = .ok (.aload_n 2, 1) := by decide +kernel
theorem dX7_zeros_31 : decode cX7_zeros 31 = .ok (.invokevirtual 178, 3) := by decide +kernel
theorem dX7_zeros_34 : decode cX7_zeros 34 = .ok (.iconst 0, 1) := by decide +kernel
theorem dX7_zeros_35 : decode cX7_zeros 35 = .ok (.istore_n 3, 1) := by decide +kernel
theorem dX7_zeros_36 : decode cX7_zeros 36 = .ok (.iconst 0, 1) := by decide +kernel
theorem dX7_zeros_37 : decode cX7_zeros 37 = .ok (.istore 4, 2) := by decide +kernel
theorem dX7_zeros_39 : decode cX7_zeros 39 = .ok (.iload 4, 2) := by decide +kernel
theorem dX7_zeros_41 : decode cX7_zeros 41 = .ok (.aload_n 0, 1) := by decide +kernel
theorem dX7_zeros_42 : decode cX7_zeros 42 = .ok (.getfield 10, 3) := by decide +kernel
theorem dX7_zeros_45 : decode cX7_zeros 45 = .ok (.getfield 80, 3) := by decide +kernel
theorem dX7_zeros_48 : decode cX7_zeros 48 = .ok (.if_icmp .ge 45, 3) := by decide +kernel
theorem dX7_zeros_51 : decode cX7_zeros 51 = .ok (.iconst 0, 1) := by decide +kernel
theorem dX7_zeros_52 : decode cX7_zeros 52 = .ok (.istore 5, 2) := by decide +kernel
theorem dX7_zeros_54 : decode cX7_zeros 54 = .ok (.iload 5, 2) := by decide +kernel
theorem dX7_zeros_56 : decode cX7_zeros 56 = .ok (.aload_n 0, 1) := by decide +kernel
theorem dX7_zeros_57 : decode cX7_zeros 57 = .ok (.getfield 10, 3) := by decide +kernel
theorem dX7_zeros_60 : decode cX7_zeros 60 = .ok (.getfield 80, 3) := by decide +kernel
theorem dX7_zeros_63 : decode cX7_zeros 63 = .ok (.if_icmp .ge 24, 3) := by decide +kernel
theorem dX7_zeros_66 : decode cX7_zeros 66 = .ok (.aload_n 2, 1) := by decide +kernel
theorem dX7_zeros_67 : decode cX7_zeros 67 = .ok (.iload 4, 2) := by decide +kernel
theorem dX7_zeros_69 : decode cX7_zeros 69 = .ok (.iload 5, 2) := by decide +kernel
theorem dX7_zeros_71 : decode cX7_zeros 71 = .ok (.invokevirtual 181, 3) := by decide +kernel
theorem dX7_zeros_74 : decode cX7_zeros 74 = .ok (.iload_n 3, 1) := by decide +kernel
theorem dX7_zeros_75 : decode cX7_zeros 75 = .ok (.aload_n 2, 1) := by decide +kernel
theorem dX7_zeros_76 : decode cX7_zeros 76 = .ok (.invokevirtual 185, 3) := by decide +kernel
theorem dX7_zeros_79 : decode cX7_zeros 79 = .ok (.iadd, 1) := by decide +kernel
theorem dX7_zeros_80 : decode cX7_zeros 80 = .ok (.istore_n 3, 1) := by decide +kernel
theorem dX7_zeros_81 : decode cX7_zeros 81 = .ok (.iinc 5 1, 3) := by decide +kernel
theorem dX7_zeros_84 : decode cX7_zeros 84 = .ok (.goto (-30), 3) := by decide +kernel
theorem dX7_zeros_87 : decode cX7_zeros 87 = .ok (.iinc 4 1, 3) := by decide +kernel
theorem dX7_zeros_90 : decode cX7_zeros 90 = .ok (.goto (-51), 3) := by decide +kernel
theorem dX7_zeros_93 : decode cX7_zeros 93 = .ok (.iload_n 3, 1) := by decide +kernel
theorem dX7_zeros_94 : decode cX7_zeros 94 = .ok (.ireturn, 1) := by decide +kernel
set_option maxRecDepth 20000 in
theorem ggX7_meet_X1_readyLines : GoodIn wsX7_meet wsX1_readyLines := goodIn_r _ [8, 9, 10, 11, 12, 13, 14, 15, 16, 17, 18, 19, 20, 21, 22, 23, 24, 25, 26, 27, 28, 29, 30, 31, 32, 33, 34, 76, 77, 78, 79, 80, 81, 82, 74, 75, 83, 84, 85] (by decide +kernel) (by decide +kernel)
set_option maxRecDepth 20000 in
theorem gX7_meet_X1_readyLines : GoodIn wsX7_meet (wsV RX7 178 RX1 yX1_readyLines wsX1_readyLines) := goodIn_app (goodIn_of _ (by decide +kernel)) ggX7_meet_X1_readyLines
set_option maxRecDepth 20000 in
theorem ggX7_meet_X1_answerLine : GoodIn wsX7_meet wsX1_answerLine := goodIn_r _ [38, 39, 40, 9, 41, 42, 43, 7, 44, 11, 12, 45, 46, 47, 48, 49, 13, 14, 15, 16, 17, 18, 19, 20, 21, 22, 23, 24, 25, 26, 27, 28, 29, 30, 31, 32, 33, 34, 50, 51, 52, 53, 54, 10, 55, 56, 57, 76, 77, 78, 79, 80, 81, 82, 74, 75, 83, 84, 85] (by decide +kernel) (by decide +kernel)
set_option maxRecDepth 20000 in
theorem gX7_meet_X1_answerLine : GoodIn wsX7_meet (wsV RX7 181 RX1 yX1_answerLine wsX1_answerLine) := goodIn_app (goodIn_of _ (by decide +kernel)) ggX7_meet_X1_answerLine
set_option maxRecDepth 20000 in
theorem ggX7_meet_X1_alikeInLine : GoodIn wsX7_meet wsX1_alikeInLine := goodIn_r _ [61, 9, 39, 76, 77, 78, 79, 80, 81, 82, 74, 75] (by decide +kernel) (by decide +kernel)
set_option maxRecDepth 20000 in
theorem gX7_meet_X1_alikeInLine : GoodIn wsX7_meet (wsV RX7 189 RX1 yX1_alikeInLine wsX1_alikeInLine) := goodIn_app (goodIn_of _ (by decide +kernel)) ggX7_meet_X1_alikeInLine
theorem dX7_meet_0 : decode cX7_meet 0 = .ok (.aload_n 0, 1) := by decide +kernel
theorem dX7_meet_1 : decode cX7_meet 1 = .ok (.getfield 10, 3) := by decide +kernel
theorem dX7_meet_4 : decode cX7_meet 4 = .ok (.getfield 80, 3) := by decide +kernel
theorem dX7_meet_7 : decode cX7_meet 7 = .ok (.bipush 23, 2) := by decide +kernel
theorem dX7_meet_9 : decode cX7_meet 9 = .ok (.if_icmp .le 6, 3) := by decide +kernel
theorem dX7_meet_12 : decode cX7_meet 12 = .ok (.bipush (-2), 2) := by decide +kernel
theorem dX7_meet_14 : decode cX7_meet 14 = .ok (.ireturn, 1) := by decide +kernel
theorem dX7_meet_15 : decode cX7_meet 15 = .ok (.aload_n 0, 1) := by decide +kernel
theorem dX7_meet_16 : decode cX7_meet 16 = .ok (.getfield 30, 3) := by decide +kernel
theorem dX7_meet_19 : decode cX7_meet 19 = .ok (.invokevirtual 178, 3) := by decide +kernel
theorem dX7_meet_22 : decode cX7_meet 22 = .ok (.aload_n 0, 1) := by decide +kernel
theorem dX7_meet_23 : decode cX7_meet 23 = .ok (.getfield 34, 3) := by decide +kernel
theorem dX7_meet_26 : decode cX7_meet 26 = .ok (.invokevirtual 178, 3) := by decide +kernel
theorem dX7_meet_29 : decode cX7_meet 29 = .ok (.iconst 0, 1) := by decide +kernel
theorem dX7_meet_30 : decode cX7_meet 30 = .ok (.istore_n 1, 1) := by decide +kernel
theorem dX7_meet_31 : decode cX7_meet 31 = .ok (.iconst 0, 1) := by decide +kernel
theorem dX7_meet_32 : decode cX7_meet 32 = .ok (.istore_n 2, 1) := by decide +kernel
theorem dX7_meet_33 : decode cX7_meet 33 = .ok (.iload_n 2, 1) := by decide +kernel
theorem dX7_meet_34 : decode cX7_meet 34 = .ok (.aload_n 0, 1) := by decide +kernel
theorem dX7_meet_35 : decode cX7_meet 35 = .ok (.getfield 10, 3) := by decide +kernel
theorem dX7_meet_38 : decode cX7_meet 38 = .ok (.getfield 80, 3) := by decide +kernel
theorem dX7_meet_41 : decode cX7_meet 41 = .ok (.if_icmp .ge 60, 3) := by decide +kernel
theorem dX7_meet_44 : decode cX7_meet 44 = .ok (.iconst 0, 1) := by decide +kernel
theorem dX7_meet_45 : decode cX7_meet 45 = .ok (.istore_n 3, 1) := by decide +kernel
theorem dX7_meet_46 : decode cX7_meet 46 = .ok (.iload_n 3, 1) := by decide +kernel
theorem dX7_meet_47 : decode cX7_meet 47 = .ok (.aload_n 0, 1) := by decide +kernel
theorem dX7_meet_48 : decode cX7_meet 48 = .ok (.getfield 10, 3) := by decide +kernel
theorem dX7_meet_51 : decode cX7_meet 51 = .ok (.getfield 80, 3) := by decide +kernel
theorem dX7_meet_54 : decode cX7_meet 54 = .ok (.if_icmp .ge 41, 3) := by decide +kernel
theorem dX7_meet_57 : decode cX7_meet 57 = .ok (.aload_n 0, 1) := by decide +kernel
theorem dX7_meet_58 : decode cX7_meet 58 = .ok (.getfield 30, 3) := by decide +kernel
theorem dX7_meet_61 : decode cX7_meet 61 = .ok (.iload_n 2, 1) := by decide +kernel
theorem dX7_meet_62 : decode cX7_meet 62 = .ok (.iload_n 3, 1) := by decide +kernel
theorem dX7_meet_63 : decode cX7_meet 63 = .ok (.invokevirtual 181, 3) := by decide +kernel
theorem dX7_meet_66 : decode cX7_meet 66 = .ok (.aload_n 0, 1) := by decide +kernel
theorem dX7_meet_67 : decode cX7_meet 67 = .ok (.getfield 34, 3) := by decide +kernel
theorem dX7_meet_70 : decode cX7_meet 70 = .ok (.iload_n 2, 1) := by decide +kernel
theorem dX7_meet_71 : decode cX7_meet 71 = .ok (.iload_n 3, 1) := by decide +kernel
theorem dX7_meet_72 : decode cX7_meet 72 = .ok (.invokevirtual 181, 3) := by decide +kernel
theorem dX7_meet_75 : decode cX7_meet 75 = .ok (.iload_n 1, 1) := by decide +kernel
theorem dX7_meet_76 : decode cX7_meet 76 = .ok (.aload_n 0, 1) := by decide +kernel
theorem dX7_meet_77 : decode cX7_meet 77 = .ok (.getfield 30, 3) := by decide +kernel
theorem dX7_meet_80 : decode cX7_meet 80 = .ok (.aload_n 0, 1) := by decide +kernel
theorem dX7_meet_81 : decode cX7_meet 81 = .ok (.getfield 34, 3) := by decide +kernel
theorem dX7_meet_84 : decode cX7_meet 84 = .ok (.invokevirtual 189, 3) := by decide +kernel
theorem dX7_meet_87 : decode cX7_meet 87 = .ok (.iadd, 1) := by decide +kernel
theorem dX7_meet_88 : decode cX7_meet 88 = .ok (.istore_n 1, 1) := by decide +kernel
theorem dX7_meet_89 : decode cX7_meet 89 = .ok (.iinc 3 1, 3) := by decide +kernel
theorem dX7_meet_92 : decode cX7_meet 92 = .ok (.goto (-46), 3) := by decide +kernel
theorem dX7_meet_95 : decode cX7_meet 95 = .ok (.iinc 2 1, 3) := by decide +kernel
theorem dX7_meet_98 : decode cX7_meet 98 = .ok (.goto (-65), 3) := by decide +kernel
theorem dX7_meet_101 : decode cX7_meet 101 = .ok (.iload_n 1, 1) := by decide +kernel
theorem dX7_meet_102 : decode cX7_meet 102 = .ok (.ireturn, 1) := by decide +kernel
theorem dX7_count_0 : decode cX7_count 0 = .ok (.iload_n 1, 1) := by decide +kernel
theorem dX7_count_1 : decode cX7_count 1 = .ok (.tableswitch 69 0 4 #[35, 43, 51, 59, 64], 35) := by decide +kernel
theorem dX7_count_36 : decode cX7_count 36 = .ok (.aload_n 0, 1) := by decide +kernel
theorem dX7_count_37 : decode cX7_count 37 = .ok (.getfield 10, 3) := by decide +kernel
theorem dX7_count_40 : decode cX7_count 40 = .ok (.getfield 80, 3) := by decide +kernel
theorem dX7_count_43 : decode cX7_count 43 = .ok (.ireturn, 1) := by decide +kernel
theorem dX7_count_44 : decode cX7_count 44 = .ok (.aload_n 0, 1) := by decide +kernel
theorem dX7_count_45 : decode cX7_count 45 = .ok (.getfield 30, 3) := by decide +kernel
theorem dX7_count_48 : decode cX7_count 48 = .ok (.getfield 133, 3) := by decide +kernel
theorem dX7_count_51 : decode cX7_count 51 = .ok (.ireturn, 1) := by decide +kernel
theorem dX7_count_52 : decode cX7_count 52 = .ok (.aload_n 0, 1) := by decide +kernel
theorem dX7_count_53 : decode cX7_count 53 = .ok (.getfield 34, 3) := by decide +kernel
theorem dX7_count_56 : decode cX7_count 56 = .ok (.getfield 133, 3) := by decide +kernel
theorem dX7_count_59 : decode cX7_count 59 = .ok (.ireturn, 1) := by decide +kernel
theorem dX7_count_60 : decode cX7_count 60 = .ok (.aload_n 0, 1) := by decide +kernel
theorem dX7_count_61 : decode cX7_count 61 = .ok (.getfield 69, 3) := by decide +kernel
theorem dX7_count_64 : decode cX7_count 64 = .ok (.ireturn, 1) := by decide +kernel
theorem dX7_count_65 : decode cX7_count 65 = .ok (.aload_n 0, 1) := by decide +kernel
theorem dX7_count_66 : decode cX7_count 66 = .ok (.getfield 73, 3) := by decide +kernel
theorem dX7_count_69 : decode cX7_count 69 = .ok (.ireturn, 1) := by decide +kernel
theorem dX7_count_70 : decode cX7_count 70 = .ok (.iconst (-1), 1) := by decide +kernel
theorem dX7_count_71 : decode cX7_count 71 = .ok (.ireturn, 1) := by decide +kernel
theorem dX7_trace_0 : decode cX7_trace 0 = .ok (.aload_n 0, 1) := by decide +kernel
theorem dX7_trace_1 : decode cX7_trace 1 = .ok (.getfield 76, 3) := by decide +kernel
theorem dX7_trace_4 : decode cX7_trace 4 = .ok (.lreturn, 1) := by decide +kernel
theorem dX7_isBox_0 : decode cX7_isBox 0 = .ok (.iload_n 0, 1) := by decide +kernel
theorem dX7_isBox_1 : decode cX7_isBox 1 = .ok (.ifCond .eq 8, 3) := by decide +kernel
theorem dX7_isBox_4 : decode cX7_isBox 4 = .ok (.iload_n 0, 1) := by decide +kernel
theorem dX7_isBox_5 : decode cX7_isBox 5 = .ok (.iconst 1, 1) := by decide +kernel
theorem dX7_isBox_6 : decode cX7_isBox 6 = .ok (.if_icmp .ne 7, 3) := by decide +kernel
theorem dX7_isBox_9 : decode cX7_isBox 9 = .ok (.iconst 1, 1) := by decide +kernel
theorem dX7_isBox_10 : decode cX7_isBox 10 = .ok (.goto 4, 3) := by decide +kernel
theorem dX7_isBox_13 : decode cX7_isBox 13 = .ok (.iconst 0, 1) := by decide +kernel
theorem dX7_isBox_14 : decode cX7_isBox 14 = .ok (.ireturn, 1) := by decide +kernel
theorem dX7_boxOf_0 : decode cX7_boxOf 0 = .ok (.iload_n 1, 1) := by decide +kernel
theorem dX7_boxOf_1 : decode cX7_boxOf 1 = .ok (.ifCond .ne 10, 3) := by decide +kernel
theorem dX7_boxOf_4 : decode cX7_boxOf 4 = .ok (.aload_n 0, 1) := by decide +kernel
theorem dX7_boxOf_5 : decode cX7_boxOf 5 = .ok (.getfield 30, 3) := by decide +kernel
theorem dX7_boxOf_8 : decode cX7_boxOf 8 = .ok (.goto 7, 3) := by decide +kernel
theorem dX7_boxOf_11 : decode cX7_boxOf 11 = .ok (.aload_n 0, 1) := by decide +kernel
theorem dX7_boxOf_12 : decode cX7_boxOf 12 = .ok (.getfield 34, 3) := by decide +kernel
theorem dX7_boxOf_15 : decode cX7_boxOf 15 = .ok (.areturn, 1) := by decide +kernel
theorem dX7_isKind_0 : decode cX7_isKind 0 = .ok (.iload_n 0, 1) := by decide +kernel
theorem dX7_isKind_1 : decode cX7_isKind 1 = .ok (.ifCond .lt 12, 3) := by decide +kernel
theorem dX7_isKind_4 : decode cX7_isKind 4 = .ok (.iload_n 0, 1) := by decide +kernel
theorem dX7_isKind_5 : decode cX7_isKind 5 = .ok (.iconst 2, 1) := by decide +kernel
theorem dX7_isKind_6 : decode cX7_isKind 6 = .ok (.if_icmp .gt 7, 3) := by decide +kernel
theorem dX7_isKind_9 : decode cX7_isKind 9 = .ok (.iconst 1, 1) := by decide +kernel
theorem dX7_isKind_10 : decode cX7_isKind 10 = .ok (.goto 4, 3) := by decide +kernel
theorem dX7_isKind_13 : decode cX7_isKind 13 = .ok (.iconst 0, 1) := by decide +kernel
theorem dX7_isKind_14 : decode cX7_isKind 14 = .ok (.ireturn, 1) := by decide +kernel
theorem dX7_isExponent_0 : decode cX7_isExponent 0 = .ok (.iload_n 0, 1) := by decide +kernel
theorem dX7_isExponent_1 : decode cX7_isExponent 1 = .ok (.ifCond .lt 12, 3) := by decide +kernel
theorem dX7_isExponent_4 : decode cX7_isExponent 4 = .ok (.iload_n 0, 1) := by decide +kernel
theorem dX7_isExponent_5 : decode cX7_isExponent 5 = .ok (.iconst 4, 1) := by decide +kernel
theorem dX7_isExponent_6 : decode cX7_isExponent 6 = .ok (.if_icmp .gt 7, 3) := by decide +kernel
theorem dX7_isExponent_9 : decode cX7_isExponent 9 = .ok (.iconst 1, 1) := by decide +kernel
theorem dX7_isExponent_10 : decode cX7_isExponent 10 = .ok (.goto 4, 3) := by decide +kernel
theorem dX7_isExponent_13 : decode cX7_isExponent 13 = .ok (.iconst 0, 1) := by decide +kernel
theorem dX7_isExponent_14 : decode cX7_isExponent 14 = .ok (.ireturn, 1) := by decide +kernel
set_option maxRecDepth 20000 in
theorem ggX7_arePoint_X4_has : GoodIn wsX7_arePoint wsX4_has := goodIn_r _ [6, 7, 20, 21] (by decide +kernel) (by decide +kernel)
set_option maxRecDepth 20000 in
theorem gX7_arePoint_X4_has : GoodIn wsX7_arePoint (wsV RX7 113 RX4 yX4_has wsX4_has) := goodIn_app (goodIn_of _ (by decide +kernel)) ggX7_arePoint_X4_has
theorem dX7_arePoint_0 : decode cX7_arePoint 0 = .ok (.aload_n 0, 1) := by decide +kernel
theorem dX7_arePoint_1 : decode cX7_arePoint 1 = .ok (.getfield 10, 3) := by decide +kernel
theorem dX7_arePoint_4 : decode cX7_arePoint 4 = .ok (.iload_n 1, 1) := by decide +kernel
theorem dX7_arePoint_5 : decode cX7_arePoint 5 = .ok (.invokevirtual 113, 3) := by decide +kernel
theorem dX7_arePoint_8 : decode cX7_arePoint 8 = .ok (.ifCond .eq 29, 3) := by decide +kernel
theorem dX7_arePoint_11 : decode cX7_arePoint 11 = .ok (.aload_n 0, 1) := by decide +kernel
theorem dX7_arePoint_12 : decode cX7_arePoint 12 = .ok (.getfield 10, 3) := by decide +kernel
theorem dX7_arePoint_15 : decode cX7_arePoint 15 = .ok (.iload_n 2, 1) := by decide +kernel
theorem dX7_arePoint_16 : decode cX7_arePoint 16 = .ok (.invokevirtual 113, 3) := by decide +kernel
theorem dX7_arePoint_19 : decode cX7_arePoint 19 = .ok (.ifCond .eq 18, 3) := by decide +kernel
theorem dX7_arePoint_22 : decode cX7_arePoint 22 = .ok (.aload_n 0, 1) := by decide +kernel
theorem dX7_arePoint_23 : decode cX7_arePoint 23 = .ok (.getfield 10, 3) := by decide +kernel
theorem dX7_arePoint_26 : decode cX7_arePoint 26 = .ok (.iload_n 3, 1) := by decide +kernel
theorem dX7_arePoint_27 : decode cX7_arePoint 27 = .ok (.invokevirtual 113, 3) := by decide +kernel
theorem dX7_arePoint_30 : decode cX7_arePoint 30 = .ok (.ifCond .eq 7, 3) := by decide +kernel
theorem dX7_arePoint_33 : decode cX7_arePoint 33 = .ok (.iconst 1, 1) := by decide +kernel
theorem dX7_arePoint_34 : decode cX7_arePoint 34 = .ok (.goto 4, 3) := by decide +kernel
theorem dX7_arePoint_37 : decode cX7_arePoint 37 = .ok (.iconst 0, 1) := by decide +kernel
theorem dX7_arePoint_38 : decode cX7_arePoint 38 = .ok (.ireturn, 1) := by decide +kernel

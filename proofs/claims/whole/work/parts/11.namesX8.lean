theorem dX8_init_0 : decode cX8_init 0 = .ok (.aload_n 0, 1) := by decide +kernel
theorem dX8_init_1 : decode cX8_init 1 = .ok (.invokespecial 1, 3) := by decide +kernel
theorem dX8_init_4 : decode cX8_init 4 = .ok (.aload_n 0, 1) := by decide +kernel
theorem dX8_init_5 : decode cX8_init 5 = .ok (.bipush 101, 2) := by decide +kernel
theorem dX8_init_7 : decode cX8_init 7 = .ok (.putfield 7, 3) := by decide +kernel
theorem dX8_init_10 : decode cX8_init 10 = .ok (.aload_n 0, 1) := by decide +kernel
theorem dX8_init_11 : decode cX8_init 11 = .ok (.iconst 1, 1) := by decide +kernel
theorem dX8_init_12 : decode cX8_init 12 = .ok (.putfield 13, 3) := by decide +kernel
theorem dX8_init_15 : decode cX8_init 15 = .ok (.aload_n 0, 1) := by decide +kernel
theorem dX8_init_16 : decode cX8_init 16 = .ok (.iconst 2, 1) := by decide +kernel
theorem dX8_init_17 : decode cX8_init 17 = .ok (.putfield 16, 3) := by decide +kernel
theorem dX8_init_20 : decode cX8_init 20 = .ok (.aload_n 0, 1) := by decide +kernel
theorem dX8_init_21 : decode cX8_init 21 = .ok (.iconst 2, 1) := by decide +kernel
theorem dX8_init_22 : decode cX8_init 22 = .ok (.newarray .int, 2) := by decide +kernel
theorem dX8_init_24 : decode cX8_init 24 = .ok (.putfield 19, 3) := by decide +kernel
theorem dX8_init_27 : decode cX8_init 27 = .ok (.aload_n 0, 1) := by decide +kernel
theorem dX8_init_28 : decode cX8_init 28 = .ok (.iconst 2, 1) := by decide +kernel
theorem dX8_init_29 : decode cX8_init 29 = .ok (.newarray .int, 2) := by decide +kernel
theorem dX8_init_31 : decode cX8_init 31 = .ok (.putfield 23, 3) := by decide +kernel
theorem dX8_init_34 : decode cX8_init 34 = .ok (.aload_n 0, 1) := by decide +kernel
theorem dX8_init_35 : decode cX8_init 35 = .ok (.bipush 8, 2) := by decide +kernel
theorem dX8_init_37 : decode cX8_init 37 = .ok (.newarray .int, 2) := by decide +kernel
theorem dX8_init_39 : decode cX8_init 39 = .ok (.putfield 26, 3) := by decide +kernel
theorem dX8_init_42 : decode cX8_init 42 = .ok (.aload_n 0, 1) := by decide +kernel
theorem dX8_init_43 : decode cX8_init 43 = .ok (.bipush 8, 2) := by decide +kernel
theorem dX8_init_45 : decode cX8_init 45 = .ok (.newarray .int, 2) := by decide +kernel
theorem dX8_init_47 : decode cX8_init 47 = .ok (.putfield 29, 3) := by decide +kernel
theorem dX8_init_50 : decode cX8_init 50 = .ok (.aload_n 0, 1) := by decide +kernel
theorem dX8_init_51 : decode cX8_init 51 = .ok (.bipush 8, 2) := by decide +kernel
theorem dX8_init_53 : decode cX8_init 53 = .ok (.newarray .int, 2) := by decide +kernel
theorem dX8_init_55 : decode cX8_init 55 = .ok (.putfield 32, 3) := by decide +kernel
theorem dX8_init_58 : decode cX8_init 58 = .ok (.aload_n 0, 1) := by decide +kernel
theorem dX8_init_59 : decode cX8_init 59 = .ok (.bipush 8, 2) := by decide +kernel
theorem dX8_init_61 : decode cX8_init 61 = .ok (.newarray .int, 2) := by decide +kernel
theorem dX8_init_63 : decode cX8_init 63 = .ok (.putfield 35, 3) := by decide +kernel
theorem dX8_init_66 : decode cX8_init 66 = .ok (.aload_n 0, 1) := by decide +kernel
theorem dX8_init_67 : decode cX8_init 67 = .ok (.bipush 16, 2) := by decide +kernel
theorem dX8_init_69 : decode cX8_init 69 = .ok (.newarray .int, 2) := by decide +kernel
theorem dX8_init_71 : decode cX8_init 71 = .ok (.putfield 38, 3) := by decide +kernel
theorem dX8_init_74 : decode cX8_init 74 = .ok (.aload_n 0, 1) := by decide +kernel
theorem dX8_init_75 : decode cX8_init 75 = .ok (.bipush 16, 2) := by decide +kernel
theorem dX8_init_77 : decode cX8_init 77 = .ok (.newarray .int, 2) := by decide +kernel
theorem dX8_init_79 : decode cX8_init 79 = .ok (.putfield 41, 3) := by decide +kernel
theorem dX8_init_82 : decode cX8_init 82 = .ok (.aload_n 0, 1) := by decide +kernel
theorem dX8_init_83 : decode cX8_init 83 = .ok (.bipush 40, 2) := by decide +kernel
theorem dX8_init_85 : decode cX8_init 85 = .ok (.newarray .int, 2) := by decide +kernel
theorem dX8_init_87 : decode cX8_init 87 = .ok (.putfield 44, 3) := by decide +kernel
theorem dX8_init_90 : decode cX8_init 90 = .ok (.aload_n 0, 1) := by decide +kernel
theorem dX8_init_91 : decode cX8_init 91 = .ok (.bipush 40, 2) := by decide +kernel
theorem dX8_init_93 : decode cX8_init 93 = .ok (.newarray .int, 2) := by decide +kernel
theorem dX8_init_95 : decode cX8_init 95 = .ok (.putfield 47, 3) := by decide +kernel
theorem dX8_init_98 : decode cX8_init 98 = .ok (.aload_n 0, 1) := by decide +kernel
theorem dX8_init_99 : decode cX8_init 99 = .ok (.bipush 40, 2) := by decide +kernel
theorem dX8_init_101 : decode cX8_init 101 = .ok (.newarray .int, 2) := by decide +kernel
theorem dX8_init_103 : decode cX8_init 103 = .ok (.putfield 50, 3) := by decide +kernel
theorem dX8_init_106 : decode cX8_init 106 = .ok (.aload_n 0, 1) := by decide +kernel
theorem dX8_init_107 : decode cX8_init 107 = .ok (.bipush 16, 2) := by decide +kernel
theorem dX8_init_109 : decode cX8_init 109 = .ok (.newarray .int, 2) := by decide +kernel
theorem dX8_init_111 : decode cX8_init 111 = .ok (.putfield 53, 3) := by decide +kernel
theorem dX8_init_114 : decode cX8_init 114 = .ok (.aload_n 0, 1) := by decide +kernel
theorem dX8_init_115 : decode cX8_init 115 = .ok (.bipush 16, 2) := by decide +kernel
theorem dX8_init_117 : decode cX8_init 117 = .ok (.newarray .int, 2) := by decide +kernel
theorem dX8_init_119 : decode cX8_init 119 = .ok (.putfield 56, 3) := by decide +kernel
theorem dX8_init_122 : decode cX8_init 122 = .ok (.aload_n 0, 1) := by decide +kernel
theorem dX8_init_123 : decode cX8_init 123 = .ok (.bipush 40, 2) := by decide +kernel
theorem dX8_init_125 : decode cX8_init 125 = .ok (.newarray .int, 2) := by decide +kernel
theorem dX8_init_127 : decode cX8_init 127 = .ok (.putfield 59, 3) := by decide +kernel
theorem dX8_init_130 : decode cX8_init 130 = .ok (.aload_n 0, 1) := by decide +kernel
theorem dX8_init_131 : decode cX8_init 131 = .ok (.bipush 9, 2) := by decide +kernel
theorem dX8_init_133 : decode cX8_init 133 = .ok (.newarray .int, 2) := by decide +kernel
theorem dX8_init_135 : decode cX8_init 135 = .ok (.putfield 62, 3) := by decide +kernel
theorem dX8_init_138 : decode cX8_init 138 = .ok (.aload_n 0, 1) := by decide +kernel
theorem dX8_init_139 : decode cX8_init 139 = .ok (.iconst 5, 1) := by decide +kernel
theorem dX8_init_140 : decode cX8_init 140 = .ok (.newarray .int, 2) := by decide +kernel
theorem dX8_init_142 : decode cX8_init 142 = .ok (.putfield 65, 3) := by decide +kernel
theorem dX8_init_145 : decode cX8_init 145 = .ok (.aload_n 0, 1) := by decide +kernel
theorem dX8_init_146 : decode cX8_init 146 = .ok (.iconst 5, 1) := by decide +kernel
theorem dX8_init_147 : decode cX8_init 147 = .ok (.newarray .int, 2) := by decide +kernel
theorem dX8_init_149 : decode cX8_init 149 = .ok (.putfield 68, 3) := by decide +kernel
theorem dX8_init_152 : decode cX8_init 152 = .ok (.aload_n 0, 1) := by decide +kernel
theorem dX8_init_153 : decode cX8_init 153 = .ok (.iconst 5, 1) := by decide +kernel
theorem dX8_init_154 : decode cX8_init 154 = .ok (.newarray .int, 2) := by decide +kernel
theorem dX8_init_156 : decode cX8_init 156 = .ok (.putfield 71, 3) := by decide +kernel
theorem dX8_init_159 : decode cX8_init 159 = .ok (.aload_n 0, 1) := by decide +kernel
theorem dX8_init_160 : decode cX8_init 160 = .ok (.iconst 5, 1) := by decide +kernel
theorem dX8_init_161 : decode cX8_init 161 = .ok (.newarray .int, 2) := by decide +kernel
theorem dX8_init_163 : decode cX8_init 163 = .ok (.putfield 74, 3) := by decide +kernel
theorem dX8_init_166 : decode cX8_init 166 = .ok (.aload_n 0, 1) := by decide +kernel
theorem dX8_init_167 : decode cX8_init 167 = .ok (.iconst 5, 1) := by decide +kernel
theorem dX8_init_168 : decode cX8_init 168 = .ok (.newarray .int, 2) := by decide +kernel
theorem dX8_init_170 : decode cX8_init 170 = .ok (.putfield 77, 3) := by decide +kernel
theorem dX8_init_173 : decode cX8_init 173 = .ok (.aload_n 0, 1) := by decide +kernel
theorem dX8_init_174 : decode cX8_init 174 = .ok (.bipush 20, 2) := by decide +kernel
theorem dX8_init_176 : decode cX8_init 176 = .ok (.newarray .int, 2) := by decide +kernel
theorem dX8_init_178 : decode cX8_init 178 = .ok (.putfield 80, 3) := by decide +kernel
theorem dX8_init_181 : decode cX8_init 181 = .ok (.aload_n 0, 1) := by decide +kernel
theorem dX8_init_182 : decode cX8_init 182 = .ok (.iconst 0, 1) := by decide +kernel
theorem dX8_init_183 : decode cX8_init 183 = .ok (.putfield 83, 3) := by decide +kernel
theorem dX8_init_186 : decode cX8_init 186 = .ok (.return_, 1) := by decide +kernel
theorem dX8_in_0 : decode cX8_in 0 = .ok (.iload_n 0, 1) := by decide +kernel
theorem dX8_in_1 : decode cX8_in 1 = .ok (.iload_n 1, 1) := by decide +kernel
theorem dX8_in_2 : decode cX8_in 2 = .ok (.if_icmp .lt 12, 3) := by decide +kernel
theorem dX8_in_5 : decode cX8_in 5 = .ok (.iload_n 0, 1) := by decide +kernel
theorem dX8_in_6 : decode cX8_in 6 = .ok (.iload_n 2, 1) := by decide +kernel
theorem dX8_in_7 : decode cX8_in 7 = .ok (.if_icmp .gt 7, 3) := by decide +kernel
theorem dX8_in_10 : decode cX8_in 10 = .ok (.iconst 1, 1) := by decide +kernel
theorem dX8_in_11 : decode cX8_in 11 = .ok (.goto 4, 3) := by decide +kernel
theorem dX8_in_14 : decode cX8_in 14 = .ok (.iconst 0, 1) := by decide +kernel
theorem dX8_in_15 : decode cX8_in 15 = .ok (.ireturn, 1) := by decide +kernel
set_option maxRecDepth 20000 in
theorem ggX8_isNumber_X8_in : GoodIn wsX8_isNumber wsX8_in := goodIn_r _ [5] (by decide +kernel) (by decide +kernel)
set_option maxRecDepth 20000 in
theorem gX8_isNumber_X8_in : GoodIn wsX8_isNumber (va_wsS RX8 86 yX8_in wsX8_in) := goodIn_app (goodIn_of _ (by decide +kernel)) ggX8_isNumber_X8_in
theorem dX8_isNumber_0 : decode cX8_isNumber 0 = .ok (.iload_n 1, 1) := by decide +kernel
theorem dX8_isNumber_1 : decode cX8_isNumber 1 = .ok (.iconst 0, 1) := by decide +kernel
theorem dX8_isNumber_2 : decode cX8_isNumber 2 = .ok (.aload_n 0, 1) := by decide +kernel
theorem dX8_isNumber_3 : decode cX8_isNumber 3 = .ok (.getfield 7, 3) := by decide +kernel
theorem dX8_isNumber_6 : decode cX8_isNumber 6 = .ok (.iconst 1, 1) := by decide +kernel
theorem dX8_isNumber_7 : decode cX8_isNumber 7 = .ok (.isub, 1) := by decide +kernel
theorem dX8_isNumber_8 : decode cX8_isNumber 8 = .ok (.invokestatic 86, 3) := by decide +kernel
theorem dX8_isNumber_11 : decode cX8_isNumber 11 = .ok (.ireturn, 1) := by decide +kernel
set_option maxRecDepth 20000 in
theorem ggX8_isBox_X8_in : GoodIn wsX8_isBox wsX8_in := goodIn_r _ [4] (by decide +kernel) (by decide +kernel)
set_option maxRecDepth 20000 in
theorem gX8_isBox_X8_in : GoodIn wsX8_isBox (va_wsS RX8 86 yX8_in wsX8_in) := goodIn_app (goodIn_of _ (by decide +kernel)) ggX8_isBox_X8_in
theorem dX8_isBox_0 : decode cX8_isBox 0 = .ok (.iload_n 0, 1) := by decide +kernel
theorem dX8_isBox_1 : decode cX8_isBox 1 = .ok (.iconst 0, 1) := by decide +kernel
theorem dX8_isBox_2 : decode cX8_isBox 2 = .ok (.iconst 1, 1) := by decide +kernel
theorem dX8_isBox_3 : decode cX8_isBox 3 = .ok (.invokestatic 86, 3) := by decide +kernel
theorem dX8_isBox_6 : decode cX8_isBox 6 = .ok (.ireturn, 1) := by decide +kernel
set_option maxRecDepth 20000 in
theorem ggX8_field_X8_in : GoodIn wsX8_field wsX8_in := goodIn_r _ [7] (by decide +kernel) (by decide +kernel)
set_option maxRecDepth 20000 in
theorem gX8_field_X8_in : GoodIn wsX8_field (va_wsS RX8 86 yX8_in wsX8_in) := goodIn_app (goodIn_of _ (by decide +kernel)) ggX8_field_X8_in
theorem dX8_field_0 : decode cX8_field 0 = .ok (.iload_n 1, 1) := by decide +kernel
theorem dX8_field_1 : decode cX8_field 1 = .ok (.iconst 5, 1) := by decide +kernel
theorem dX8_field_2 : decode cX8_field 2 = .ok (.sipush 997, 3) := by decide +kernel
theorem dX8_field_5 : decode cX8_field 5 = .ok (.invokestatic 86, 3) := by decide +kernel
theorem dX8_field_8 : decode cX8_field 8 = .ok (.istore_n 2, 1) := by decide +kernel
theorem dX8_field_9 : decode cX8_field 9 = .ok (.iconst 2, 1) := by decide +kernel
theorem dX8_field_10 : decode cX8_field 10 = .ok (.istore_n 3, 1) := by decide +kernel
theorem dX8_field_11 : decode cX8_field 11 = .ok (.iload_n 2, 1) := by decide +kernel
theorem dX8_field_12 : decode cX8_field 12 = .ok (.ifCond .eq 28, 3) := by decide +kernel
theorem dX8_field_15 : decode cX8_field 15 = .ok (.iload_n 3, 1) := by decide +kernel
theorem dX8_field_16 : decode cX8_field 16 = .ok (.iload_n 3, 1) := by decide +kernel
theorem dX8_field_17 : decode cX8_field 17 = .ok (.imul, 1) := by decide +kernel
theorem dX8_field_18 : decode cX8_field 18 = .ok (.iload_n 1, 1) := by decide +kernel
theorem dX8_field_19 : decode cX8_field 19 = .ok (.if_icmp .gt 21, 3) := by decide +kernel
theorem dX8_field_22 : decode cX8_field 22 = .ok (.iload_n 1, 1) := by decide +kernel
theorem dX8_field_23 : decode cX8_field 23 = .ok (.iload_n 3, 1) := by decide +kernel
theorem dX8_field_24 : decode cX8_field 24 = .ok (.irem, 1) := by decide +kernel
theorem dX8_field_25 : decode cX8_field 25 = .ok (.ifCond .eq 7, 3) := by decide +kernel
theorem dX8_field_28 : decode cX8_field 28 = .ok (.iconst 1, 1) := by decide +kernel
theorem dX8_field_29 : decode cX8_field 29 = .ok (.goto 4, 3) := by decide +kernel
theorem dX8_field_32 : decode cX8_field 32 = .ok (.iconst 0, 1) := by decide +kernel
theorem dX8_field_33 : decode cX8_field 33 = .ok (.istore_n 2, 1) := by decide +kernel
theorem dX8_field_34 : decode cX8_field 34 = .ok (.iinc 3 1, 3) := by decide +kernel
theorem dX8_field_37 : decode cX8_field 37 = .ok (.goto (-26), 3) := by decide +kernel
theorem dX8_field_40 : decode cX8_field 40 = .ok (.iload_n 2, 1) := by decide +kernel
theorem dX8_field_41 : decode cX8_field 41 = .ok (.ifCond .ne 5, 3) := by decide +kernel
theorem dX8_field_44 : decode cX8_field 44 = .ok (.iconst (-1), 1) := by decide +kernel
theorem dX8_field_45 : decode cX8_field 45 = .ok (.ireturn, 1) := by decide +kernel
theorem dX8_field_46 : decode cX8_field 46 = .ok (.aload_n 0, 1) := by decide +kernel
theorem dX8_field_47 : decode cX8_field 47 = .ok (.getfield 7, 3) := by decide +kernel
theorem dX8_field_50 : decode cX8_field 50 = .ok (.istore_n 3, 1) := by decide +kernel
theorem dX8_field_51 : decode cX8_field 51 = .ok (.aload_n 0, 1) := by decide +kernel
theorem dX8_field_52 : decode cX8_field 52 = .ok (.iload_n 1, 1) := by decide +kernel
theorem dX8_field_53 : decode cX8_field 53 = .ok (.putfield 7, 3) := by decide +kernel
theorem dX8_field_56 : decode cX8_field 56 = .ok (.aload_n 0, 1) := by decide +kernel
theorem dX8_field_57 : decode cX8_field 57 = .ok (.getfield 23, 3) := by decide +kernel
theorem dX8_field_60 : decode cX8_field 60 = .ok (.iconst 0, 1) := by decide +kernel
theorem dX8_field_61 : decode cX8_field 61 = .ok (.iconst 0, 1) := by decide +kernel
theorem dX8_field_62 : decode cX8_field 62 = .ok (.iastore, 1) := by decide +kernel
theorem dX8_field_63 : decode cX8_field 63 = .ok (.aload_n 0, 1) := by decide +kernel
theorem dX8_field_64 : decode cX8_field 64 = .ok (.getfield 23, 3) := by decide +kernel
theorem dX8_field_67 : decode cX8_field 67 = .ok (.iconst 1, 1) := by decide +kernel
theorem dX8_field_68 : decode cX8_field 68 = .ok (.iconst 0, 1) := by decide +kernel
theorem dX8_field_69 : decode cX8_field 69 = .ok (.iastore, 1) := by decide +kernel
theorem dX8_field_70 : decode cX8_field 70 = .ok (.aload_n 0, 1) := by decide +kernel
theorem dX8_field_71 : decode cX8_field 71 = .ok (.iconst 0, 1) := by decide +kernel
theorem dX8_field_72 : decode cX8_field 72 = .ok (.putfield 83, 3) := by decide +kernel
theorem dX8_field_75 : decode cX8_field 75 = .ok (.iload_n 3, 1) := by decide +kernel
theorem dX8_field_76 : decode cX8_field 76 = .ok (.ireturn, 1) := by decide +kernel
set_option maxRecDepth 20000 in
theorem ggX8_set_X8_in : GoodIn wsX8_set wsX8_in := goodIn_r _ [7] (by decide +kernel) (by decide +kernel)
set_option maxRecDepth 20000 in
theorem gX8_set_X8_in : GoodIn wsX8_set (va_wsS RX8 86 yX8_in wsX8_in) := goodIn_app (goodIn_of _ (by decide +kernel)) ggX8_set_X8_in
theorem dX8_set_0 : decode cX8_set 0 = .ok (.iconst (-1), 1) := by decide +kernel
theorem dX8_set_1 : decode cX8_set 1 = .ok (.istore_n 3, 1) := by decide +kernel
theorem dX8_set_2 : decode cX8_set 2 = .ok (.iload_n 1, 1) := by decide +kernel
theorem dX8_set_3 : decode cX8_set 3 = .ok (.ifCond .ne 27, 3) := by decide +kernel
theorem dX8_set_6 : decode cX8_set 6 = .ok (.iload_n 2, 1) := by decide +kernel
theorem dX8_set_7 : decode cX8_set 7 = .ok (.iconst 0, 1) := by decide +kernel
theorem dX8_set_8 : decode cX8_set 8 = .ok (.sipush 996, 3) := by decide +kernel
theorem dX8_set_11 : decode cX8_set 11 = .ok (.invokestatic 86, 3) := by decide +kernel
theorem dX8_set_14 : decode cX8_set 14 = .ok (.ifCond .eq 16, 3) := by decide +kernel
theorem dX8_set_17 : decode cX8_set 17 = .ok (.aload_n 0, 1) := by decide +kernel
theorem dX8_set_18 : decode cX8_set 18 = .ok (.getfield 13, 3) := by decide +kernel
theorem dX8_set_21 : decode cX8_set 21 = .ok (.istore_n 3, 1) := by decide +kernel
theorem dX8_set_22 : decode cX8_set 22 = .ok (.aload_n 0, 1) := by decide +kernel
theorem dX8_set_23 : decode cX8_set 23 = .ok (.iload_n 2, 1) := by decide +kernel
theorem dX8_set_24 : decode cX8_set 24 = .ok (.putfield 13, 3) := by decide +kernel
theorem dX8_set_27 : decode cX8_set 27 = .ok (.goto 68, 3) := by decide +kernel
theorem dX8_set_30 : decode cX8_set 30 = .ok (.iload_n 1, 1) := by decide +kernel
theorem dX8_set_31 : decode cX8_set 31 = .ok (.iconst 1, 1) := by decide +kernel
theorem dX8_set_32 : decode cX8_set 32 = .ok (.if_icmp .ne 27, 3) := by decide +kernel
theorem dX8_set_35 : decode cX8_set 35 = .ok (.iload_n 2, 1) := by decide +kernel
theorem dX8_set_36 : decode cX8_set 36 = .ok (.iconst 1, 1) := by decide +kernel
theorem dX8_set_37 : decode cX8_set 37 = .ok (.sipush 996, 3) := by decide +kernel
theorem dX8_set_40 : decode cX8_set 40 = .ok (.invokestatic 86, 3) := by decide +kernel
theorem dX8_set_43 : decode cX8_set 43 = .ok (.ifCond .eq 16, 3) := by decide +kernel
theorem dX8_set_46 : decode cX8_set 46 = .ok (.aload_n 0, 1) := by decide +kernel
theorem dX8_set_47 : decode cX8_set 47 = .ok (.getfield 16, 3) := by decide +kernel
theorem dX8_set_50 : decode cX8_set 50 = .ok (.istore_n 3, 1) := by decide +kernel
theorem dX8_set_51 : decode cX8_set 51 = .ok (.aload_n 0, 1) := by decide +kernel
theorem dX8_set_52 : decode cX8_set 52 = .ok (.iload_n 2, 1) := by decide +kernel
theorem dX8_set_53 : decode cX8_set 53 = .ok (.putfield 16, 3) := by decide +kernel
theorem dX8_set_56 : decode cX8_set 56 = .ok (.goto 39, 3) := by decide +kernel
theorem dX8_set_59 : decode cX8_set 59 = .ok (.iload_n 1, 1) := by decide +kernel
theorem dX8_set_60 : decode cX8_set 60 = .ok (.iconst 2, 1) := by decide +kernel
theorem dX8_set_61 : decode cX8_set 61 = .ok (.iconst 3, 1) := by decide +kernel
theorem dX8_set_62 : decode cX8_set 62 = .ok (.invokestatic 86, 3) := by decide +kernel
theorem dX8_set_65 : decode cX8_set 65 = .ok (.ifCond .eq 30, 3) := by decide +kernel
theorem dX8_set_68 : decode cX8_set 68 = .ok (.iload_n 2, 1) := by decide +kernel
theorem dX8_set_69 : decode cX8_set 69 = .ok (.iconst 0, 1) := by decide +kernel
theorem dX8_set_70 : decode cX8_set 70 = .ok (.iconst 2, 1) := by decide +kernel
theorem dX8_set_71 : decode cX8_set 71 = .ok (.invokestatic 86, 3) := by decide +kernel
theorem dX8_set_74 : decode cX8_set 74 = .ok (.ifCond .eq 21, 3) := by decide +kernel
theorem dX8_set_77 : decode cX8_set 77 = .ok (.aload_n 0, 1) := by decide +kernel
theorem dX8_set_78 : decode cX8_set 78 = .ok (.getfield 19, 3) := by decide +kernel
theorem dX8_set_81 : decode cX8_set 81 = .ok (.iload_n 1, 1) := by decide +kernel
theorem dX8_set_82 : decode cX8_set 82 = .ok (.iconst 2, 1) := by decide +kernel
theorem dX8_set_83 : decode cX8_set 83 = .ok (.isub, 1) := by decide +kernel
theorem dX8_set_84 : decode cX8_set 84 = .ok (.iaload, 1) := by decide +kernel
theorem dX8_set_85 : decode cX8_set 85 = .ok (.istore_n 3, 1) := by decide +kernel
theorem dX8_set_86 : decode cX8_set 86 = .ok (.aload_n 0, 1) := by decide +kernel
theorem dX8_set_87 : decode cX8_set 87 = .ok (.getfield 19, 3) := by decide +kernel
theorem dX8_set_90 : decode cX8_set 90 = .ok (.iload_n 1, 1) := by decide +kernel
theorem dX8_set_91 : decode cX8_set 91 = .ok (.iconst 2, 1) := by decide +kernel
theorem dX8_set_92 : decode cX8_set 92 = .ok (.isub, 1) := by decide +kernel
theorem dX8_set_93 : decode cX8_set 93 = .ok (.iload_n 2, 1) := by decide +kernel
theorem dX8_set_94 : decode cX8_set 94 = .ok (.iastore, 1) := by decide +kernel
theorem dX8_set_95 : decode cX8_set 95 = .ok (.iload_n 3, 1) := by decide +kernel
theorem dX8_set_96 : decode cX8_set 96 = .ok (.ireturn, 1) := by decide +kernel
theorem dX8_raised_0 : decode cX8_raised 0 = .ok (.iconst 1, 1) := by decide +kernel
theorem dX8_raised_1 : decode cX8_raised 1 = .ok (.istore_n 3, 1) := by decide +kernel
theorem dX8_raised_2 : decode cX8_raised 2 = .ok (.iconst 0, 1) := by decide +kernel
theorem dX8_raised_3 : decode cX8_raised 3 = .ok (.istore 4, 2) := by decide +kernel
theorem dX8_raised_5 : decode cX8_raised 5 = .ok (.iload 4, 2) := by decide +kernel
theorem dX8_raised_7 : decode cX8_raised 7 = .ok (.iload_n 2, 1) := by decide +kernel
theorem dX8_raised_8 : decode cX8_raised 8 = .ok (.if_icmp .ge 18, 3) := by decide +kernel
theorem dX8_raised_11 : decode cX8_raised 11 = .ok (.iload_n 3, 1) := by decide +kernel
theorem dX8_raised_12 : decode cX8_raised 12 = .ok (.iload_n 1, 1) := by decide +kernel
theorem dX8_raised_13 : decode cX8_raised 13 = .ok (.imul, 1) := by decide +kernel
theorem dX8_raised_14 : decode cX8_raised 14 = .ok (.aload_n 0, 1) := by decide +kernel
theorem dX8_raised_15 : decode cX8_raised 15 = .ok (.getfield 7, 3) := by decide +kernel
theorem dX8_raised_18 : decode cX8_raised 18 = .ok (.irem, 1) := by decide +kernel
theorem dX8_raised_19 : decode cX8_raised 19 = .ok (.istore_n 3, 1) := by decide +kernel
theorem dX8_raised_20 : decode cX8_raised 20 = .ok (.iinc 4 1, 3) := by decide +kernel
theorem dX8_raised_23 : decode cX8_raised 23 = .ok (.goto (-18), 3) := by decide +kernel
theorem dX8_raised_26 : decode cX8_raised 26 = .ok (.iload_n 3, 1) := by decide +kernel
theorem dX8_raised_27 : decode cX8_raised 27 = .ok (.ireturn, 1) := by decide +kernel
set_option maxRecDepth 20000 in
theorem ggX8_formOf_X8_raised : GoodIn wsX8_formOf wsX8_raised := goodIn_r _ [8, 2, 9, 10, 11, 12, 13, 14, 15, 16, 17, 18, 19, 20, 21, 22, 23, 24, 25, 26, 27, 28, 29, 30, 31, 32, 33, 34, 35, 36, 37] (by decide +kernel) (by decide +kernel)
set_option maxRecDepth 20000 in
theorem gX8_formOf_X8_raised : GoodIn wsX8_formOf (wsV RX8 90 RX8 yX8_raised wsX8_raised) := goodIn_app (goodIn_of _ (by decide +kernel)) ggX8_formOf_X8_raised
theorem dX8_formOf_0 : decode cX8_formOf 0 = .ok (.aload_n 0, 1) := by decide +kernel
theorem dX8_formOf_1 : decode cX8_formOf 1 = .ok (.iload_n 1, 1) := by decide +kernel
theorem dX8_formOf_2 : decode cX8_formOf 2 = .ok (.ifCond .ne 7, 3) := by decide +kernel
theorem dX8_formOf_5 : decode cX8_formOf 5 = .ok (.iload_n 2, 1) := by decide +kernel
theorem dX8_formOf_6 : decode cX8_formOf 6 = .ok (.goto 14, 3) := by decide +kernel
theorem dX8_formOf_9 : decode cX8_formOf 9 = .ok (.iload_n 2, 1) := by decide +kernel
theorem dX8_formOf_10 : decode cX8_formOf 10 = .ok (.aload_n 0, 1) := by decide +kernel
theorem dX8_formOf_11 : decode cX8_formOf 11 = .ok (.getfield 13, 3) := by decide +kernel
theorem dX8_formOf_14 : decode cX8_formOf 14 = .ok (.iadd, 1) := by decide +kernel
theorem dX8_formOf_15 : decode cX8_formOf 15 = .ok (.aload_n 0, 1) := by decide +kernel
theorem dX8_formOf_16 : decode cX8_formOf 16 = .ok (.getfield 7, 3) := by decide +kernel
theorem dX8_formOf_19 : decode cX8_formOf 19 = .ok (.irem, 1) := by decide +kernel
theorem dX8_formOf_20 : decode cX8_formOf 20 = .ok (.iload_n 3, 1) := by decide +kernel
theorem dX8_formOf_21 : decode cX8_formOf 21 = .ok (.invokevirtual 90, 3) := by decide +kernel
theorem dX8_formOf_24 : decode cX8_formOf 24 = .ok (.istore 4, 2) := by decide +kernel
theorem dX8_formOf_26 : decode cX8_formOf 26 = .ok (.iload_n 1, 1) := by decide +kernel
theorem dX8_formOf_27 : decode cX8_formOf 27 = .ok (.iconst 2, 1) := by decide +kernel
theorem dX8_formOf_28 : decode cX8_formOf 28 = .ok (.if_icmp .ne 23, 3) := by decide +kernel
theorem dX8_formOf_31 : decode cX8_formOf 31 = .ok (.aload_n 0, 1) := by decide +kernel
theorem dX8_formOf_32 : decode cX8_formOf 32 = .ok (.getfield 16, 3) := by decide +kernel
theorem dX8_formOf_35 : decode cX8_formOf 35 = .ok (.aload_n 0, 1) := by decide +kernel
theorem dX8_formOf_36 : decode cX8_formOf 36 = .ok (.getfield 7, 3) := by decide +kernel
theorem dX8_formOf_39 : decode cX8_formOf 39 = .ok (.irem, 1) := by decide +kernel
theorem dX8_formOf_40 : decode cX8_formOf 40 = .ok (.iload 4, 2) := by decide +kernel
theorem dX8_formOf_42 : decode cX8_formOf 42 = .ok (.imul, 1) := by decide +kernel
theorem dX8_formOf_43 : decode cX8_formOf 43 = .ok (.aload_n 0, 1) := by decide +kernel
theorem dX8_formOf_44 : decode cX8_formOf 44 = .ok (.getfield 7, 3) := by decide +kernel
theorem dX8_formOf_47 : decode cX8_formOf 47 = .ok (.irem, 1) := by decide +kernel
theorem dX8_formOf_48 : decode cX8_formOf 48 = .ok (.goto 5, 3) := by decide +kernel
theorem dX8_formOf_51 : decode cX8_formOf 51 = .ok (.iload 4, 2) := by decide +kernel
theorem dX8_formOf_53 : decode cX8_formOf 53 = .ok (.ireturn, 1) := by decide +kernel
set_option maxRecDepth 20000 in
theorem ggX8_form_X8_in : GoodIn wsX8_form wsX8_in := goodIn_r _ [7] (by decide +kernel) (by decide +kernel)
set_option maxRecDepth 20000 in
theorem gX8_form_X8_in : GoodIn wsX8_form (va_wsS RX8 86 yX8_in wsX8_in) := goodIn_app (goodIn_of _ (by decide +kernel)) ggX8_form_X8_in
set_option maxRecDepth 20000 in
theorem ggX8_form_X8_isNumber : GoodIn wsX8_form wsX8_isNumber := goodIn_r _ [11, 12, 4, 5, 6, 7, 23, 24, 25, 26, 27, 28, 29, 30, 31, 32, 33, 34, 35, 36, 37, 38, 39, 40, 41, 42, 43, 44, 45, 46, 47, 48, 49, 50, 51] (by decide +kernel) (by decide +kernel)
set_option maxRecDepth 20000 in
theorem gX8_form_X8_isNumber : GoodIn wsX8_form (wsV RX8 94 RX8 yX8_isNumber wsX8_isNumber) := goodIn_app (goodIn_of _ (by decide +kernel)) ggX8_form_X8_isNumber
set_option maxRecDepth 20000 in
theorem ggX8_form_X8_formOf : GoodIn wsX8_form wsX8_formOf := goodIn_r _ [16, 17, 12, 18, 19, 20, 21, 6, 22, 23, 24, 25, 26, 27, 28, 29, 30, 31, 32, 33, 34, 35, 36, 37, 38, 39, 40, 41, 42, 43, 44, 45, 46, 47, 48, 49, 50, 51] (by decide +kernel) (by decide +kernel)
set_option maxRecDepth 20000 in
theorem gX8_form_X8_formOf : GoodIn wsX8_form (wsV RX8 106 RX8 yX8_formOf wsX8_formOf) := goodIn_app (goodIn_of _ (by decide +kernel)) ggX8_form_X8_formOf
theorem dX8_form_0 : decode cX8_form 0 = .ok (.iload_n 1, 1) := by decide +kernel
theorem dX8_form_1 : decode cX8_form 1 = .ok (.iconst 0, 1) := by decide +kernel
theorem dX8_form_2 : decode cX8_form 2 = .ok (.iconst 2, 1) := by decide +kernel
theorem dX8_form_3 : decode cX8_form 3 = .ok (.invokestatic 86, 3) := by decide +kernel
theorem dX8_form_6 : decode cX8_form 6 = .ok (.ifCond .eq 20, 3) := by decide +kernel
theorem dX8_form_9 : decode cX8_form 9 = .ok (.aload_n 0, 1) := by decide +kernel
theorem dX8_form_10 : decode cX8_form 10 = .ok (.iload_n 2, 1) := by decide +kernel
theorem dX8_form_11 : decode cX8_form 11 = .ok (.invokevirtual 94, 3) := by decide +kernel
theorem dX8_form_14 : decode cX8_form 14 = .ok (.ifCond .eq 12, 3) := by decide +kernel
theorem dX8_form_17 : decode cX8_form 17 = .ok (.iload_n 3, 1) := by decide +kernel
theorem dX8_form_18 : decode cX8_form 18 = .ok (.iconst 0, 1) := by decide +kernel
theorem dX8_form_19 : decode cX8_form 19 = .ok (.iconst 4, 1) := by decide +kernel
theorem dX8_form_20 : decode cX8_form 20 = .ok (.invokestatic 86, 3) := by decide +kernel
theorem dX8_form_23 : decode cX8_form 23 = .ok (.ifCond .ne 5, 3) := by decide +kernel
theorem dX8_form_26 : decode cX8_form 26 = .ok (.iconst (-1), 1) := by decide +kernel
theorem dX8_form_27 : decode cX8_form 27 = .ok (.ireturn, 1) := by decide +kernel
theorem dX8_form_28 : decode cX8_form 28 = .ok (.aload_n 0, 1) := by decide +kernel
theorem dX8_form_29 : decode cX8_form 29 = .ok (.dup, 1) := by decide +kernel
theorem dX8_form_30 : decode cX8_form 30 = .ok (.getfield 98, 3) := by decide +kernel
theorem dX8_form_33 : decode cX8_form 33 = .ok (.iload_n 1, 1) := by decide +kernel
theorem dX8_form_34 : decode cX8_form 34 = .ok (.ifCond .ne 7, 3) := by decide +kernel
theorem dX8_form_37 : decode cX8_form 37 = .ok (.lconst 1, 1) := by decide +kernel
theorem dX8_form_38 : decode cX8_form 38 = .ok (.goto 17, 3) := by decide +kernel
theorem dX8_form_41 : decode cX8_form 41 = .ok (.iload_n 1, 1) := by decide +kernel
theorem dX8_form_42 : decode cX8_form 42 = .ok (.iconst 1, 1) := by decide +kernel
theorem dX8_form_43 : decode cX8_form 43 = .ok (.if_icmp .ne 9, 3) := by decide +kernel
theorem dX8_form_46 : decode cX8_form 46 = .ok (.ldc2_w 102, 3) := by decide +kernel
theorem dX8_form_49 : decode cX8_form 49 = .ok (.goto 6, 3) := by decide +kernel
theorem dX8_form_52 : decode cX8_form 52 = .ok (.ldc2_w 104, 3) := by decide +kernel
theorem dX8_form_55 : decode cX8_form 55 = .ok (.ladd, 1) := by decide +kernel
theorem dX8_form_56 : decode cX8_form 56 = .ok (.putfield 98, 3) := by decide +kernel
theorem dX8_form_59 : decode cX8_form 59 = .ok (.aload_n 0, 1) := by decide +kernel
theorem dX8_form_60 : decode cX8_form 60 = .ok (.iload_n 1, 1) := by decide +kernel
theorem dX8_form_61 : decode cX8_form 61 = .ok (.iload_n 2, 1) := by decide +kernel
theorem dX8_form_62 : decode cX8_form 62 = .ok (.iload_n 3, 1) := by decide +kernel
theorem dX8_form_63 : decode cX8_form 63 = .ok (.invokevirtual 106, 3) := by decide +kernel
theorem dX8_form_66 : decode cX8_form 66 = .ok (.ireturn, 1) := by decide +kernel
set_option maxRecDepth 20000 in
theorem ggX8_term_X8_isBox : GoodIn wsX8_term wsX8_isBox := goodIn_r _ [10, 11, 12, 9, 13] (by decide +kernel) (by decide +kernel)
set_option maxRecDepth 20000 in
theorem gX8_term_X8_isBox : GoodIn wsX8_term (va_wsS RX8 110 yX8_isBox wsX8_isBox) := goodIn_app (goodIn_of _ (by decide +kernel)) ggX8_term_X8_isBox
set_option maxRecDepth 20000 in
theorem ggX8_term_X8_in : GoodIn wsX8_term wsX8_in := goodIn_r _ [13] (by decide +kernel) (by decide +kernel)
set_option maxRecDepth 20000 in
theorem gX8_term_X8_in : GoodIn wsX8_term (va_wsS RX8 86 yX8_in wsX8_in) := goodIn_app (goodIn_of _ (by decide +kernel)) ggX8_term_X8_in
theorem dX8_term_0 : decode cX8_term 0 = .ok (.iload_n 1, 1) := by decide +kernel
theorem dX8_term_1 : decode cX8_term 1 = .ok (.invokestatic 110, 3) := by decide +kernel
theorem dX8_term_4 : decode cX8_term 4 = .ok (.ifCond .eq 46, 3) := by decide +kernel
theorem dX8_term_7 : decode cX8_term 7 = .ok (.iload_n 2, 1) := by decide +kernel
theorem dX8_term_8 : decode cX8_term 8 = .ok (.iconst 1, 1) := by decide +kernel
theorem dX8_term_9 : decode cX8_term 9 = .ok (.aload_n 0, 1) := by decide +kernel
theorem dX8_term_10 : decode cX8_term 10 = .ok (.getfield 7, 3) := by decide +kernel
theorem dX8_term_13 : decode cX8_term 13 = .ok (.iconst 1, 1) := by decide +kernel
theorem dX8_term_14 : decode cX8_term 14 = .ok (.isub, 1) := by decide +kernel
theorem dX8_term_15 : decode cX8_term 15 = .ok (.invokestatic 86, 3) := by decide +kernel
theorem dX8_term_18 : decode cX8_term 18 = .ok (.ifCond .eq 32, 3) := by decide +kernel
theorem dX8_term_21 : decode cX8_term 21 = .ok (.iload_n 3, 1) := by decide +kernel
theorem dX8_term_22 : decode cX8_term 22 = .ok (.iconst 0, 1) := by decide +kernel
theorem dX8_term_23 : decode cX8_term 23 = .ok (.iconst 4, 1) := by decide +kernel
theorem dX8_term_24 : decode cX8_term 24 = .ok (.invokestatic 86, 3) := by decide +kernel
theorem dX8_term_27 : decode cX8_term 27 = .ok (.ifCond .eq 23, 3) := by decide +kernel
theorem dX8_term_30 : decode cX8_term 30 = .ok (.iload 4, 2) := by decide +kernel
theorem dX8_term_32 : decode cX8_term 32 = .ok (.iconst 0, 1) := by decide +kernel
theorem dX8_term_33 : decode cX8_term 33 = .ok (.iconst 4, 1) := by decide +kernel
theorem dX8_term_34 : decode cX8_term 34 = .ok (.invokestatic 86, 3) := by decide +kernel
theorem dX8_term_37 : decode cX8_term 37 = .ok (.ifCond .eq 13, 3) := by decide +kernel
theorem dX8_term_40 : decode cX8_term 40 = .ok (.iload 5, 2) := by decide +kernel
theorem dX8_term_42 : decode cX8_term 42 = .ok (.iconst 0, 1) := by decide +kernel
theorem dX8_term_43 : decode cX8_term 43 = .ok (.iconst 4, 1) := by decide +kernel
theorem dX8_term_44 : decode cX8_term 44 = .ok (.invokestatic 86, 3) := by decide +kernel
theorem dX8_term_47 : decode cX8_term 47 = .ok (.ifCond .ne 5, 3) := by decide +kernel
theorem dX8_term_50 : decode cX8_term 50 = .ok (.iconst (-1), 1) := by decide +kernel
theorem dX8_term_51 : decode cX8_term 51 = .ok (.ireturn, 1) := by decide +kernel
theorem dX8_term_52 : decode cX8_term 52 = .ok (.aload_n 0, 1) := by decide +kernel
theorem dX8_term_53 : decode cX8_term 53 = .ok (.getfield 23, 3) := by decide +kernel
theorem dX8_term_56 : decode cX8_term 56 = .ok (.iload_n 1, 1) := by decide +kernel
theorem dX8_term_57 : decode cX8_term 57 = .ok (.iaload, 1) := by decide +kernel
theorem dX8_term_58 : decode cX8_term 58 = .ok (.iconst 4, 1) := by decide +kernel
theorem dX8_term_59 : decode cX8_term 59 = .ok (.if_icmp .ne 6, 3) := by decide +kernel
theorem dX8_term_62 : decode cX8_term 62 = .ok (.bipush (-3), 2) := by decide +kernel
theorem dX8_term_64 : decode cX8_term 64 = .ok (.ireturn, 1) := by decide +kernel
theorem dX8_term_65 : decode cX8_term 65 = .ok (.iconst 4, 1) := by decide +kernel
theorem dX8_term_66 : decode cX8_term 66 = .ok (.iload_n 1, 1) := by decide +kernel
theorem dX8_term_67 : decode cX8_term 67 = .ok (.imul, 1) := by decide +kernel
theorem dX8_term_68 : decode cX8_term 68 = .ok (.aload_n 0, 1) := by decide +kernel
theorem dX8_term_69 : decode cX8_term 69 = .ok (.getfield 23, 3) := by decide +kernel
theorem dX8_term_72 : decode cX8_term 72 = .ok (.iload_n 1, 1) := by decide +kernel
theorem dX8_term_73 : decode cX8_term 73 = .ok (.iaload, 1) := by decide +kernel
theorem dX8_term_74 : decode cX8_term 74 = .ok (.iadd, 1) := by decide +kernel
theorem dX8_term_75 : decode cX8_term 75 = .ok (.istore 6, 2) := by decide +kernel
theorem dX8_term_77 : decode cX8_term 77 = .ok (.aload_n 0, 1) := by decide +kernel
theorem dX8_term_78 : decode cX8_term 78 = .ok (.getfield 26, 3) := by decide +kernel
theorem dX8_term_81 : decode cX8_term 81 = .ok (.iload 6, 2) := by decide +kernel
theorem dX8_term_83 : decode cX8_term 83 = .ok (.iload_n 2, 1) := by decide +kernel
theorem dX8_term_84 : decode cX8_term 84 = .ok (.iastore, 1) := by decide +kernel
theorem dX8_term_85 : decode cX8_term 85 = .ok (.aload_n 0, 1) := by decide +kernel
theorem dX8_term_86 : decode cX8_term 86 = .ok (.getfield 29, 3) := by decide +kernel
theorem dX8_term_89 : decode cX8_term 89 = .ok (.iload 6, 2) := by decide +kernel
theorem dX8_term_91 : decode cX8_term 91 = .ok (.iload_n 3, 1) := by decide +kernel
theorem dX8_term_92 : decode cX8_term 92 = .ok (.iastore, 1) := by decide +kernel
theorem dX8_term_93 : decode cX8_term 93 = .ok (.aload_n 0, 1) := by decide +kernel
theorem dX8_term_94 : decode cX8_term 94 = .ok (.getfield 32, 3) := by decide +kernel
theorem dX8_term_97 : decode cX8_term 97 = .ok (.iload 6, 2) := by decide +kernel
theorem dX8_term_99 : decode cX8_term 99 = .ok (.iload 4, 2) := by decide +kernel
theorem dX8_term_101 : decode cX8_term 101 = .ok (.iastore, 1) := by decide +kernel
theorem dX8_term_102 : decode cX8_term 102 = .ok (.aload_n 0, 1) := by decide +kernel
theorem dX8_term_103 : decode cX8_term 103 = .ok (.getfield 35, 3) := by decide +kernel
theorem dX8_term_106 : decode cX8_term 106 = .ok (.iload 6, 2) := by decide +kernel
theorem dX8_term_108 : decode cX8_term 108 = .ok (.iload 5, 2) := by decide +kernel
theorem dX8_term_110 : decode cX8_term 110 = .ok (.iastore, 1) := by decide +kernel
theorem dX8_term_111 : decode cX8_term 111 = .ok (.aload_n 0, 1) := by decide +kernel
theorem dX8_term_112 : decode cX8_term 112 = .ok (.getfield 23, 3) := by decide +kernel
theorem dX8_term_115 : decode cX8_term 115 = .ok (.iload_n 1, 1) := by decide +kernel
theorem dX8_term_116 : decode cX8_term 116 = .ok (.dup2, 1) := by decide +kernel
theorem dX8_term_117 : decode cX8_term 117 = .ok (.iaload, 1) := by decide +kernel
theorem dX8_term_118 : decode cX8_term 118 = .ok (.iconst 1, 1) := by decide +kernel
theorem dX8_term_119 : decode cX8_term 119 = .ok (.iadd, 1) := by decide +kernel
theorem dX8_term_120 : decode cX8_term 120 = .ok (.iastore, 1) := by decide +kernel
theorem dX8_term_121 : decode cX8_term 121 = .ok (.aload_n 0, 1) := by decide +kernel
theorem dX8_term_122 : decode cX8_term 122 = .ok (.getfield 23, 3) := by decide +kernel
theorem dX8_term_125 : decode cX8_term 125 = .ok (.iload_n 1, 1) := by decide +kernel
theorem dX8_term_126 : decode cX8_term 126 = .ok (.iaload, 1) := by decide +kernel
theorem dX8_term_127 : decode cX8_term 127 = .ok (.iconst 1, 1) := by decide +kernel
theorem dX8_term_128 : decode cX8_term 128 = .ok (.isub, 1) := by decide +kernel
theorem dX8_term_129 : decode cX8_term 129 = .ok (.ireturn, 1) := by decide +kernel
set_option maxRecDepth 20000 in
theorem ggX8_empty_X8_isBox : GoodIn wsX8_empty wsX8_isBox := goodIn_r _ [5, 6, 7, 4, 8] (by decide +kernel) (by decide +kernel)
set_option maxRecDepth 20000 in
theorem gX8_empty_X8_isBox : GoodIn wsX8_empty (va_wsS RX8 110 yX8_isBox wsX8_isBox) := goodIn_app (goodIn_of _ (by decide +kernel)) ggX8_empty_X8_isBox
theorem dX8_empty_0 : decode cX8_empty 0 = .ok (.iload_n 1, 1) := by decide +kernel
theorem dX8_empty_1 : decode cX8_empty 1 = .ok (.invokestatic 110, 3) := by decide +kernel
theorem dX8_empty_4 : decode cX8_empty 4 = .ok (.ifCond .ne 5, 3) := by decide +kernel
theorem dX8_empty_7 : decode cX8_empty 7 = .ok (.iconst (-1), 1) := by decide +kernel
theorem dX8_empty_8 : decode cX8_empty 8 = .ok (.ireturn, 1) := by decide +kernel
theorem dX8_empty_9 : decode cX8_empty 9 = .ok (.aload_n 0, 1) := by decide +kernel
theorem dX8_empty_10 : decode cX8_empty 10 = .ok (.getfield 23, 3) := by decide +kernel
theorem dX8_empty_13 : decode cX8_empty 13 = .ok (.iload_n 1, 1) := by decide +kernel
theorem dX8_empty_14 : decode cX8_empty 14 = .ok (.iaload, 1) := by decide +kernel
theorem dX8_empty_15 : decode cX8_empty 15 = .ok (.istore_n 2, 1) := by decide +kernel
theorem dX8_empty_16 : decode cX8_empty 16 = .ok (.aload_n 0, 1) := by decide +kernel
theorem dX8_empty_17 : decode cX8_empty 17 = .ok (.getfield 23, 3) := by decide +kernel
theorem dX8_empty_20 : decode cX8_empty 20 = .ok (.iload_n 1, 1) := by decide +kernel
theorem dX8_empty_21 : decode cX8_empty 21 = .ok (.iconst 0, 1) := by decide +kernel
theorem dX8_empty_22 : decode cX8_empty 22 = .ok (.iastore, 1) := by decide +kernel
theorem dX8_empty_23 : decode cX8_empty 23 = .ok (.iload_n 2, 1) := by decide +kernel
theorem dX8_empty_24 : decode cX8_empty 24 = .ok (.ireturn, 1) := by decide +kernel
set_option maxRecDepth 20000 in
theorem ggX8_answer_X8_formOf : GoodIn wsX8_answer wsX8_formOf := goodIn_r _ [12, 13, 5, 14, 15, 16, 17, 11, 18, 19, 20, 21, 22, 23, 24, 25, 26, 27, 28, 29, 30, 31, 32, 33, 34, 35, 36, 37, 38, 39, 40, 41, 42, 43, 44, 45, 46, 47] (by decide +kernel) (by decide +kernel)
set_option maxRecDepth 20000 in
theorem gX8_answer_X8_formOf : GoodIn wsX8_answer (wsV RX8 106 RX8 yX8_formOf wsX8_formOf) := goodIn_app (goodIn_of _ (by decide +kernel)) ggX8_answer_X8_formOf
theorem dX8_answer_0 : decode cX8_answer 0 = .ok (.iconst 0, 1) := by decide +kernel
theorem dX8_answer_1 : decode cX8_answer 1 = .ok (.istore 5, 2) := by decide +kernel
theorem dX8_answer_3 : decode cX8_answer 3 = .ok (.iconst 4, 1) := by decide +kernel
theorem dX8_answer_4 : decode cX8_answer 4 = .ok (.iload_n 1, 1) := by decide +kernel
theorem dX8_answer_5 : decode cX8_answer 5 = .ok (.imul, 1) := by decide +kernel
theorem dX8_answer_6 : decode cX8_answer 6 = .ok (.istore 6, 2) := by decide +kernel
theorem dX8_answer_8 : decode cX8_answer 8 = .ok (.iload 6, 2) := by decide +kernel
theorem dX8_answer_10 : decode cX8_answer 10 = .ok (.iconst 4, 1) := by decide +kernel
theorem dX8_answer_11 : decode cX8_answer 11 = .ok (.iload_n 1, 1) := by decide +kernel
theorem dX8_answer_12 : decode cX8_answer 12 = .ok (.imul, 1) := by decide +kernel
theorem dX8_answer_13 : decode cX8_answer 13 = .ok (.aload_n 0, 1) := by decide +kernel
theorem dX8_answer_14 : decode cX8_answer 14 = .ok (.getfield 23, 3) := by decide +kernel
theorem dX8_answer_17 : decode cX8_answer 17 = .ok (.iload_n 1, 1) := by decide +kernel
theorem dX8_answer_18 : decode cX8_answer 18 = .ok (.iaload, 1) := by decide +kernel
theorem dX8_answer_19 : decode cX8_answer 19 = .ok (.iadd, 1) := by decide +kernel
theorem dX8_answer_20 : decode cX8_answer 20 = .ok (.if_icmp .ge 102, 3) := by decide +kernel
theorem dX8_answer_23 : decode cX8_answer 23 = .ok (.aload_n 0, 1) := by decide +kernel
theorem dX8_answer_24 : decode cX8_answer 24 = .ok (.getfield 26, 3) := by decide +kernel
theorem dX8_answer_27 : decode cX8_answer 27 = .ok (.iload 6, 2) := by decide +kernel
theorem dX8_answer_29 : decode cX8_answer 29 = .ok (.iaload, 1) := by decide +kernel
theorem dX8_answer_30 : decode cX8_answer 30 = .ok (.aload_n 0, 1) := by decide +kernel
theorem dX8_answer_31 : decode cX8_answer 31 = .ok (.aload_n 0, 1) := by decide +kernel
theorem dX8_answer_32 : decode cX8_answer 32 = .ok (.getfield 19, 3) := by decide +kernel
theorem dX8_answer_35 : decode cX8_answer 35 = .ok (.iload_n 1, 1) := by decide +kernel
theorem dX8_answer_36 : decode cX8_answer 36 = .ok (.iaload, 1) := by decide +kernel
theorem dX8_answer_37 : decode cX8_answer 37 = .ok (.iload_n 2, 1) := by decide +kernel
theorem dX8_answer_38 : decode cX8_answer 38 = .ok (.aload_n 0, 1) := by decide +kernel
theorem dX8_answer_39 : decode cX8_answer 39 = .ok (.getfield 29, 3) := by decide +kernel
theorem dX8_answer_42 : decode cX8_answer 42 = .ok (.iload 6, 2) := by decide +kernel
theorem dX8_answer_44 : decode cX8_answer 44 = .ok (.iaload, 1) := by decide +kernel
theorem dX8_answer_45 : decode cX8_answer 45 = .ok (.invokevirtual 106, 3) := by decide +kernel
theorem dX8_answer_48 : decode cX8_answer 48 = .ok (.imul, 1) := by decide +kernel
theorem dX8_answer_49 : decode cX8_answer 49 = .ok (.aload_n 0, 1) := by decide +kernel
theorem dX8_answer_50 : decode cX8_answer 50 = .ok (.getfield 7, 3) := by decide +kernel
theorem dX8_answer_53 : decode cX8_answer 53 = .ok (.irem, 1) := by decide +kernel
theorem dX8_answer_54 : decode cX8_answer 54 = .ok (.istore 7, 2) := by decide +kernel
theorem dX8_answer_56 : decode cX8_answer 56 = .ok (.iload 7, 2) := by decide +kernel
theorem dX8_answer_58 : decode cX8_answer 58 = .ok (.aload_n 0, 1) := by decide +kernel
theorem dX8_answer_59 : decode cX8_answer 59 = .ok (.aload_n 0, 1) := by decide +kernel
theorem dX8_answer_60 : decode cX8_answer 60 = .ok (.getfield 19, 3) := by decide +kernel
theorem dX8_answer_63 : decode cX8_answer 63 = .ok (.iload_n 1, 1) := by decide +kernel
theorem dX8_answer_64 : decode cX8_answer 64 = .ok (.iaload, 1) := by decide +kernel
theorem dX8_answer_65 : decode cX8_answer 65 = .ok (.iload_n 3, 1) := by decide +kernel
theorem dX8_answer_66 : decode cX8_answer 66 = .ok (.aload_n 0, 1) := by decide +kernel
theorem dX8_answer_67 : decode cX8_answer 67 = .ok (.getfield 32, 3) := by decide +kernel
theorem dX8_answer_70 : decode cX8_answer 70 = .ok (.iload 6, 2) := by decide +kernel
theorem dX8_answer_72 : decode cX8_answer 72 = .ok (.iaload, 1) := by decide +kernel
theorem dX8_answer_73 : decode cX8_answer 73 = .ok (.invokevirtual 106, 3) := by decide +kernel
theorem dX8_answer_76 : decode cX8_answer 76 = .ok (.imul, 1) := by decide +kernel
theorem dX8_answer_77 : decode cX8_answer 77 = .ok (.aload_n 0, 1) := by decide +kernel
theorem dX8_answer_78 : decode cX8_answer 78 = .ok (.getfield 7, 3) := by decide +kernel
theorem dX8_answer_81 : decode cX8_answer 81 = .ok (.irem, 1) := by decide +kernel
theorem dX8_answer_82 : decode cX8_answer 82 = .ok (.istore 7, 2) := by decide +kernel
theorem dX8_answer_84 : decode cX8_answer 84 = .ok (.iload 5, 2) := by decide +kernel
theorem dX8_answer_86 : decode cX8_answer 86 = .ok (.iload 7, 2) := by decide +kernel
theorem dX8_answer_88 : decode cX8_answer 88 = .ok (.aload_n 0, 1) := by decide +kernel
theorem dX8_answer_89 : decode cX8_answer 89 = .ok (.aload_n 0, 1) := by decide +kernel
theorem dX8_answer_90 : decode cX8_answer 90 = .ok (.getfield 19, 3) := by decide +kernel
theorem dX8_answer_93 : decode cX8_answer 93 = .ok (.iload_n 1, 1) := by decide +kernel
theorem dX8_answer_94 : decode cX8_answer 94 = .ok (.iaload, 1) := by decide +kernel
theorem dX8_answer_95 : decode cX8_answer 95 = .ok (.iload 4, 2) := by decide +kernel
theorem dX8_answer_97 : decode cX8_answer 97 = .ok (.aload_n 0, 1) := by decide +kernel
theorem dX8_answer_98 : decode cX8_answer 98 = .ok (.getfield 35, 3) := by decide +kernel
theorem dX8_answer_101 : decode cX8_answer 101 = .ok (.iload 6, 2) := by decide +kernel
theorem dX8_answer_103 : decode cX8_answer 103 = .ok (.iaload, 1) := by decide +kernel
theorem dX8_answer_104 : decode cX8_answer 104 = .ok (.invokevirtual 106, 3) := by decide +kernel
theorem dX8_answer_107 : decode cX8_answer 107 = .ok (.imul, 1) := by decide +kernel
theorem dX8_answer_108 : decode cX8_answer 108 = .ok (.iadd, 1) := by decide +kernel
theorem dX8_answer_109 : decode cX8_answer 109 = .ok (.aload_n 0, 1) := by decide +kernel
theorem dX8_answer_110 : decode cX8_answer 110 = .ok (.getfield 7, 3) := by decide +kernel
theorem dX8_answer_113 : decode cX8_answer 113 = .ok (.irem, 1) := by decide +kernel
theorem dX8_answer_114 : decode cX8_answer 114 = .ok (.istore 5, 2) := by decide +kernel
theorem dX8_answer_116 : decode cX8_answer 116 = .ok (.iinc 6 1, 3) := by decide +kernel
theorem dX8_answer_119 : decode cX8_answer 119 = .ok (.goto (-111), 3) := by decide +kernel
theorem dX8_answer_122 : decode cX8_answer 122 = .ok (.iload 5, 2) := by decide +kernel
theorem dX8_answer_124 : decode cX8_answer 124 = .ok (.ireturn, 1) := by decide +kernel
set_option maxRecDepth 20000 in
theorem ggX8_ask_X8_isBox : GoodIn wsX8_ask wsX8_isBox := goodIn_r _ [5, 6, 7, 4, 8] (by decide +kernel) (by decide +kernel)
set_option maxRecDepth 20000 in
theorem gX8_ask_X8_isBox : GoodIn wsX8_ask (va_wsS RX8 110 yX8_isBox wsX8_isBox) := goodIn_app (goodIn_of _ (by decide +kernel)) ggX8_ask_X8_isBox
set_option maxRecDepth 20000 in
theorem ggX8_ask_X8_isNumber : GoodIn wsX8_ask wsX8_isNumber := goodIn_r _ [12, 13, 6, 7, 4, 8, 34, 35, 36, 37, 38, 39, 40, 41, 42, 43, 44, 45, 46, 47, 48, 49, 50, 51, 52, 53, 54, 55, 56, 57, 58, 59, 60, 61, 62] (by decide +kernel) (by decide +kernel)
set_option maxRecDepth 20000 in
theorem gX8_ask_X8_isNumber : GoodIn wsX8_ask (wsV RX8 94 RX8 yX8_isNumber wsX8_isNumber) := goodIn_app (goodIn_of _ (by decide +kernel)) ggX8_ask_X8_isNumber
set_option maxRecDepth 20000 in
theorem ggX8_ask_X8_answer : GoodIn wsX8_ask wsX8_answer := goodIn_r _ [17, 18, 19, 20, 21, 13, 22, 23, 24, 25, 26, 4, 27, 28, 29, 30, 31, 32, 33, 34, 35, 36, 37, 38, 39, 40, 41, 42, 43, 44, 45, 46, 47, 48, 49, 50, 51, 52, 53, 54, 55, 56, 57, 58, 59, 60, 61, 62] (by decide +kernel) (by decide +kernel)
set_option maxRecDepth 20000 in
theorem gX8_ask_X8_answer : GoodIn wsX8_ask (wsV RX8 116 RX8 yX8_answer wsX8_answer) := goodIn_app (goodIn_of _ (by decide +kernel)) ggX8_ask_X8_answer
theorem dX8_ask_0 : decode cX8_ask 0 = .ok (.iload_n 1, 1) := by decide +kernel
theorem dX8_ask_1 : decode cX8_ask 1 = .ok (.invokestatic 110, 3) := by decide +kernel
theorem dX8_ask_4 : decode cX8_ask 4 = .ok (.ifCond .eq 28, 3) := by decide +kernel
theorem dX8_ask_7 : decode cX8_ask 7 = .ok (.aload_n 0, 1) := by decide +kernel
theorem dX8_ask_8 : decode cX8_ask 8 = .ok (.iload_n 2, 1) := by decide +kernel
theorem dX8_ask_9 : decode cX8_ask 9 = .ok (.invokevirtual 94, 3) := by decide +kernel
theorem dX8_ask_12 : decode cX8_ask 12 = .ok (.ifCond .eq 20, 3) := by decide +kernel
theorem dX8_ask_15 : decode cX8_ask 15 = .ok (.aload_n 0, 1) := by decide +kernel
theorem dX8_ask_16 : decode cX8_ask 16 = .ok (.iload_n 3, 1) := by decide +kernel
theorem dX8_ask_17 : decode cX8_ask 17 = .ok (.invokevirtual 94, 3) := by decide +kernel
theorem dX8_ask_20 : decode cX8_ask 20 = .ok (.ifCond .eq 12, 3) := by decide +kernel
theorem dX8_ask_23 : decode cX8_ask 23 = .ok (.aload_n 0, 1) := by decide +kernel
theorem dX8_ask_24 : decode cX8_ask 24 = .ok (.iload 4, 2) := by decide +kernel
theorem dX8_ask_26 : decode cX8_ask 26 = .ok (.invokevirtual 94, 3) := by decide +kernel
theorem dX8_ask_29 : decode cX8_ask 29 = .ok (.ifCond .ne 5, 3) := by decide +kernel
theorem dX8_ask_32 : decode cX8_ask 32 = .ok (.iconst (-1), 1) := by decide +kernel
theorem dX8_ask_33 : decode cX8_ask 33 = .ok (.ireturn, 1) := by decide +kernel
theorem dX8_ask_34 : decode cX8_ask 34 = .ok (.aload_n 0, 1) := by decide +kernel
theorem dX8_ask_35 : decode cX8_ask 35 = .ok (.dup, 1) := by decide +kernel
theorem dX8_ask_36 : decode cX8_ask 36 = .ok (.getfield 113, 3) := by decide +kernel
theorem dX8_ask_39 : decode cX8_ask 39 = .ok (.iconst 1, 1) := by decide +kernel
theorem dX8_ask_40 : decode cX8_ask 40 = .ok (.iadd, 1) := by decide +kernel
theorem dX8_ask_41 : decode cX8_ask 41 = .ok (.putfield 113, 3) := by decide +kernel
theorem dX8_ask_44 : decode cX8_ask 44 = .ok (.aload_n 0, 1) := by decide +kernel
theorem dX8_ask_45 : decode cX8_ask 45 = .ok (.iload_n 1, 1) := by decide +kernel
theorem dX8_ask_46 : decode cX8_ask 46 = .ok (.iload_n 2, 1) := by decide +kernel
theorem dX8_ask_47 : decode cX8_ask 47 = .ok (.iload_n 3, 1) := by decide +kernel
theorem dX8_ask_48 : decode cX8_ask 48 = .ok (.iload 4, 2) := by decide +kernel
theorem dX8_ask_50 : decode cX8_ask 50 = .ok (.invokevirtual 116, 3) := by decide +kernel
theorem dX8_ask_53 : decode cX8_ask 53 = .ok (.ireturn, 1) := by decide +kernel
set_option maxRecDepth 20000 in
theorem ggX8_say_X8_isNumber : GoodIn wsX8_say wsX8_isNumber := goodIn_r _ [7, 8, 9, 10, 6, 11, 12, 13, 14, 15, 16, 17, 18, 19, 20, 21, 22, 23, 24, 25, 26, 27, 28, 29, 30, 31, 32, 33, 34, 35, 36, 37, 38, 39, 40] (by decide +kernel) (by decide +kernel)
set_option maxRecDepth 20000 in
theorem gX8_say_X8_isNumber : GoodIn wsX8_say (wsV RX8 94 RX8 yX8_isNumber wsX8_isNumber) := goodIn_app (goodIn_of _ (by decide +kernel)) ggX8_say_X8_isNumber
theorem dX8_say_0 : decode cX8_say 0 = .ok (.aload_n 0, 1) := by decide +kernel
theorem dX8_say_1 : decode cX8_say 1 = .ok (.iload_n 1, 1) := by decide +kernel
theorem dX8_say_2 : decode cX8_say 2 = .ok (.invokevirtual 94, 3) := by decide +kernel
theorem dX8_say_5 : decode cX8_say 5 = .ok (.ifCond .ne 5, 3) := by decide +kernel
theorem dX8_say_8 : decode cX8_say 8 = .ok (.iconst (-1), 1) := by decide +kernel
theorem dX8_say_9 : decode cX8_say 9 = .ok (.ireturn, 1) := by decide +kernel
theorem dX8_say_10 : decode cX8_say 10 = .ok (.aload_n 0, 1) := by decide +kernel
theorem dX8_say_11 : decode cX8_say 11 = .ok (.getfield 83, 3) := by decide +kernel
theorem dX8_say_14 : decode cX8_say 14 = .ok (.bipush 16, 2) := by decide +kernel
theorem dX8_say_16 : decode cX8_say 16 = .ok (.if_icmp .ne 6, 3) := by decide +kernel
theorem dX8_say_19 : decode cX8_say 19 = .ok (.bipush (-3), 2) := by decide +kernel
theorem dX8_say_21 : decode cX8_say 21 = .ok (.ireturn, 1) := by decide +kernel
theorem dX8_say_22 : decode cX8_say 22 = .ok (.aload_n 0, 1) := by decide +kernel
theorem dX8_say_23 : decode cX8_say 23 = .ok (.getfield 38, 3) := by decide +kernel
theorem dX8_say_26 : decode cX8_say 26 = .ok (.aload_n 0, 1) := by decide +kernel
theorem dX8_say_27 : decode cX8_say 27 = .ok (.getfield 83, 3) := by decide +kernel
theorem dX8_say_30 : decode cX8_say 30 = .ok (.iload_n 1, 1) := by decide +kernel
theorem dX8_say_31 : decode cX8_say 31 = .ok (.iastore, 1) := by decide +kernel
theorem dX8_say_32 : decode cX8_say 32 = .ok (.aload_n 0, 1) := by decide +kernel
theorem dX8_say_33 : decode cX8_say 33 = .ok (.dup, 1) := by decide +kernel
theorem dX8_say_34 : decode cX8_say 34 = .ok (.getfield 83, 3) := by decide +kernel
theorem dX8_say_37 : decode cX8_say 37 = .ok (.iconst 1, 1) := by decide +kernel
theorem dX8_say_38 : decode cX8_say 38 = .ok (.iadd, 1) := by decide +kernel
theorem dX8_say_39 : decode cX8_say 39 = .ok (.putfield 83, 3) := by decide +kernel
theorem dX8_say_42 : decode cX8_say 42 = .ok (.aload_n 0, 1) := by decide +kernel
theorem dX8_say_43 : decode cX8_say 43 = .ok (.getfield 83, 3) := by decide +kernel
theorem dX8_say_46 : decode cX8_say 46 = .ok (.ireturn, 1) := by decide +kernel
set_option maxRecDepth 20000 in
theorem ggX8_change_X8_in : GoodIn wsX8_change wsX8_in := goodIn_r _ [6] (by decide +kernel) (by decide +kernel)
set_option maxRecDepth 20000 in
theorem gX8_change_X8_in : GoodIn wsX8_change (va_wsS RX8 86 yX8_in wsX8_in) := goodIn_app (goodIn_of _ (by decide +kernel)) ggX8_change_X8_in
set_option maxRecDepth 20000 in
theorem ggX8_change_X8_isNumber : GoodIn wsX8_change wsX8_isNumber := goodIn_r _ [10, 11, 3, 4, 5, 6, 12, 13, 14, 15, 16, 17, 18, 19, 20, 21, 22, 23, 24, 25, 26, 27, 28, 29, 30, 31, 32, 33, 34, 35, 36, 37, 38, 39, 40] (by decide +kernel) (by decide +kernel)
set_option maxRecDepth 20000 in
theorem gX8_change_X8_isNumber : GoodIn wsX8_change (wsV RX8 94 RX8 yX8_isNumber wsX8_isNumber) := goodIn_app (goodIn_of _ (by decide +kernel)) ggX8_change_X8_isNumber
theorem dX8_change_0 : decode cX8_change 0 = .ok (.iload_n 1, 1) := by decide +kernel
theorem dX8_change_1 : decode cX8_change 1 = .ok (.iconst 0, 1) := by decide +kernel
theorem dX8_change_2 : decode cX8_change 2 = .ok (.aload_n 0, 1) := by decide +kernel
theorem dX8_change_3 : decode cX8_change 3 = .ok (.getfield 83, 3) := by decide +kernel
theorem dX8_change_6 : decode cX8_change 6 = .ok (.iconst 1, 1) := by decide +kernel
theorem dX8_change_7 : decode cX8_change 7 = .ok (.isub, 1) := by decide +kernel
theorem dX8_change_8 : decode cX8_change 8 = .ok (.invokestatic 86, 3) := by decide +kernel
theorem dX8_change_11 : decode cX8_change 11 = .ok (.ifCond .eq 11, 3) := by decide +kernel
theorem dX8_change_14 : decode cX8_change 14 = .ok (.aload_n 0, 1) := by decide +kernel
theorem dX8_change_15 : decode cX8_change 15 = .ok (.iload_n 2, 1) := by decide +kernel
theorem dX8_change_16 : decode cX8_change 16 = .ok (.invokevirtual 94, 3) := by decide +kernel
theorem dX8_change_19 : decode cX8_change 19 = .ok (.ifCond .ne 5, 3) := by decide +kernel
theorem dX8_change_22 : decode cX8_change 22 = .ok (.iconst (-1), 1) := by decide +kernel
theorem dX8_change_23 : decode cX8_change 23 = .ok (.ireturn, 1) := by decide +kernel
theorem dX8_change_24 : decode cX8_change 24 = .ok (.aload_n 0, 1) := by decide +kernel
theorem dX8_change_25 : decode cX8_change 25 = .ok (.getfield 38, 3) := by decide +kernel
theorem dX8_change_28 : decode cX8_change 28 = .ok (.iload_n 1, 1) := by decide +kernel
theorem dX8_change_29 : decode cX8_change 29 = .ok (.iaload, 1) := by decide +kernel
theorem dX8_change_30 : decode cX8_change 30 = .ok (.istore_n 3, 1) := by decide +kernel
theorem dX8_change_31 : decode cX8_change 31 = .ok (.aload_n 0, 1) := by decide +kernel
theorem dX8_change_32 : decode cX8_change 32 = .ok (.getfield 38, 3) := by decide +kernel
theorem dX8_change_35 : decode cX8_change 35 = .ok (.iload_n 1, 1) := by decide +kernel
theorem dX8_change_36 : decode cX8_change 36 = .ok (.iload_n 2, 1) := by decide +kernel
theorem dX8_change_37 : decode cX8_change 37 = .ok (.iastore, 1) := by decide +kernel
theorem dX8_change_38 : decode cX8_change 38 = .ok (.iload_n 3, 1) := by decide +kernel
theorem dX8_change_39 : decode cX8_change 39 = .ok (.ireturn, 1) := by decide +kernel
theorem dX8_clear_0 : decode cX8_clear 0 = .ok (.aload_n 0, 1) := by decide +kernel
theorem dX8_clear_1 : decode cX8_clear 1 = .ok (.getfield 83, 3) := by decide +kernel
theorem dX8_clear_4 : decode cX8_clear 4 = .ok (.istore_n 1, 1) := by decide +kernel
theorem dX8_clear_5 : decode cX8_clear 5 = .ok (.aload_n 0, 1) := by decide +kernel
theorem dX8_clear_6 : decode cX8_clear 6 = .ok (.iconst 0, 1) := by decide +kernel
theorem dX8_clear_7 : decode cX8_clear 7 = .ok (.putfield 83, 3) := by decide +kernel
theorem dX8_clear_10 : decode cX8_clear 10 = .ok (.iload_n 1, 1) := by decide +kernel
theorem dX8_clear_11 : decode cX8_clear 11 = .ok (.ireturn, 1) := by decide +kernel
theorem dX8_over_0 : decode cX8_over 0 = .ok (.iconst 1, 1) := by decide +kernel
theorem dX8_over_1 : decode cX8_over 1 = .ok (.istore_n 2, 1) := by decide +kernel
theorem dX8_over_2 : decode cX8_over 2 = .ok (.iload_n 1, 1) := by decide +kernel
theorem dX8_over_3 : decode cX8_over 3 = .ok (.istore_n 3, 1) := by decide +kernel
theorem dX8_over_4 : decode cX8_over 4 = .ok (.aload_n 0, 1) := by decide +kernel
theorem dX8_over_5 : decode cX8_over 5 = .ok (.getfield 7, 3) := by decide +kernel
theorem dX8_over_8 : decode cX8_over 8 = .ok (.iconst 2, 1) := by decide +kernel
theorem dX8_over_9 : decode cX8_over 9 = .ok (.isub, 1) := by decide +kernel
theorem dX8_over_10 : decode cX8_over 10 = .ok (.istore 4, 2) := by decide +kernel
theorem dX8_over_12 : decode cX8_over 12 = .ok (.iload 4, 2) := by decide +kernel
theorem dX8_over_14 : decode cX8_over 14 = .ok (.ifCond .le 42, 3) := by decide +kernel
theorem dX8_over_17 : decode cX8_over 17 = .ok (.iload 4, 2) := by decide +kernel
theorem dX8_over_19 : decode cX8_over 19 = .ok (.iconst 1, 1) := by decide +kernel
theorem dX8_over_20 : decode cX8_over 20 = .ok (.iand, 1) := by decide +kernel
theorem dX8_over_21 : decode cX8_over 21 = .ok (.iconst 1, 1) := by decide +kernel
theorem dX8_over_22 : decode cX8_over 22 = .ok (.if_icmp .ne 14, 3) := by decide +kernel
theorem dX8_over_25 : decode cX8_over 25 = .ok (.iload_n 2, 1) := by decide +kernel
theorem dX8_over_26 : decode cX8_over 26 = .ok (.iload_n 3, 1) := by decide +kernel
theorem dX8_over_27 : decode cX8_over 27 = .ok (.imul, 1) := by decide +kernel
theorem dX8_over_28 : decode cX8_over 28 = .ok (.aload_n 0, 1) := by decide +kernel
theorem dX8_over_29 : decode cX8_over 29 = .ok (.getfield 7, 3) := by decide +kernel
theorem dX8_over_32 : decode cX8_over 32 = .ok (.irem, 1) := by decide +kernel
theorem dX8_over_33 : decode cX8_over 33 = .ok (.goto 4, 3) := by decide +kernel
theorem dX8_over_36 : decode cX8_over 36 = .ok (.iload_n 2, 1) := by decide +kernel
theorem dX8_over_37 : decode cX8_over 37 = .ok (.istore_n 2, 1) := by decide +kernel
theorem dX8_over_38 : decode cX8_over 38 = .ok (.iload_n 3, 1) := by decide +kernel
theorem dX8_over_39 : decode cX8_over 39 = .ok (.iload_n 3, 1) := by decide +kernel
theorem dX8_over_40 : decode cX8_over 40 = .ok (.imul, 1) := by decide +kernel
theorem dX8_over_41 : decode cX8_over 41 = .ok (.aload_n 0, 1) := by decide +kernel
theorem dX8_over_42 : decode cX8_over 42 = .ok (.getfield 7, 3) := by decide +kernel
theorem dX8_over_45 : decode cX8_over 45 = .ok (.irem, 1) := by decide +kernel
theorem dX8_over_46 : decode cX8_over 46 = .ok (.istore_n 3, 1) := by decide +kernel
theorem dX8_over_47 : decode cX8_over 47 = .ok (.iload 4, 2) := by decide +kernel
theorem dX8_over_49 : decode cX8_over 49 = .ok (.iconst 1, 1) := by decide +kernel
theorem dX8_over_50 : decode cX8_over 50 = .ok (.ishr, 1) := by decide +kernel
theorem dX8_over_51 : decode cX8_over 51 = .ok (.istore 4, 2) := by decide +kernel
theorem dX8_over_53 : decode cX8_over 53 = .ok (.goto (-41), 3) := by decide +kernel
theorem dX8_over_56 : decode cX8_over 56 = .ok (.iload_n 2, 1) := by decide +kernel
theorem dX8_over_57 : decode cX8_over 57 = .ok (.ireturn, 1) := by decide +kernel
set_option maxRecDepth 20000 in
theorem ggX8_grow_X8_over : GoodIn wsX8_grow wsX8_over := goodIn_r _ [11, 5, 12, 13, 14, 15, 16, 17, 18, 19, 20, 21, 22, 23, 24, 25, 26, 27, 28, 29, 30, 31, 32, 33, 34, 35, 36, 37, 38, 39, 40] (by decide +kernel) (by decide +kernel)
set_option maxRecDepth 20000 in
theorem gX8_grow_X8_over : GoodIn wsX8_grow (wsV RX8 123 RX8 yX8_over wsX8_over) := goodIn_app (goodIn_of _ (by decide +kernel)) ggX8_grow_X8_over
theorem dX8_grow_0 : decode cX8_grow 0 = .ok (.iconst 0, 1) := by decide +kernel
theorem dX8_grow_1 : decode cX8_grow 1 = .ok (.istore_n 3, 1) := by decide +kernel
theorem dX8_grow_2 : decode cX8_grow 2 = .ok (.iload_n 3, 1) := by decide +kernel
theorem dX8_grow_3 : decode cX8_grow 3 = .ok (.bipush 40, 2) := by decide +kernel
theorem dX8_grow_5 : decode cX8_grow 5 = .ok (.if_icmp .ge 36, 3) := by decide +kernel
theorem dX8_grow_8 : decode cX8_grow 8 = .ok (.aload_n 0, 1) := by decide +kernel
theorem dX8_grow_9 : decode cX8_grow 9 = .ok (.getfield 44, 3) := by decide +kernel
theorem dX8_grow_12 : decode cX8_grow 12 = .ok (.iload_n 3, 1) := by decide +kernel
theorem dX8_grow_13 : decode cX8_grow 13 = .ok (.iload_n 3, 1) := by decide +kernel
theorem dX8_grow_14 : decode cX8_grow 14 = .ok (.ifCond .ne 7, 3) := by decide +kernel
theorem dX8_grow_17 : decode cX8_grow 17 = .ok (.iconst 1, 1) := by decide +kernel
theorem dX8_grow_18 : decode cX8_grow 18 = .ok (.goto 4, 3) := by decide +kernel
theorem dX8_grow_21 : decode cX8_grow 21 = .ok (.iconst 0, 1) := by decide +kernel
theorem dX8_grow_22 : decode cX8_grow 22 = .ok (.iastore, 1) := by decide +kernel
theorem dX8_grow_23 : decode cX8_grow 23 = .ok (.aload_n 0, 1) := by decide +kernel
theorem dX8_grow_24 : decode cX8_grow 24 = .ok (.getfield 47, 3) := by decide +kernel
theorem dX8_grow_27 : decode cX8_grow 27 = .ok (.iload_n 3, 1) := by decide +kernel
theorem dX8_grow_28 : decode cX8_grow 28 = .ok (.aload_n 0, 1) := by decide +kernel
theorem dX8_grow_29 : decode cX8_grow 29 = .ok (.getfield 44, 3) := by decide +kernel
theorem dX8_grow_32 : decode cX8_grow 32 = .ok (.iload_n 3, 1) := by decide +kernel
theorem dX8_grow_33 : decode cX8_grow 33 = .ok (.iaload, 1) := by decide +kernel
theorem dX8_grow_34 : decode cX8_grow 34 = .ok (.iastore, 1) := by decide +kernel
theorem dX8_grow_35 : decode cX8_grow 35 = .ok (.iinc 3 1, 3) := by decide +kernel
theorem dX8_grow_38 : decode cX8_grow 38 = .ok (.goto (-36), 3) := by decide +kernel
theorem dX8_grow_41 : decode cX8_grow 41 = .ok (.aload_n 0, 1) := by decide +kernel
theorem dX8_grow_42 : decode cX8_grow 42 = .ok (.iconst 0, 1) := by decide +kernel
theorem dX8_grow_43 : decode cX8_grow 43 = .ok (.putfield 120, 3) := by decide +kernel
theorem dX8_grow_46 : decode cX8_grow 46 = .ok (.iconst 1, 1) := by decide +kernel
theorem dX8_grow_47 : decode cX8_grow 47 = .ok (.istore_n 3, 1) := by decide +kernel
theorem dX8_grow_48 : decode cX8_grow 48 = .ok (.iconst 1, 1) := by decide +kernel
theorem dX8_grow_49 : decode cX8_grow 49 = .ok (.istore 4, 2) := by decide +kernel
theorem dX8_grow_51 : decode cX8_grow 51 = .ok (.iconst 0, 1) := by decide +kernel
theorem dX8_grow_52 : decode cX8_grow 52 = .ok (.istore 5, 2) := by decide +kernel
theorem dX8_grow_54 : decode cX8_grow 54 = .ok (.iload 5, 2) := by decide +kernel
theorem dX8_grow_56 : decode cX8_grow 56 = .ok (.iload_n 1, 1) := by decide +kernel
theorem dX8_grow_57 : decode cX8_grow 57 = .ok (.if_icmp .ge 248, 3) := by decide +kernel
theorem dX8_grow_60 : decode cX8_grow 60 = .ok (.aload_n 0, 1) := by decide +kernel
theorem dX8_grow_61 : decode cX8_grow 61 = .ok (.getfield 120, 3) := by decide +kernel
theorem dX8_grow_64 : decode cX8_grow 64 = .ok (.iload_n 2, 1) := by decide +kernel
theorem dX8_grow_65 : decode cX8_grow 65 = .ok (.if_icmp .gt 240, 3) := by decide +kernel
theorem dX8_grow_68 : decode cX8_grow 68 = .ok (.iconst 0, 1) := by decide +kernel
theorem dX8_grow_69 : decode cX8_grow 69 = .ok (.istore 6, 2) := by decide +kernel
theorem dX8_grow_71 : decode cX8_grow 71 = .ok (.iconst 0, 1) := by decide +kernel
theorem dX8_grow_72 : decode cX8_grow 72 = .ok (.istore 7, 2) := by decide +kernel
theorem dX8_grow_74 : decode cX8_grow 74 = .ok (.iload 7, 2) := by decide +kernel
theorem dX8_grow_76 : decode cX8_grow 76 = .ok (.aload_n 0, 1) := by decide +kernel
theorem dX8_grow_77 : decode cX8_grow 77 = .ok (.getfield 120, 3) := by decide +kernel
theorem dX8_grow_80 : decode cX8_grow 80 = .ok (.if_icmp .gt 37, 3) := by decide +kernel
theorem dX8_grow_83 : decode cX8_grow 83 = .ok (.iload 6, 2) := by decide +kernel
theorem dX8_grow_85 : decode cX8_grow 85 = .ok (.aload_n 0, 1) := by decide +kernel
theorem dX8_grow_86 : decode cX8_grow 86 = .ok (.getfield 44, 3) := by decide +kernel
theorem dX8_grow_89 : decode cX8_grow 89 = .ok (.iload 7, 2) := by decide +kernel
theorem dX8_grow_91 : decode cX8_grow 91 = .ok (.iaload, 1) := by decide +kernel
theorem dX8_grow_92 : decode cX8_grow 92 = .ok (.aload_n 0, 1) := by decide +kernel
theorem dX8_grow_93 : decode cX8_grow 93 = .ok (.getfield 41, 3) := by decide +kernel
theorem dX8_grow_96 : decode cX8_grow 96 = .ok (.iload 5, 2) := by decide +kernel
theorem dX8_grow_98 : decode cX8_grow 98 = .ok (.iload 7, 2) := by decide +kernel
theorem dX8_grow_100 : decode cX8_grow 100 = .ok (.isub, 1) := by decide +kernel
theorem dX8_grow_101 : decode cX8_grow 101 = .ok (.iaload, 1) := by decide +kernel
theorem dX8_grow_102 : decode cX8_grow 102 = .ok (.imul, 1) := by decide +kernel
theorem dX8_grow_103 : decode cX8_grow 103 = .ok (.iadd, 1) := by decide +kernel
theorem dX8_grow_104 : decode cX8_grow 104 = .ok (.aload_n 0, 1) := by decide +kernel
theorem dX8_grow_105 : decode cX8_grow 105 = .ok (.getfield 7, 3) := by decide +kernel
theorem dX8_grow_108 : decode cX8_grow 108 = .ok (.irem, 1) := by decide +kernel
theorem dX8_grow_109 : decode cX8_grow 109 = .ok (.istore 6, 2) := by decide +kernel
theorem dX8_grow_111 : decode cX8_grow 111 = .ok (.iinc 7 1, 3) := by decide +kernel
theorem dX8_grow_114 : decode cX8_grow 114 = .ok (.goto (-40), 3) := by decide +kernel
theorem dX8_grow_117 : decode cX8_grow 117 = .ok (.iload 6, 2) := by decide +kernel
theorem dX8_grow_119 : decode cX8_grow 119 = .ok (.ifCond .ne 9, 3) := by decide +kernel
theorem dX8_grow_122 : decode cX8_grow 122 = .ok (.iinc 4 1, 3) := by decide +kernel
theorem dX8_grow_125 : decode cX8_grow 125 = .ok (.goto 174, 3) := by decide +kernel
theorem dX8_grow_128 : decode cX8_grow 128 = .ok (.iload 6, 2) := by decide +kernel
theorem dX8_grow_130 : decode cX8_grow 130 = .ok (.aload_n 0, 1) := by decide +kernel
theorem dX8_grow_131 : decode cX8_grow 131 = .ok (.iload_n 3, 1) := by decide +kernel
theorem dX8_grow_132 : decode cX8_grow 132 = .ok (.invokevirtual 123, 3) := by decide +kernel
theorem dX8_grow_135 : decode cX8_grow 135 = .ok (.imul, 1) := by decide +kernel
theorem dX8_grow_136 : decode cX8_grow 136 = .ok (.aload_n 0, 1) := by decide +kernel
theorem dX8_grow_137 : decode cX8_grow 137 = .ok (.getfield 7, 3) := by decide +kernel
theorem dX8_grow_140 : decode cX8_grow 140 = .ok (.irem, 1) := by decide +kernel
theorem dX8_grow_141 : decode cX8_grow 141 = .ok (.istore 7, 2) := by decide +kernel
theorem dX8_grow_143 : decode cX8_grow 143 = .ok (.iconst 0, 1) := by decide +kernel
theorem dX8_grow_144 : decode cX8_grow 144 = .ok (.istore 8, 2) := by decide +kernel
theorem dX8_grow_146 : decode cX8_grow 146 = .ok (.iload 8, 2) := by decide +kernel
theorem dX8_grow_148 : decode cX8_grow 148 = .ok (.bipush 40, 2) := by decide +kernel
theorem dX8_grow_150 : decode cX8_grow 150 = .ok (.if_icmp .ge 23, 3) := by decide +kernel
theorem dX8_grow_153 : decode cX8_grow 153 = .ok (.aload_n 0, 1) := by decide +kernel
theorem dX8_grow_154 : decode cX8_grow 154 = .ok (.getfield 50, 3) := by decide +kernel
theorem dX8_grow_157 : decode cX8_grow 157 = .ok (.iload 8, 2) := by decide +kernel
theorem dX8_grow_159 : decode cX8_grow 159 = .ok (.aload_n 0, 1) := by decide +kernel
theorem dX8_grow_160 : decode cX8_grow 160 = .ok (.getfield 44, 3) := by decide +kernel
theorem dX8_grow_163 : decode cX8_grow 163 = .ok (.iload 8, 2) := by decide +kernel
theorem dX8_grow_165 : decode cX8_grow 165 = .ok (.iaload, 1) := by decide +kernel
theorem dX8_grow_166 : decode cX8_grow 166 = .ok (.iastore, 1) := by decide +kernel
theorem dX8_grow_167 : decode cX8_grow 167 = .ok (.iinc 8 1, 3) := by decide +kernel
theorem dX8_grow_170 : decode cX8_grow 170 = .ok (.goto (-24), 3) := by decide +kernel
theorem dX8_grow_173 : decode cX8_grow 173 = .ok (.iconst 0, 1) := by decide +kernel
theorem dX8_grow_174 : decode cX8_grow 174 = .ok (.istore 8, 2) := by decide +kernel
theorem dX8_grow_176 : decode cX8_grow 176 = .ok (.iload 8, 2) := by decide +kernel
theorem dX8_grow_178 : decode cX8_grow 178 = .ok (.iload 4, 2) := by decide +kernel
theorem dX8_grow_180 : decode cX8_grow 180 = .ok (.iadd, 1) := by decide +kernel
theorem dX8_grow_181 : decode cX8_grow 181 = .ok (.bipush 40, 2) := by decide +kernel
theorem dX8_grow_183 : decode cX8_grow 183 = .ok (.if_icmp .ge 50, 3) := by decide +kernel
theorem dX8_grow_186 : decode cX8_grow 186 = .ok (.aload_n 0, 1) := by decide +kernel
theorem dX8_grow_187 : decode cX8_grow 187 = .ok (.getfield 44, 3) := by decide +kernel
theorem dX8_grow_190 : decode cX8_grow 190 = .ok (.iload 8, 2) := by decide +kernel
theorem dX8_grow_192 : decode cX8_grow 192 = .ok (.iload 4, 2) := by decide +kernel
theorem dX8_grow_194 : decode cX8_grow 194 = .ok (.iadd, 1) := by decide +kernel
theorem dX8_grow_195 : decode cX8_grow 195 = .ok (.aload_n 0, 1) := by decide +kernel
theorem dX8_grow_196 : decode cX8_grow 196 = .ok (.getfield 44, 3) := by decide +kernel
theorem dX8_grow_199 : decode cX8_grow 199 = .ok (.iload 8, 2) := by decide +kernel
theorem dX8_grow_201 : decode cX8_grow 201 = .ok (.iload 4, 2) := by decide +kernel
theorem dX8_grow_203 : decode cX8_grow 203 = .ok (.iadd, 1) := by decide +kernel
theorem dX8_grow_204 : decode cX8_grow 204 = .ok (.iaload, 1) := by decide +kernel
theorem dX8_grow_205 : decode cX8_grow 205 = .ok (.aload_n 0, 1) := by decide +kernel
theorem dX8_grow_206 : decode cX8_grow 206 = .ok (.getfield 7, 3) := by decide +kernel
theorem dX8_grow_209 : decode cX8_grow 209 = .ok (.iload 7, 2) := by decide +kernel
theorem dX8_grow_211 : decode cX8_grow 211 = .ok (.isub, 1) := by decide +kernel
theorem dX8_grow_212 : decode cX8_grow 212 = .ok (.aload_n 0, 1) := by decide +kernel
theorem dX8_grow_213 : decode cX8_grow 213 = .ok (.getfield 47, 3) := by decide +kernel
theorem dX8_grow_216 : decode cX8_grow 216 = .ok (.iload 8, 2) := by decide +kernel
theorem dX8_grow_218 : decode cX8_grow 218 = .ok (.iaload, 1) := by decide +kernel
theorem dX8_grow_219 : decode cX8_grow 219 = .ok (.imul, 1) := by decide +kernel
theorem dX8_grow_220 : decode cX8_grow 220 = .ok (.iadd, 1) := by decide +kernel
theorem dX8_grow_221 : decode cX8_grow 221 = .ok (.aload_n 0, 1) := by decide +kernel
theorem dX8_grow_222 : decode cX8_grow 222 = .ok (.getfield 7, 3) := by decide +kernel
theorem dX8_grow_225 : decode cX8_grow 225 = .ok (.irem, 1) := by decide +kernel
theorem dX8_grow_226 : decode cX8_grow 226 = .ok (.iastore, 1) := by decide +kernel
theorem dX8_grow_227 : decode cX8_grow 227 = .ok (.iinc 8 1, 3) := by decide +kernel
theorem dX8_grow_230 : decode cX8_grow 230 = .ok (.goto (-54), 3) := by decide +kernel
theorem dX8_grow_233 : decode cX8_grow 233 = .ok (.iconst 2, 1) := by decide +kernel
theorem dX8_grow_234 : decode cX8_grow 234 = .ok (.aload_n 0, 1) := by decide +kernel
theorem dX8_grow_235 : decode cX8_grow 235 = .ok (.getfield 120, 3) := by decide +kernel
theorem dX8_grow_238 : decode cX8_grow 238 = .ok (.imul, 1) := by decide +kernel
theorem dX8_grow_239 : decode cX8_grow 239 = .ok (.iload 5, 2) := by decide +kernel
theorem dX8_grow_241 : decode cX8_grow 241 = .ok (.if_icmp .gt 55, 3) := by decide +kernel
theorem dX8_grow_244 : decode cX8_grow 244 = .ok (.iconst 0, 1) := by decide +kernel
theorem dX8_grow_245 : decode cX8_grow 245 = .ok (.istore 8, 2) := by decide +kernel
theorem dX8_grow_247 : decode cX8_grow 247 = .ok (.iload 8, 2) := by decide +kernel
theorem dX8_grow_249 : decode cX8_grow 249 = .ok (.bipush 40, 2) := by decide +kernel
theorem dX8_grow_251 : decode cX8_grow 251 = .ok (.if_icmp .ge 23, 3) := by decide +kernel
theorem dX8_grow_254 : decode cX8_grow 254 = .ok (.aload_n 0, 1) := by decide +kernel
theorem dX8_grow_255 : decode cX8_grow 255 = .ok (.getfield 47, 3) := by decide +kernel
theorem dX8_grow_258 : decode cX8_grow 258 = .ok (.iload 8, 2) := by decide +kernel
theorem dX8_grow_260 : decode cX8_grow 260 = .ok (.aload_n 0, 1) := by decide +kernel
theorem dX8_grow_261 : decode cX8_grow 261 = .ok (.getfield 50, 3) := by decide +kernel
theorem dX8_grow_264 : decode cX8_grow 264 = .ok (.iload 8, 2) := by decide +kernel
theorem dX8_grow_266 : decode cX8_grow 266 = .ok (.iaload, 1) := by decide +kernel
theorem dX8_grow_267 : decode cX8_grow 267 = .ok (.iastore, 1) := by decide +kernel
theorem dX8_grow_268 : decode cX8_grow 268 = .ok (.iinc 8 1, 3) := by decide +kernel
theorem dX8_grow_271 : decode cX8_grow 271 = .ok (.goto (-24), 3) := by decide +kernel
theorem dX8_grow_274 : decode cX8_grow 274 = .ok (.iload 6, 2) := by decide +kernel
theorem dX8_grow_276 : decode cX8_grow 276 = .ok (.istore_n 3, 1) := by decide +kernel
theorem dX8_grow_277 : decode cX8_grow 277 = .ok (.iconst 1, 1) := by decide +kernel
theorem dX8_grow_278 : decode cX8_grow 278 = .ok (.istore 4, 2) := by decide +kernel
theorem dX8_grow_280 : decode cX8_grow 280 = .ok (.aload_n 0, 1) := by decide +kernel
theorem dX8_grow_281 : decode cX8_grow 281 = .ok (.iload 5, 2) := by decide +kernel
theorem dX8_grow_283 : decode cX8_grow 283 = .ok (.iconst 1, 1) := by decide +kernel
theorem dX8_grow_284 : decode cX8_grow 284 = .ok (.iadd, 1) := by decide +kernel
theorem dX8_grow_285 : decode cX8_grow 285 = .ok (.aload_n 0, 1) := by decide +kernel
theorem dX8_grow_286 : decode cX8_grow 286 = .ok (.getfield 120, 3) := by decide +kernel
theorem dX8_grow_289 : decode cX8_grow 289 = .ok (.isub, 1) := by decide +kernel
theorem dX8_grow_290 : decode cX8_grow 290 = .ok (.putfield 120, 3) := by decide +kernel
theorem dX8_grow_293 : decode cX8_grow 293 = .ok (.goto 6, 3) := by decide +kernel
theorem dX8_grow_296 : decode cX8_grow 296 = .ok (.iinc 4 1, 3) := by decide +kernel
theorem dX8_grow_299 : decode cX8_grow 299 = .ok (.iinc 5 1, 3) := by decide +kernel
theorem dX8_grow_302 : decode cX8_grow 302 = .ok (.goto (-248), 3) := by decide +kernel
theorem dX8_grow_305 : decode cX8_grow 305 = .ok (.return_, 1) := by decide +kernel
theorem dX8_take_0 : decode cX8_take 0 = .ok (.iconst 0, 1) := by decide +kernel
theorem dX8_take_1 : decode cX8_take 1 = .ok (.istore_n 1, 1) := by decide +kernel
theorem dX8_take_2 : decode cX8_take 2 = .ok (.iload_n 1, 1) := by decide +kernel
theorem dX8_take_3 : decode cX8_take 3 = .ok (.aload_n 0, 1) := by decide +kernel
theorem dX8_take_4 : decode cX8_take 4 = .ok (.getfield 83, 3) := by decide +kernel
theorem dX8_take_7 : decode cX8_take 7 = .ok (.if_icmp .ge 21, 3) := by decide +kernel
theorem dX8_take_10 : decode cX8_take 10 = .ok (.aload_n 0, 1) := by decide +kernel
theorem dX8_take_11 : decode cX8_take 11 = .ok (.getfield 41, 3) := by decide +kernel
theorem dX8_take_14 : decode cX8_take 14 = .ok (.iload_n 1, 1) := by decide +kernel
theorem dX8_take_15 : decode cX8_take 15 = .ok (.aload_n 0, 1) := by decide +kernel
theorem dX8_take_16 : decode cX8_take 16 = .ok (.getfield 38, 3) := by decide +kernel
theorem dX8_take_19 : decode cX8_take 19 = .ok (.iload_n 1, 1) := by decide +kernel
theorem dX8_take_20 : decode cX8_take 20 = .ok (.iaload, 1) := by decide +kernel
theorem dX8_take_21 : decode cX8_take 21 = .ok (.iastore, 1) := by decide +kernel
theorem dX8_take_22 : decode cX8_take 22 = .ok (.iinc 1 1, 3) := by decide +kernel
theorem dX8_take_25 : decode cX8_take 25 = .ok (.goto (-23), 3) := by decide +kernel
theorem dX8_take_28 : decode cX8_take 28 = .ok (.return_, 1) := by decide +kernel
theorem dX8_g_0 : decode cX8_g 0 = .ok (.aload_n 0, 1) := by decide +kernel
theorem dX8_g_1 : decode cX8_g 1 = .ok (.getfield 7, 3) := by decide +kernel
theorem dX8_g_4 : decode cX8_g 4 = .ok (.aload_n 0, 1) := by decide +kernel
theorem dX8_g_5 : decode cX8_g 5 = .ok (.getfield 44, 3) := by decide +kernel
theorem dX8_g_8 : decode cX8_g 8 = .ok (.iload_n 1, 1) := by decide +kernel
theorem dX8_g_9 : decode cX8_g 9 = .ok (.iaload, 1) := by decide +kernel
theorem dX8_g_10 : decode cX8_g 10 = .ok (.isub, 1) := by decide +kernel
theorem dX8_g_11 : decode cX8_g 11 = .ok (.aload_n 0, 1) := by decide +kernel
theorem dX8_g_12 : decode cX8_g 12 = .ok (.getfield 7, 3) := by decide +kernel
theorem dX8_g_15 : decode cX8_g 15 = .ok (.irem, 1) := by decide +kernel
theorem dX8_g_16 : decode cX8_g 16 = .ok (.ireturn, 1) := by decide +kernel
set_option maxRecDepth 20000 in
theorem ggX8_register_X8_take : GoodIn wsX8_register wsX8_take := goodIn_r _ [7, 1, 8, 9, 29, 30, 31, 32, 33, 34, 35, 36, 37, 38, 39, 40, 41, 42, 43, 44, 45, 46, 47, 48, 49, 50, 51, 52, 53, 54, 55, 56, 57] (by decide +kernel) (by decide +kernel)
set_option maxRecDepth 20000 in
theorem gX8_register_X8_take : GoodIn wsX8_register (wsV RX8 127 RX8 yX8_take wsX8_take) := goodIn_app (goodIn_of _ (by decide +kernel)) ggX8_register_X8_take
set_option maxRecDepth 20000 in
theorem ggX8_register_X8_grow : GoodIn wsX8_register wsX8_grow := goodIn_r _ [13, 14, 15, 2, 8, 16, 17, 18, 19, 20, 6, 21, 29, 30, 31, 32, 33, 34, 35, 36, 37, 38, 39, 40, 41, 42, 43, 44, 45, 46, 47, 48, 49, 50, 51, 52, 53, 54, 55, 56, 57] (by decide +kernel) (by decide +kernel)
set_option maxRecDepth 20000 in
theorem gX8_register_X8_grow : GoodIn wsX8_register (wsV RX8 130 RX8 yX8_grow wsX8_grow) := goodIn_app (goodIn_of _ (by decide +kernel)) ggX8_register_X8_grow
set_option maxRecDepth 20000 in
theorem ggX8_register_X8_in : GoodIn wsX8_register wsX8_in := goodIn_r _ [24] (by decide +kernel) (by decide +kernel)
set_option maxRecDepth 20000 in
theorem gX8_register_X8_in : GoodIn wsX8_register (va_wsS RX8 86 yX8_in wsX8_in) := goodIn_app (goodIn_of _ (by decide +kernel)) ggX8_register_X8_in
set_option maxRecDepth 20000 in
theorem ggX8_register_X8_g : GoodIn wsX8_register wsX8_g := goodIn_r _ [28, 16, 14, 29, 30, 31, 32, 33, 34, 35, 36, 37, 38, 39, 40, 41, 42, 43, 44, 45, 46, 47, 48, 49, 50, 51, 52, 53, 54, 55, 56, 57] (by decide +kernel) (by decide +kernel)
set_option maxRecDepth 20000 in
theorem gX8_register_X8_g : GoodIn wsX8_register (wsV RX8 134 RX8 yX8_g wsX8_g) := goodIn_app (goodIn_of _ (by decide +kernel)) ggX8_register_X8_g
theorem dX8_register_0 : decode cX8_register 0 = .ok (.aload_n 0, 1) := by decide +kernel
theorem dX8_register_1 : decode cX8_register 1 = .ok (.invokevirtual 127, 3) := by decide +kernel
theorem dX8_register_4 : decode cX8_register 4 = .ok (.aload_n 0, 1) := by decide +kernel
theorem dX8_register_5 : decode cX8_register 5 = .ok (.aload_n 0, 1) := by decide +kernel
theorem dX8_register_6 : decode cX8_register 6 = .ok (.getfield 83, 3) := by decide +kernel
theorem dX8_register_9 : decode cX8_register 9 = .ok (.bipush 16, 2) := by decide +kernel
theorem dX8_register_11 : decode cX8_register 11 = .ok (.invokevirtual 130, 3) := by decide +kernel
theorem dX8_register_14 : decode cX8_register 14 = .ok (.iload_n 1, 1) := by decide +kernel
theorem dX8_register_15 : decode cX8_register 15 = .ok (.ifCond .ne 10, 3) := by decide +kernel
theorem dX8_register_18 : decode cX8_register 18 = .ok (.aload_n 0, 1) := by decide +kernel
theorem dX8_register_19 : decode cX8_register 19 = .ok (.getfield 120, 3) := by decide +kernel
theorem dX8_register_22 : decode cX8_register 22 = .ok (.goto 24, 3) := by decide +kernel
theorem dX8_register_25 : decode cX8_register 25 = .ok (.iload_n 1, 1) := by decide +kernel
theorem dX8_register_26 : decode cX8_register 26 = .ok (.iconst 1, 1) := by decide +kernel
theorem dX8_register_27 : decode cX8_register 27 = .ok (.aload_n 0, 1) := by decide +kernel
theorem dX8_register_28 : decode cX8_register 28 = .ok (.getfield 120, 3) := by decide +kernel
theorem dX8_register_31 : decode cX8_register 31 = .ok (.invokestatic 86, 3) := by decide +kernel
theorem dX8_register_34 : decode cX8_register 34 = .ok (.ifCond .eq 11, 3) := by decide +kernel
theorem dX8_register_37 : decode cX8_register 37 = .ok (.aload_n 0, 1) := by decide +kernel
theorem dX8_register_38 : decode cX8_register 38 = .ok (.iload_n 1, 1) := by decide +kernel
theorem dX8_register_39 : decode cX8_register 39 = .ok (.invokevirtual 134, 3) := by decide +kernel
theorem dX8_register_42 : decode cX8_register 42 = .ok (.goto 4, 3) := by decide +kernel
theorem dX8_register_45 : decode cX8_register 45 = .ok (.iconst (-1), 1) := by decide +kernel
theorem dX8_register_46 : decode cX8_register 46 = .ok (.ireturn, 1) := by decide +kernel
set_option maxRecDepth 20000 in
theorem ggX8_product_X8_g : GoodIn wsX8_product wsX8_g := goodIn_r _ [10, 5, 11, 12, 13, 14, 15, 16, 17, 18, 19, 20, 21, 22, 23, 24, 25, 26, 27, 28, 29, 30, 31, 32, 33, 34, 35, 36, 37, 38, 39, 40] (by decide +kernel) (by decide +kernel)
set_option maxRecDepth 20000 in
theorem gX8_product_X8_g : GoodIn wsX8_product (wsV RX8 134 RX8 yX8_g wsX8_g) := goodIn_app (goodIn_of _ (by decide +kernel)) ggX8_product_X8_g
theorem dX8_product_0 : decode cX8_product 0 = .ok (.iconst 0, 1) := by decide +kernel
theorem dX8_product_1 : decode cX8_product 1 = .ok (.istore_n 2, 1) := by decide +kernel
theorem dX8_product_2 : decode cX8_product 2 = .ok (.iload_n 2, 1) := by decide +kernel
theorem dX8_product_3 : decode cX8_product 3 = .ok (.bipush 40, 2) := by decide +kernel
theorem dX8_product_5 : decode cX8_product 5 = .ok (.if_icmp .ge 16, 3) := by decide +kernel
theorem dX8_product_8 : decode cX8_product 8 = .ok (.aload_n 0, 1) := by decide +kernel
theorem dX8_product_9 : decode cX8_product 9 = .ok (.getfield 59, 3) := by decide +kernel
theorem dX8_product_12 : decode cX8_product 12 = .ok (.iload_n 2, 1) := by decide +kernel
theorem dX8_product_13 : decode cX8_product 13 = .ok (.iconst 0, 1) := by decide +kernel
theorem dX8_product_14 : decode cX8_product 14 = .ok (.iastore, 1) := by decide +kernel
theorem dX8_product_15 : decode cX8_product 15 = .ok (.iinc 2 1, 3) := by decide +kernel
theorem dX8_product_18 : decode cX8_product 18 = .ok (.goto (-16), 3) := by decide +kernel
theorem dX8_product_21 : decode cX8_product 21 = .ok (.iconst 0, 1) := by decide +kernel
theorem dX8_product_22 : decode cX8_product 22 = .ok (.istore_n 2, 1) := by decide +kernel
theorem dX8_product_23 : decode cX8_product 23 = .ok (.iload_n 2, 1) := by decide +kernel
theorem dX8_product_24 : decode cX8_product 24 = .ok (.aload_n 0, 1) := by decide +kernel
theorem dX8_product_25 : decode cX8_product 25 = .ok (.getfield 120, 3) := by decide +kernel
theorem dX8_product_28 : decode cX8_product 28 = .ok (.if_icmp .ge 73, 3) := by decide +kernel
theorem dX8_product_31 : decode cX8_product 31 = .ok (.iconst 0, 1) := by decide +kernel
theorem dX8_product_32 : decode cX8_product 32 = .ok (.istore_n 3, 1) := by decide +kernel
theorem dX8_product_33 : decode cX8_product 33 = .ok (.iload_n 3, 1) := by decide +kernel
theorem dX8_product_34 : decode cX8_product 34 = .ok (.aload_n 0, 1) := by decide +kernel
theorem dX8_product_35 : decode cX8_product 35 = .ok (.getfield 120, 3) := by decide +kernel
theorem dX8_product_38 : decode cX8_product 38 = .ok (.if_icmp .ge 57, 3) := by decide +kernel
theorem dX8_product_41 : decode cX8_product 41 = .ok (.aload_n 0, 1) := by decide +kernel
theorem dX8_product_42 : decode cX8_product 42 = .ok (.getfield 59, 3) := by decide +kernel
theorem dX8_product_45 : decode cX8_product 45 = .ok (.iload_n 2, 1) := by decide +kernel
theorem dX8_product_46 : decode cX8_product 46 = .ok (.iload_n 3, 1) := by decide +kernel
theorem dX8_product_47 : decode cX8_product 47 = .ok (.iadd, 1) := by decide +kernel
theorem dX8_product_48 : decode cX8_product 48 = .ok (.aload_n 0, 1) := by decide +kernel
theorem dX8_product_49 : decode cX8_product 49 = .ok (.getfield 59, 3) := by decide +kernel
theorem dX8_product_52 : decode cX8_product 52 = .ok (.iload_n 2, 1) := by decide +kernel
theorem dX8_product_53 : decode cX8_product 53 = .ok (.iload_n 3, 1) := by decide +kernel
theorem dX8_product_54 : decode cX8_product 54 = .ok (.iadd, 1) := by decide +kernel
theorem dX8_product_55 : decode cX8_product 55 = .ok (.iaload, 1) := by decide +kernel
theorem dX8_product_56 : decode cX8_product 56 = .ok (.iload_n 1, 1) := by decide +kernel
theorem dX8_product_57 : decode cX8_product 57 = .ok (.ifCond .eq 12, 3) := by decide +kernel
theorem dX8_product_60 : decode cX8_product 60 = .ok (.aload_n 0, 1) := by decide +kernel
theorem dX8_product_61 : decode cX8_product 61 = .ok (.getfield 56, 3) := by decide +kernel
theorem dX8_product_64 : decode cX8_product 64 = .ok (.iload_n 2, 1) := by decide +kernel
theorem dX8_product_65 : decode cX8_product 65 = .ok (.iaload, 1) := by decide +kernel
theorem dX8_product_66 : decode cX8_product 66 = .ok (.goto 9, 3) := by decide +kernel
theorem dX8_product_69 : decode cX8_product 69 = .ok (.aload_n 0, 1) := by decide +kernel
theorem dX8_product_70 : decode cX8_product 70 = .ok (.getfield 53, 3) := by decide +kernel
theorem dX8_product_73 : decode cX8_product 73 = .ok (.iload_n 2, 1) := by decide +kernel
theorem dX8_product_74 : decode cX8_product 74 = .ok (.iaload, 1) := by decide +kernel
theorem dX8_product_75 : decode cX8_product 75 = .ok (.aload_n 0, 1) := by decide +kernel
theorem dX8_product_76 : decode cX8_product 76 = .ok (.getfield 56, 3) := by decide +kernel
theorem dX8_product_79 : decode cX8_product 79 = .ok (.iload_n 3, 1) := by decide +kernel
theorem dX8_product_80 : decode cX8_product 80 = .ok (.iaload, 1) := by decide +kernel
theorem dX8_product_81 : decode cX8_product 81 = .ok (.imul, 1) := by decide +kernel
theorem dX8_product_82 : decode cX8_product 82 = .ok (.iadd, 1) := by decide +kernel
theorem dX8_product_83 : decode cX8_product 83 = .ok (.aload_n 0, 1) := by decide +kernel
theorem dX8_product_84 : decode cX8_product 84 = .ok (.getfield 7, 3) := by decide +kernel
theorem dX8_product_87 : decode cX8_product 87 = .ok (.irem, 1) := by decide +kernel
theorem dX8_product_88 : decode cX8_product 88 = .ok (.iastore, 1) := by decide +kernel
theorem dX8_product_89 : decode cX8_product 89 = .ok (.iinc 3 1, 3) := by decide +kernel
theorem dX8_product_92 : decode cX8_product 92 = .ok (.goto (-59), 3) := by decide +kernel
theorem dX8_product_95 : decode cX8_product 95 = .ok (.iinc 2 1, 3) := by decide +kernel
theorem dX8_product_98 : decode cX8_product 98 = .ok (.goto (-75), 3) := by decide +kernel
theorem dX8_product_101 : decode cX8_product 101 = .ok (.iconst 2, 1) := by decide +kernel
theorem dX8_product_102 : decode cX8_product 102 = .ok (.aload_n 0, 1) := by decide +kernel
theorem dX8_product_103 : decode cX8_product 103 = .ok (.getfield 120, 3) := by decide +kernel
theorem dX8_product_106 : decode cX8_product 106 = .ok (.imul, 1) := by decide +kernel
theorem dX8_product_107 : decode cX8_product 107 = .ok (.iconst 2, 1) := by decide +kernel
theorem dX8_product_108 : decode cX8_product 108 = .ok (.isub, 1) := by decide +kernel
theorem dX8_product_109 : decode cX8_product 109 = .ok (.istore_n 2, 1) := by decide +kernel
theorem dX8_product_110 : decode cX8_product 110 = .ok (.iload_n 2, 1) := by decide +kernel
theorem dX8_product_111 : decode cX8_product 111 = .ok (.aload_n 0, 1) := by decide +kernel
theorem dX8_product_112 : decode cX8_product 112 = .ok (.getfield 120, 3) := by decide +kernel
theorem dX8_product_115 : decode cX8_product 115 = .ok (.if_icmp .lt 66, 3) := by decide +kernel
theorem dX8_product_118 : decode cX8_product 118 = .ok (.iconst 1, 1) := by decide +kernel
theorem dX8_product_119 : decode cX8_product 119 = .ok (.istore_n 3, 1) := by decide +kernel
theorem dX8_product_120 : decode cX8_product 120 = .ok (.iload_n 3, 1) := by decide +kernel
theorem dX8_product_121 : decode cX8_product 121 = .ok (.aload_n 0, 1) := by decide +kernel
theorem dX8_product_122 : decode cX8_product 122 = .ok (.getfield 120, 3) := by decide +kernel
theorem dX8_product_125 : decode cX8_product 125 = .ok (.if_icmp .gt 43, 3) := by decide +kernel
theorem dX8_product_128 : decode cX8_product 128 = .ok (.aload_n 0, 1) := by decide +kernel
theorem dX8_product_129 : decode cX8_product 129 = .ok (.getfield 59, 3) := by decide +kernel
theorem dX8_product_132 : decode cX8_product 132 = .ok (.iload_n 2, 1) := by decide +kernel
theorem dX8_product_133 : decode cX8_product 133 = .ok (.iload_n 3, 1) := by decide +kernel
theorem dX8_product_134 : decode cX8_product 134 = .ok (.isub, 1) := by decide +kernel
theorem dX8_product_135 : decode cX8_product 135 = .ok (.aload_n 0, 1) := by decide +kernel
theorem dX8_product_136 : decode cX8_product 136 = .ok (.getfield 59, 3) := by decide +kernel
theorem dX8_product_139 : decode cX8_product 139 = .ok (.iload_n 2, 1) := by decide +kernel
theorem dX8_product_140 : decode cX8_product 140 = .ok (.iload_n 3, 1) := by decide +kernel
theorem dX8_product_141 : decode cX8_product 141 = .ok (.isub, 1) := by decide +kernel
theorem dX8_product_142 : decode cX8_product 142 = .ok (.iaload, 1) := by decide +kernel
theorem dX8_product_143 : decode cX8_product 143 = .ok (.aload_n 0, 1) := by decide +kernel
theorem dX8_product_144 : decode cX8_product 144 = .ok (.getfield 59, 3) := by decide +kernel
theorem dX8_product_147 : decode cX8_product 147 = .ok (.iload_n 2, 1) := by decide +kernel
theorem dX8_product_148 : decode cX8_product 148 = .ok (.iaload, 1) := by decide +kernel
theorem dX8_product_149 : decode cX8_product 149 = .ok (.aload_n 0, 1) := by decide +kernel
theorem dX8_product_150 : decode cX8_product 150 = .ok (.iload_n 3, 1) := by decide +kernel
theorem dX8_product_151 : decode cX8_product 151 = .ok (.invokevirtual 134, 3) := by decide +kernel
theorem dX8_product_154 : decode cX8_product 154 = .ok (.imul, 1) := by decide +kernel
theorem dX8_product_155 : decode cX8_product 155 = .ok (.iadd, 1) := by decide +kernel
theorem dX8_product_156 : decode cX8_product 156 = .ok (.aload_n 0, 1) := by decide +kernel
theorem dX8_product_157 : decode cX8_product 157 = .ok (.getfield 7, 3) := by decide +kernel
theorem dX8_product_160 : decode cX8_product 160 = .ok (.irem, 1) := by decide +kernel
theorem dX8_product_161 : decode cX8_product 161 = .ok (.iastore, 1) := by decide +kernel
theorem dX8_product_162 : decode cX8_product 162 = .ok (.iinc 3 1, 3) := by decide +kernel
theorem dX8_product_165 : decode cX8_product 165 = .ok (.goto (-45), 3) := by decide +kernel
theorem dX8_product_168 : decode cX8_product 168 = .ok (.aload_n 0, 1) := by decide +kernel
theorem dX8_product_169 : decode cX8_product 169 = .ok (.getfield 59, 3) := by decide +kernel
theorem dX8_product_172 : decode cX8_product 172 = .ok (.iload_n 2, 1) := by decide +kernel
theorem dX8_product_173 : decode cX8_product 173 = .ok (.iconst 0, 1) := by decide +kernel
theorem dX8_product_174 : decode cX8_product 174 = .ok (.iastore, 1) := by decide +kernel
theorem dX8_product_175 : decode cX8_product 175 = .ok (.iinc 2 (-1), 3) := by decide +kernel
theorem dX8_product_178 : decode cX8_product 178 = .ok (.goto (-68), 3) := by decide +kernel
theorem dX8_product_181 : decode cX8_product 181 = .ok (.iconst 0, 1) := by decide +kernel
theorem dX8_product_182 : decode cX8_product 182 = .ok (.istore_n 2, 1) := by decide +kernel
theorem dX8_product_183 : decode cX8_product 183 = .ok (.iload_n 2, 1) := by decide +kernel
theorem dX8_product_184 : decode cX8_product 184 = .ok (.aload_n 0, 1) := by decide +kernel
theorem dX8_product_185 : decode cX8_product 185 = .ok (.getfield 120, 3) := by decide +kernel
theorem dX8_product_188 : decode cX8_product 188 = .ok (.if_icmp .ge 40, 3) := by decide +kernel
theorem dX8_product_191 : decode cX8_product 191 = .ok (.iload_n 1, 1) := by decide +kernel
theorem dX8_product_192 : decode cX8_product 192 = .ok (.ifCond .eq 18, 3) := by decide +kernel
theorem dX8_product_195 : decode cX8_product 195 = .ok (.aload_n 0, 1) := by decide +kernel
theorem dX8_product_196 : decode cX8_product 196 = .ok (.getfield 56, 3) := by decide +kernel
theorem dX8_product_199 : decode cX8_product 199 = .ok (.iload_n 2, 1) := by decide +kernel
theorem dX8_product_200 : decode cX8_product 200 = .ok (.aload_n 0, 1) := by decide +kernel
theorem dX8_product_201 : decode cX8_product 201 = .ok (.getfield 59, 3) := by decide +kernel
theorem dX8_product_204 : decode cX8_product 204 = .ok (.iload_n 2, 1) := by decide +kernel
theorem dX8_product_205 : decode cX8_product 205 = .ok (.iaload, 1) := by decide +kernel
theorem dX8_product_206 : decode cX8_product 206 = .ok (.iastore, 1) := by decide +kernel
theorem dX8_product_207 : decode cX8_product 207 = .ok (.goto 15, 3) := by decide +kernel
theorem dX8_product_210 : decode cX8_product 210 = .ok (.aload_n 0, 1) := by decide +kernel
theorem dX8_product_211 : decode cX8_product 211 = .ok (.getfield 53, 3) := by decide +kernel
theorem dX8_product_214 : decode cX8_product 214 = .ok (.iload_n 2, 1) := by decide +kernel
theorem dX8_product_215 : decode cX8_product 215 = .ok (.aload_n 0, 1) := by decide +kernel
theorem dX8_product_216 : decode cX8_product 216 = .ok (.getfield 59, 3) := by decide +kernel
theorem dX8_product_219 : decode cX8_product 219 = .ok (.iload_n 2, 1) := by decide +kernel
theorem dX8_product_220 : decode cX8_product 220 = .ok (.iaload, 1) := by decide +kernel
theorem dX8_product_221 : decode cX8_product 221 = .ok (.iastore, 1) := by decide +kernel
theorem dX8_product_222 : decode cX8_product 222 = .ok (.iinc 2 1, 3) := by decide +kernel
theorem dX8_product_225 : decode cX8_product 225 = .ok (.goto (-42), 3) := by decide +kernel
theorem dX8_product_228 : decode cX8_product 228 = .ok (.return_, 1) := by decide +kernel
set_option maxRecDepth 20000 in
theorem ggX8_far_X8_in : GoodIn wsX8_far wsX8_in := goodIn_r _ [11] (by decide +kernel) (by decide +kernel)
set_option maxRecDepth 20000 in
theorem gX8_far_X8_in : GoodIn wsX8_far (va_wsS RX8 86 yX8_in wsX8_in) := goodIn_app (goodIn_of _ (by decide +kernel)) ggX8_far_X8_in
set_option maxRecDepth 20000 in
theorem ggX8_far_X8_take : GoodIn wsX8_far wsX8_take := goodIn_r _ [15, 2, 16, 3, 37, 38, 39, 40, 41, 42, 43, 44, 45, 46, 47, 48, 49, 50, 51, 52, 53, 54, 55, 56, 57, 58, 59, 60, 61, 62, 63, 64, 65] (by decide +kernel) (by decide +kernel)
set_option maxRecDepth 20000 in
theorem gX8_far_X8_take : GoodIn wsX8_far (wsV RX8 127 RX8 yX8_take wsX8_take) := goodIn_app (goodIn_of _ (by decide +kernel)) ggX8_far_X8_take
set_option maxRecDepth 20000 in
theorem ggX8_far_X8_grow : GoodIn wsX8_far wsX8_grow := goodIn_r _ [20, 21, 22, 4, 16, 7, 23, 24, 25, 26, 10, 27, 37, 38, 39, 40, 41, 42, 43, 44, 45, 46, 47, 48, 49, 50, 51, 52, 53, 54, 55, 56, 57, 58, 59, 60, 61, 62, 63, 64, 65] (by decide +kernel) (by decide +kernel)
set_option maxRecDepth 20000 in
theorem gX8_far_X8_grow : GoodIn wsX8_far (wsV RX8 130 RX8 yX8_grow wsX8_grow) := goodIn_app (goodIn_of _ (by decide +kernel)) ggX8_far_X8_grow
set_option maxRecDepth 20000 in
theorem ggX8_far_X8_g : GoodIn wsX8_far wsX8_g := goodIn_r _ [31, 7, 21, 37, 38, 39, 40, 41, 42, 43, 44, 45, 46, 47, 48, 49, 50, 51, 52, 53, 54, 55, 56, 57, 58, 59, 60, 61, 62, 63, 64, 65] (by decide +kernel) (by decide +kernel)
set_option maxRecDepth 20000 in
theorem gX8_far_X8_g : GoodIn wsX8_far (wsV RX8 134 RX8 yX8_g wsX8_g) := goodIn_app (goodIn_of _ (by decide +kernel)) ggX8_far_X8_g
set_option maxRecDepth 20000 in
theorem ggX8_far_X8_product : GoodIn wsX8_far wsX8_product := goodIn_r _ [35, 36, 4, 6, 5, 7, 28, 29, 30, 10, 31, 21, 37, 38, 39, 40, 41, 42, 43, 44, 45, 46, 47, 48, 49, 50, 51, 52, 53, 54, 55, 56, 57, 58, 59, 60, 61, 62, 63, 64, 65] (by decide +kernel) (by decide +kernel)
set_option maxRecDepth 20000 in
theorem gX8_far_X8_product : GoodIn wsX8_far (wsV RX8 138 RX8 yX8_product wsX8_product) := goodIn_app (goodIn_of _ (by decide +kernel)) ggX8_far_X8_product
theorem dX8_far_0 : decode cX8_far 0 = .ok (.iload_n 1, 1) := by decide +kernel
theorem dX8_far_1 : decode cX8_far 1 = .ok (.iconst 0, 1) := by decide +kernel
theorem dX8_far_2 : decode cX8_far 2 = .ok (.ldc 137, 2) := by decide +kernel
theorem dX8_far_4 : decode cX8_far 4 = .ok (.invokestatic 86, 3) := by decide +kernel
theorem dX8_far_7 : decode cX8_far 7 = .ok (.ifCond .ne 5, 3) := by decide +kernel
theorem dX8_far_10 : decode cX8_far 10 = .ok (.iconst (-1), 1) := by decide +kernel
theorem dX8_far_11 : decode cX8_far 11 = .ok (.ireturn, 1) := by decide +kernel
theorem dX8_far_12 : decode cX8_far 12 = .ok (.iload_n 1, 1) := by decide +kernel
theorem dX8_far_13 : decode cX8_far 13 = .ok (.aload_n 0, 1) := by decide +kernel
theorem dX8_far_14 : decode cX8_far 14 = .ok (.getfield 83, 3) := by decide +kernel

theorem dX8_far_17 : decode cX8_far 17 = .ok (.if_icmp .ge 10, 3) := by decide +kernel
theorem dX8_far_20 : decode cX8_far 20 = .ok (.aload_n 0, 1) := by decide +kernel
theorem dX8_far_21 : decode cX8_far 21 = .ok (.getfield 38, 3) := by decide +kernel
theorem dX8_far_24 : decode cX8_far 24 = .ok (.iload_n 1, 1) := by decide +kernel
theorem dX8_far_25 : decode cX8_far 25 = .ok (.iaload, 1) := by decide +kernel
theorem dX8_far_26 : decode cX8_far 26 = .ok (.ireturn, 1) := by decide +kernel
theorem dX8_far_27 : decode cX8_far 27 = .ok (.aload_n 0, 1) := by decide +kernel
theorem dX8_far_28 : decode cX8_far 28 = .ok (.invokevirtual 127, 3) := by decide +kernel
theorem dX8_far_31 : decode cX8_far 31 = .ok (.aload_n 0, 1) := by decide +kernel
theorem dX8_far_32 : decode cX8_far 32 = .ok (.aload_n 0, 1) := by decide +kernel
theorem dX8_far_33 : decode cX8_far 33 = .ok (.getfield 83, 3) := by decide +kernel
theorem dX8_far_36 : decode cX8_far 36 = .ok (.bipush 16, 2) := by decide +kernel
theorem dX8_far_38 : decode cX8_far 38 = .ok (.invokevirtual 130, 3) := by decide +kernel
theorem dX8_far_41 : decode cX8_far 41 = .ok (.aload_n 0, 1) := by decide +kernel
theorem dX8_far_42 : decode cX8_far 42 = .ok (.getfield 120, 3) := by decide +kernel
theorem dX8_far_45 : decode cX8_far 45 = .ok (.ifCond .ne 5, 3) := by decide +kernel
theorem dX8_far_48 : decode cX8_far 48 = .ok (.iconst 0, 1) := by decide +kernel
theorem dX8_far_49 : decode cX8_far 49 = .ok (.ireturn, 1) := by decide +kernel
theorem dX8_far_50 : decode cX8_far 50 = .ok (.iconst 0, 1) := by decide +kernel
theorem dX8_far_51 : decode cX8_far 51 = .ok (.istore_n 2, 1) := by decide +kernel
theorem dX8_far_52 : decode cX8_far 52 = .ok (.iload_n 2, 1) := by decide +kernel
theorem dX8_far_53 : decode cX8_far 53 = .ok (.aload_n 0, 1) := by decide +kernel
theorem dX8_far_54 : decode cX8_far 54 = .ok (.getfield 120, 3) := by decide +kernel
theorem dX8_far_57 : decode cX8_far 57 = .ok (.if_icmp .ge 40, 3) := by decide +kernel
theorem dX8_far_60 : decode cX8_far 60 = .ok (.aload_n 0, 1) := by decide +kernel
theorem dX8_far_61 : decode cX8_far 61 = .ok (.getfield 53, 3) := by decide +kernel
theorem dX8_far_64 : decode cX8_far 64 = .ok (.iload_n 2, 1) := by decide +kernel
theorem dX8_far_65 : decode cX8_far 65 = .ok (.iload_n 2, 1) := by decide +kernel
theorem dX8_far_66 : decode cX8_far 66 = .ok (.ifCond .ne 7, 3) := by decide +kernel
theorem dX8_far_69 : decode cX8_far 69 = .ok (.iconst 1, 1) := by decide +kernel
theorem dX8_far_70 : decode cX8_far 70 = .ok (.goto 4, 3) := by decide +kernel
theorem dX8_far_73 : decode cX8_far 73 = .ok (.iconst 0, 1) := by decide +kernel
theorem dX8_far_74 : decode cX8_far 74 = .ok (.iastore, 1) := by decide +kernel
theorem dX8_far_75 : decode cX8_far 75 = .ok (.aload_n 0, 1) := by decide +kernel
theorem dX8_far_76 : decode cX8_far 76 = .ok (.getfield 56, 3) := by decide +kernel
theorem dX8_far_79 : decode cX8_far 79 = .ok (.iload_n 2, 1) := by decide +kernel
theorem dX8_far_80 : decode cX8_far 80 = .ok (.iload_n 2, 1) := by decide +kernel
theorem dX8_far_81 : decode cX8_far 81 = .ok (.iconst 1, 1) := by decide +kernel
theorem dX8_far_82 : decode cX8_far 82 = .ok (.if_icmp .ne 7, 3) := by decide +kernel
theorem dX8_far_85 : decode cX8_far 85 = .ok (.iconst 1, 1) := by decide +kernel
theorem dX8_far_86 : decode cX8_far 86 = .ok (.goto 4, 3) := by decide +kernel
theorem dX8_far_89 : decode cX8_far 89 = .ok (.iconst 0, 1) := by decide +kernel
theorem dX8_far_90 : decode cX8_far 90 = .ok (.iastore, 1) := by decide +kernel
theorem dX8_far_91 : decode cX8_far 91 = .ok (.iinc 2 1, 3) := by decide +kernel
theorem dX8_far_94 : decode cX8_far 94 = .ok (.goto (-42), 3) := by decide +kernel
theorem dX8_far_97 : decode cX8_far 97 = .ok (.aload_n 0, 1) := by decide +kernel
theorem dX8_far_98 : decode cX8_far 98 = .ok (.getfield 120, 3) := by decide +kernel
theorem dX8_far_101 : decode cX8_far 101 = .ok (.iconst 1, 1) := by decide +kernel
theorem dX8_far_102 : decode cX8_far 102 = .ok (.if_icmp .ne 14, 3) := by decide +kernel
theorem dX8_far_105 : decode cX8_far 105 = .ok (.aload_n 0, 1) := by decide +kernel
theorem dX8_far_106 : decode cX8_far 106 = .ok (.getfield 56, 3) := by decide +kernel
theorem dX8_far_109 : decode cX8_far 109 = .ok (.iconst 0, 1) := by decide +kernel
theorem dX8_far_110 : decode cX8_far 110 = .ok (.aload_n 0, 1) := by decide +kernel
theorem dX8_far_111 : decode cX8_far 111 = .ok (.iconst 1, 1) := by decide +kernel
theorem dX8_far_112 : decode cX8_far 112 = .ok (.invokevirtual 134, 3) := by decide +kernel
theorem dX8_far_115 : decode cX8_far 115 = .ok (.iastore, 1) := by decide +kernel
theorem dX8_far_116 : decode cX8_far 116 = .ok (.iload_n 1, 1) := by decide +kernel
theorem dX8_far_117 : decode cX8_far 117 = .ok (.istore_n 2, 1) := by decide +kernel
theorem dX8_far_118 : decode cX8_far 118 = .ok (.iload_n 2, 1) := by decide +kernel
theorem dX8_far_119 : decode cX8_far 119 = .ok (.ifCond .le 27, 3) := by decide +kernel
theorem dX8_far_122 : decode cX8_far 122 = .ok (.iload_n 2, 1) := by decide +kernel
theorem dX8_far_123 : decode cX8_far 123 = .ok (.iconst 1, 1) := by decide +kernel
theorem dX8_far_124 : decode cX8_far 124 = .ok (.iand, 1) := by decide +kernel
theorem dX8_far_125 : decode cX8_far 125 = .ok (.iconst 1, 1) := by decide +kernel
theorem dX8_far_126 : decode cX8_far 126 = .ok (.if_icmp .ne 8, 3) := by decide +kernel
theorem dX8_far_129 : decode cX8_far 129 = .ok (.aload_n 0, 1) := by decide +kernel
theorem dX8_far_130 : decode cX8_far 130 = .ok (.iconst 0, 1) := by decide +kernel
theorem dX8_far_131 : decode cX8_far 131 = .ok (.invokevirtual 138, 3) := by decide +kernel
theorem dX8_far_134 : decode cX8_far 134 = .ok (.aload_n 0, 1) := by decide +kernel
theorem dX8_far_135 : decode cX8_far 135 = .ok (.iconst 1, 1) := by decide +kernel
theorem dX8_far_136 : decode cX8_far 136 = .ok (.invokevirtual 138, 3) := by decide +kernel
theorem dX8_far_139 : decode cX8_far 139 = .ok (.iload_n 2, 1) := by decide +kernel
theorem dX8_far_140 : decode cX8_far 140 = .ok (.iconst 1, 1) := by decide +kernel
theorem dX8_far_141 : decode cX8_far 141 = .ok (.ishr, 1) := by decide +kernel
theorem dX8_far_142 : decode cX8_far 142 = .ok (.istore_n 2, 1) := by decide +kernel
theorem dX8_far_143 : decode cX8_far 143 = .ok (.goto (-25), 3) := by decide +kernel
theorem dX8_far_146 : decode cX8_far 146 = .ok (.iconst 0, 1) := by decide +kernel
theorem dX8_far_147 : decode cX8_far 147 = .ok (.istore_n 2, 1) := by decide +kernel
theorem dX8_far_148 : decode cX8_far 148 = .ok (.iconst 0, 1) := by decide +kernel
theorem dX8_far_149 : decode cX8_far 149 = .ok (.istore_n 3, 1) := by decide +kernel
theorem dX8_far_150 : decode cX8_far 150 = .ok (.iload_n 3, 1) := by decide +kernel
theorem dX8_far_151 : decode cX8_far 151 = .ok (.aload_n 0, 1) := by decide +kernel
theorem dX8_far_152 : decode cX8_far 152 = .ok (.getfield 120, 3) := by decide +kernel
theorem dX8_far_155 : decode cX8_far 155 = .ok (.if_icmp .ge 30, 3) := by decide +kernel
theorem dX8_far_158 : decode cX8_far 158 = .ok (.iload_n 2, 1) := by decide +kernel
theorem dX8_far_159 : decode cX8_far 159 = .ok (.aload_n 0, 1) := by decide +kernel
theorem dX8_far_160 : decode cX8_far 160 = .ok (.getfield 53, 3) := by decide +kernel
theorem dX8_far_163 : decode cX8_far 163 = .ok (.iload_n 3, 1) := by decide +kernel
theorem dX8_far_164 : decode cX8_far 164 = .ok (.iaload, 1) := by decide +kernel
theorem dX8_far_165 : decode cX8_far 165 = .ok (.aload_n 0, 1) := by decide +kernel
theorem dX8_far_166 : decode cX8_far 166 = .ok (.getfield 38, 3) := by decide +kernel
theorem dX8_far_169 : decode cX8_far 169 = .ok (.iload_n 3, 1) := by decide +kernel
theorem dX8_far_170 : decode cX8_far 170 = .ok (.iaload, 1) := by decide +kernel
theorem dX8_far_171 : decode cX8_far 171 = .ok (.imul, 1) := by decide +kernel
theorem dX8_far_172 : decode cX8_far 172 = .ok (.iadd, 1) := by decide +kernel
theorem dX8_far_173 : decode cX8_far 173 = .ok (.aload_n 0, 1) := by decide +kernel
theorem dX8_far_174 : decode cX8_far 174 = .ok (.getfield 7, 3) := by decide +kernel
theorem dX8_far_177 : decode cX8_far 177 = .ok (.irem, 1) := by decide +kernel
theorem dX8_far_178 : decode cX8_far 178 = .ok (.istore_n 2, 1) := by decide +kernel
theorem dX8_far_179 : decode cX8_far 179 = .ok (.iinc 3 1, 3) := by decide +kernel
theorem dX8_far_182 : decode cX8_far 182 = .ok (.goto (-32), 3) := by decide +kernel
theorem dX8_far_185 : decode cX8_far 185 = .ok (.iload_n 2, 1) := by decide +kernel
theorem dX8_far_186 : decode cX8_far 186 = .ok (.ireturn, 1) := by decide +kernel
set_option maxRecDepth 20000 in
theorem ggX8_lie_X8_in : GoodIn wsX8_lie wsX8_in := goodIn_r _ [10] (by decide +kernel) (by decide +kernel)
set_option maxRecDepth 20000 in
theorem gX8_lie_X8_in : GoodIn wsX8_lie (va_wsS RX8 86 yX8_in wsX8_in) := goodIn_app (goodIn_of _ (by decide +kernel)) ggX8_lie_X8_in
set_option maxRecDepth 20000 in
theorem ggX8_lie_X8_take : GoodIn wsX8_lie wsX8_take := goodIn_r _ [14, 1, 5, 6, 26, 27, 28, 29, 30, 31, 32, 33, 34, 35, 36, 37, 38, 39, 40, 41, 42, 43, 44, 45, 46, 47, 48, 49, 50, 51, 52, 53, 54] (by decide +kernel) (by decide +kernel)
set_option maxRecDepth 20000 in
theorem gX8_lie_X8_take : GoodIn wsX8_lie (wsV RX8 127 RX8 yX8_take wsX8_take) := goodIn_app (goodIn_of _ (by decide +kernel)) ggX8_lie_X8_take
set_option maxRecDepth 20000 in
theorem ggX8_lie_X8_grow : GoodIn wsX8_lie wsX8_grow := goodIn_r _ [18, 19, 20, 2, 5, 4, 21, 22, 23, 24, 9, 25, 26, 27, 28, 29, 30, 31, 32, 33, 34, 35, 36, 37, 38, 39, 40, 41, 42, 43, 44, 45, 46, 47, 48, 49, 50, 51, 52, 53, 54] (by decide +kernel) (by decide +kernel)
set_option maxRecDepth 20000 in
theorem gX8_lie_X8_grow : GoodIn wsX8_lie (wsV RX8 130 RX8 yX8_grow wsX8_grow) := goodIn_app (goodIn_of _ (by decide +kernel)) ggX8_lie_X8_grow
theorem dX8_lie_0 : decode cX8_lie 0 = .ok (.iload_n 1, 1) := by decide +kernel
theorem dX8_lie_1 : decode cX8_lie 1 = .ok (.iconst 0, 1) := by decide +kernel
theorem dX8_lie_2 : decode cX8_lie 2 = .ok (.bipush 7, 2) := by decide +kernel
theorem dX8_lie_4 : decode cX8_lie 4 = .ok (.invokestatic 86, 3) := by decide +kernel
theorem dX8_lie_7 : decode cX8_lie 7 = .ok (.ifCond .ne 5, 3) := by decide +kernel
theorem dX8_lie_10 : decode cX8_lie 10 = .ok (.iconst (-1), 1) := by decide +kernel
theorem dX8_lie_11 : decode cX8_lie 11 = .ok (.ireturn, 1) := by decide +kernel
theorem dX8_lie_12 : decode cX8_lie 12 = .ok (.aload_n 0, 1) := by decide +kernel
theorem dX8_lie_13 : decode cX8_lie 13 = .ok (.invokevirtual 127, 3) := by decide +kernel
theorem dX8_lie_16 : decode cX8_lie 16 = .ok (.aload_n 0, 1) := by decide +kernel
theorem dX8_lie_17 : decode cX8_lie 17 = .ok (.aload_n 0, 1) := by decide +kernel
theorem dX8_lie_18 : decode cX8_lie 18 = .ok (.getfield 83, 3) := by decide +kernel
theorem dX8_lie_21 : decode cX8_lie 21 = .ok (.iload_n 1, 1) := by decide +kernel
theorem dX8_lie_22 : decode cX8_lie 22 = .ok (.invokevirtual 130, 3) := by decide +kernel
theorem dX8_lie_25 : decode cX8_lie 25 = .ok (.aload_n 0, 1) := by decide +kernel
theorem dX8_lie_26 : decode cX8_lie 26 = .ok (.getfield 120, 3) := by decide +kernel
theorem dX8_lie_29 : decode cX8_lie 29 = .ok (.iload_n 1, 1) := by decide +kernel
theorem dX8_lie_30 : decode cX8_lie 30 = .ok (.if_icmp .gt 6, 3) := by decide +kernel
theorem dX8_lie_33 : decode cX8_lie 33 = .ok (.ldc 142, 2) := by decide +kernel
theorem dX8_lie_35 : decode cX8_lie 35 = .ok (.ireturn, 1) := by decide +kernel
theorem dX8_lie_36 : decode cX8_lie 36 = .ok (.iconst 0, 1) := by decide +kernel
theorem dX8_lie_37 : decode cX8_lie 37 = .ok (.istore_n 2, 1) := by decide +kernel
theorem dX8_lie_38 : decode cX8_lie 38 = .ok (.iload_n 2, 1) := by decide +kernel
theorem dX8_lie_39 : decode cX8_lie 39 = .ok (.aload_n 0, 1) := by decide +kernel
theorem dX8_lie_40 : decode cX8_lie 40 = .ok (.getfield 83, 3) := by decide +kernel
theorem dX8_lie_43 : decode cX8_lie 43 = .ok (.if_icmp .ge 69, 3) := by decide +kernel
theorem dX8_lie_46 : decode cX8_lie 46 = .ok (.iconst 0, 1) := by decide +kernel
theorem dX8_lie_47 : decode cX8_lie 47 = .ok (.istore_n 3, 1) := by decide +kernel
theorem dX8_lie_48 : decode cX8_lie 48 = .ok (.iload_n 3, 1) := by decide +kernel
theorem dX8_lie_49 : decode cX8_lie 49 = .ok (.aload_n 0, 1) := by decide +kernel
theorem dX8_lie_50 : decode cX8_lie 50 = .ok (.getfield 7, 3) := by decide +kernel
theorem dX8_lie_53 : decode cX8_lie 53 = .ok (.if_icmp .ge 41, 3) := by decide +kernel
theorem dX8_lie_56 : decode cX8_lie 56 = .ok (.aload_n 0, 1) := by decide +kernel
theorem dX8_lie_57 : decode cX8_lie 57 = .ok (.getfield 41, 3) := by decide +kernel
theorem dX8_lie_60 : decode cX8_lie 60 = .ok (.iload_n 2, 1) := by decide +kernel
theorem dX8_lie_61 : decode cX8_lie 61 = .ok (.iload_n 3, 1) := by decide +kernel
theorem dX8_lie_62 : decode cX8_lie 62 = .ok (.iastore, 1) := by decide +kernel
theorem dX8_lie_63 : decode cX8_lie 63 = .ok (.aload_n 0, 1) := by decide +kernel
theorem dX8_lie_64 : decode cX8_lie 64 = .ok (.aload_n 0, 1) := by decide +kernel
theorem dX8_lie_65 : decode cX8_lie 65 = .ok (.getfield 83, 3) := by decide +kernel
theorem dX8_lie_68 : decode cX8_lie 68 = .ok (.iload_n 1, 1) := by decide +kernel
theorem dX8_lie_69 : decode cX8_lie 69 = .ok (.invokevirtual 130, 3) := by decide +kernel
theorem dX8_lie_72 : decode cX8_lie 72 = .ok (.aload_n 0, 1) := by decide +kernel
theorem dX8_lie_73 : decode cX8_lie 73 = .ok (.getfield 120, 3) := by decide +kernel
theorem dX8_lie_76 : decode cX8_lie 76 = .ok (.iload_n 1, 1) := by decide +kernel
theorem dX8_lie_77 : decode cX8_lie 77 = .ok (.if_icmp .gt 11, 3) := by decide +kernel
theorem dX8_lie_80 : decode cX8_lie 80 = .ok (.sipush 1000, 3) := by decide +kernel
theorem dX8_lie_83 : decode cX8_lie 83 = .ok (.iload_n 2, 1) := by decide +kernel
theorem dX8_lie_84 : decode cX8_lie 84 = .ok (.imul, 1) := by decide +kernel
theorem dX8_lie_85 : decode cX8_lie 85 = .ok (.iload_n 3, 1) := by decide +kernel
theorem dX8_lie_86 : decode cX8_lie 86 = .ok (.iadd, 1) := by decide +kernel
theorem dX8_lie_87 : decode cX8_lie 87 = .ok (.ireturn, 1) := by decide +kernel
theorem dX8_lie_88 : decode cX8_lie 88 = .ok (.iinc 3 1, 3) := by decide +kernel
theorem dX8_lie_91 : decode cX8_lie 91 = .ok (.goto (-43), 3) := by decide +kernel
theorem dX8_lie_94 : decode cX8_lie 94 = .ok (.aload_n 0, 1) := by decide +kernel
theorem dX8_lie_95 : decode cX8_lie 95 = .ok (.getfield 41, 3) := by decide +kernel
theorem dX8_lie_98 : decode cX8_lie 98 = .ok (.iload_n 2, 1) := by decide +kernel
theorem dX8_lie_99 : decode cX8_lie 99 = .ok (.aload_n 0, 1) := by decide +kernel
theorem dX8_lie_100 : decode cX8_lie 100 = .ok (.getfield 38, 3) := by decide +kernel
theorem dX8_lie_103 : decode cX8_lie 103 = .ok (.iload_n 2, 1) := by decide +kernel
theorem dX8_lie_104 : decode cX8_lie 104 = .ok (.iaload, 1) := by decide +kernel
theorem dX8_lie_105 : decode cX8_lie 105 = .ok (.iastore, 1) := by decide +kernel
theorem dX8_lie_106 : decode cX8_lie 106 = .ok (.iinc 2 1, 3) := by decide +kernel
theorem dX8_lie_109 : decode cX8_lie 109 = .ok (.goto (-71), 3) := by decide +kernel
theorem dX8_lie_112 : decode cX8_lie 112 = .ok (.bipush (-9), 2) := by decide +kernel
theorem dX8_lie_114 : decode cX8_lie 114 = .ok (.ireturn, 1) := by decide +kernel
set_option maxRecDepth 20000 in
theorem ggX8_isRoot_X8_g : GoodIn wsX8_isRoot wsX8_g := goodIn_r _ [7, 2, 8, 13, 14, 15, 16, 17, 18, 19, 20, 21, 22, 23, 24, 25, 26, 27, 28, 29, 30, 31, 32, 33, 34, 35, 36, 37, 38, 39, 40, 41] (by decide +kernel) (by decide +kernel)
set_option maxRecDepth 20000 in
theorem gX8_isRoot_X8_g : GoodIn wsX8_isRoot (wsV RX8 134 RX8 yX8_g wsX8_g) := goodIn_app (goodIn_of _ (by decide +kernel)) ggX8_isRoot_X8_g
set_option maxRecDepth 20000 in
theorem ggX8_isRoot_X8_raised : GoodIn wsX8_isRoot wsX8_raised := goodIn_r _ [12, 2, 13, 14, 15, 16, 17, 18, 19, 20, 21, 22, 23, 24, 25, 26, 27, 28, 29, 30, 31, 32, 33, 34, 35, 36, 37, 38, 39, 40, 41] (by decide +kernel) (by decide +kernel)
set_option maxRecDepth 20000 in
theorem gX8_isRoot_X8_raised : GoodIn wsX8_isRoot (wsV RX8 90 RX8 yX8_raised wsX8_raised) := goodIn_app (goodIn_of _ (by decide +kernel)) ggX8_isRoot_X8_raised
theorem dX8_isRoot_0 : decode cX8_isRoot 0 = .ok (.iconst 0, 1) := by decide +kernel
theorem dX8_isRoot_1 : decode cX8_isRoot 1 = .ok (.istore_n 2, 1) := by decide +kernel
theorem dX8_isRoot_2 : decode cX8_isRoot 2 = .ok (.iconst 1, 1) := by decide +kernel
theorem dX8_isRoot_3 : decode cX8_isRoot 3 = .ok (.istore_n 3, 1) := by decide +kernel
theorem dX8_isRoot_4 : decode cX8_isRoot 4 = .ok (.iload_n 3, 1) := by decide +kernel
theorem dX8_isRoot_5 : decode cX8_isRoot 5 = .ok (.aload_n 0, 1) := by decide +kernel
theorem dX8_isRoot_6 : decode cX8_isRoot 6 = .ok (.getfield 120, 3) := by decide +kernel
theorem dX8_isRoot_9 : decode cX8_isRoot 9 = .ok (.if_icmp .gt 34, 3) := by decide +kernel
theorem dX8_isRoot_12 : decode cX8_isRoot 12 = .ok (.iload_n 2, 1) := by decide +kernel
theorem dX8_isRoot_13 : decode cX8_isRoot 13 = .ok (.aload_n 0, 1) := by decide +kernel
theorem dX8_isRoot_14 : decode cX8_isRoot 14 = .ok (.iload_n 3, 1) := by decide +kernel
theorem dX8_isRoot_15 : decode cX8_isRoot 15 = .ok (.invokevirtual 134, 3) := by decide +kernel
theorem dX8_isRoot_18 : decode cX8_isRoot 18 = .ok (.aload_n 0, 1) := by decide +kernel
theorem dX8_isRoot_19 : decode cX8_isRoot 19 = .ok (.iload_n 1, 1) := by decide +kernel
theorem dX8_isRoot_20 : decode cX8_isRoot 20 = .ok (.aload_n 0, 1) := by decide +kernel
theorem dX8_isRoot_21 : decode cX8_isRoot 21 = .ok (.getfield 120, 3) := by decide +kernel
theorem dX8_isRoot_24 : decode cX8_isRoot 24 = .ok (.iload_n 3, 1) := by decide +kernel
theorem dX8_isRoot_25 : decode cX8_isRoot 25 = .ok (.isub, 1) := by decide +kernel
theorem dX8_isRoot_26 : decode cX8_isRoot 26 = .ok (.invokevirtual 90, 3) := by decide +kernel
theorem dX8_isRoot_29 : decode cX8_isRoot 29 = .ok (.imul, 1) := by decide +kernel
theorem dX8_isRoot_30 : decode cX8_isRoot 30 = .ok (.iadd, 1) := by decide +kernel
theorem dX8_isRoot_31 : decode cX8_isRoot 31 = .ok (.aload_n 0, 1) := by decide +kernel
theorem dX8_isRoot_32 : decode cX8_isRoot 32 = .ok (.getfield 7, 3) := by decide +kernel
theorem dX8_isRoot_35 : decode cX8_isRoot 35 = .ok (.irem, 1) := by decide +kernel
theorem dX8_isRoot_36 : decode cX8_isRoot 36 = .ok (.istore_n 2, 1) := by decide +kernel
theorem dX8_isRoot_37 : decode cX8_isRoot 37 = .ok (.iinc 3 1, 3) := by decide +kernel
theorem dX8_isRoot_40 : decode cX8_isRoot 40 = .ok (.goto (-36), 3) := by decide +kernel
theorem dX8_isRoot_43 : decode cX8_isRoot 43 = .ok (.iload_n 2, 1) := by decide +kernel
theorem dX8_isRoot_44 : decode cX8_isRoot 44 = .ok (.aload_n 0, 1) := by decide +kernel
theorem dX8_isRoot_45 : decode cX8_isRoot 45 = .ok (.iload_n 1, 1) := by decide +kernel
theorem dX8_isRoot_46 : decode cX8_isRoot 46 = .ok (.aload_n 0, 1) := by decide +kernel
theorem dX8_isRoot_47 : decode cX8_isRoot 47 = .ok (.getfield 120, 3) := by decide +kernel
theorem dX8_isRoot_50 : decode cX8_isRoot 50 = .ok (.invokevirtual 90, 3) := by decide +kernel
theorem dX8_isRoot_53 : decode cX8_isRoot 53 = .ok (.if_icmp .ne 7, 3) := by decide +kernel
theorem dX8_isRoot_56 : decode cX8_isRoot 56 = .ok (.iconst 1, 1) := by decide +kernel
theorem dX8_isRoot_57 : decode cX8_isRoot 57 = .ok (.goto 4, 3) := by decide +kernel
theorem dX8_isRoot_60 : decode cX8_isRoot 60 = .ok (.iconst 0, 1) := by decide +kernel
theorem dX8_isRoot_61 : decode cX8_isRoot 61 = .ok (.ireturn, 1) := by decide +kernel
set_option maxRecDepth 20000 in
theorem ggX8_told_X8_raised : GoodIn wsX8_told wsX8_raised := goodIn_r _ [9, 4, 10, 11, 12, 13, 14, 15, 16, 17, 18, 19, 20, 21, 22, 23, 24, 25, 26, 27, 28, 29, 30, 31, 32, 33, 34, 35, 36, 37, 38] (by decide +kernel) (by decide +kernel)
set_option maxRecDepth 20000 in
theorem gX8_told_X8_raised : GoodIn wsX8_told (wsV RX8 90 RX8 yX8_raised wsX8_raised) := goodIn_app (goodIn_of _ (by decide +kernel)) ggX8_told_X8_raised
theorem dX8_told_0 : decode cX8_told 0 = .ok (.iconst 0, 1) := by decide +kernel
theorem dX8_told_1 : decode cX8_told 1 = .ok (.istore_n 2, 1) := by decide +kernel
theorem dX8_told_2 : decode cX8_told 2 = .ok (.iconst 0, 1) := by decide +kernel
theorem dX8_told_3 : decode cX8_told 3 = .ok (.istore_n 3, 1) := by decide +kernel
theorem dX8_told_4 : decode cX8_told 4 = .ok (.iload_n 3, 1) := by decide +kernel
theorem dX8_told_5 : decode cX8_told 5 = .ok (.aload_n 0, 1) := by decide +kernel
theorem dX8_told_6 : decode cX8_told 6 = .ok (.getfield 143, 3) := by decide +kernel
theorem dX8_told_9 : decode cX8_told 9 = .ok (.if_icmp .ge 35, 3) := by decide +kernel
theorem dX8_told_12 : decode cX8_told 12 = .ok (.iload_n 2, 1) := by decide +kernel
theorem dX8_told_13 : decode cX8_told 13 = .ok (.aload_n 0, 1) := by decide +kernel
theorem dX8_told_14 : decode cX8_told 14 = .ok (.getfield 77, 3) := by decide +kernel
theorem dX8_told_17 : decode cX8_told 17 = .ok (.iload_n 3, 1) := by decide +kernel
theorem dX8_told_18 : decode cX8_told 18 = .ok (.iaload, 1) := by decide +kernel
theorem dX8_told_19 : decode cX8_told 19 = .ok (.aload_n 0, 1) := by decide +kernel
theorem dX8_told_20 : decode cX8_told 20 = .ok (.aload_n 0, 1) := by decide +kernel
theorem dX8_told_21 : decode cX8_told 21 = .ok (.getfield 74, 3) := by decide +kernel
theorem dX8_told_24 : decode cX8_told 24 = .ok (.iload_n 3, 1) := by decide +kernel
theorem dX8_told_25 : decode cX8_told 25 = .ok (.iaload, 1) := by decide +kernel
theorem dX8_told_26 : decode cX8_told 26 = .ok (.iload_n 1, 1) := by decide +kernel
theorem dX8_told_27 : decode cX8_told 27 = .ok (.invokevirtual 90, 3) := by decide +kernel
theorem dX8_told_30 : decode cX8_told 30 = .ok (.imul, 1) := by decide +kernel
theorem dX8_told_31 : decode cX8_told 31 = .ok (.iadd, 1) := by decide +kernel
theorem dX8_told_32 : decode cX8_told 32 = .ok (.aload_n 0, 1) := by decide +kernel
theorem dX8_told_33 : decode cX8_told 33 = .ok (.getfield 7, 3) := by decide +kernel
theorem dX8_told_36 : decode cX8_told 36 = .ok (.irem, 1) := by decide +kernel
theorem dX8_told_37 : decode cX8_told 37 = .ok (.istore_n 2, 1) := by decide +kernel
theorem dX8_told_38 : decode cX8_told 38 = .ok (.iinc 3 1, 3) := by decide +kernel
theorem dX8_told_41 : decode cX8_told 41 = .ok (.goto (-37), 3) := by decide +kernel
theorem dX8_told_44 : decode cX8_told 44 = .ok (.iload_n 2, 1) := by decide +kernel
theorem dX8_told_45 : decode cX8_told 45 = .ok (.ireturn, 1) := by decide +kernel
set_option maxRecDepth 20000 in
theorem ggX8_solve_X8_raised : GoodIn wsX8_solve wsX8_raised := goodIn_r _ [11, 5, 16, 17, 18, 19, 20, 21, 22, 23, 24, 25, 26, 27, 28, 29, 30, 31, 32, 33, 34, 35, 36, 37, 38, 39, 40, 41, 42, 43, 44] (by decide +kernel) (by decide +kernel)
set_option maxRecDepth 20000 in
theorem gX8_solve_X8_raised : GoodIn wsX8_solve (wsV RX8 90 RX8 yX8_raised wsX8_raised) := goodIn_app (goodIn_of _ (by decide +kernel)) ggX8_solve_X8_raised
set_option maxRecDepth 20000 in
theorem ggX8_solve_X8_over : GoodIn wsX8_solve wsX8_over := goodIn_r _ [15, 5, 16, 17, 18, 19, 20, 21, 22, 23, 24, 25, 26, 27, 28, 29, 30, 31, 32, 33, 34, 35, 36, 37, 38, 39, 40, 41, 42, 43, 44] (by decide +kernel) (by decide +kernel)
set_option maxRecDepth 20000 in
theorem gX8_solve_X8_over : GoodIn wsX8_solve (wsV RX8 123 RX8 yX8_over wsX8_over) := goodIn_app (goodIn_of _ (by decide +kernel)) ggX8_solve_X8_over
theorem dX8_solve_0 : decode cX8_solve 0 = .ok (.iconst 0, 1) := by decide +kernel
theorem dX8_solve_1 : decode cX8_solve 1 = .ok (.istore_n 1, 1) := by decide +kernel
theorem dX8_solve_2 : decode cX8_solve 2 = .ok (.iload_n 1, 1) := by decide +kernel
theorem dX8_solve_3 : decode cX8_solve 3 = .ok (.aload_n 0, 1) := by decide +kernel
theorem dX8_solve_4 : decode cX8_solve 4 = .ok (.getfield 143, 3) := by decide +kernel
theorem dX8_solve_7 : decode cX8_solve 7 = .ok (.if_icmp .ge 62, 3) := by decide +kernel
theorem dX8_solve_10 : decode cX8_solve 10 = .ok (.iconst 0, 1) := by decide +kernel
theorem dX8_solve_11 : decode cX8_solve 11 = .ok (.istore_n 2, 1) := by decide +kernel
theorem dX8_solve_12 : decode cX8_solve 12 = .ok (.iload_n 2, 1) := by decide +kernel
theorem dX8_solve_13 : decode cX8_solve 13 = .ok (.aload_n 0, 1) := by decide +kernel
theorem dX8_solve_14 : decode cX8_solve 14 = .ok (.getfield 143, 3) := by decide +kernel
theorem dX8_solve_17 : decode cX8_solve 17 = .ok (.if_icmp .ge 30, 3) := by decide +kernel
theorem dX8_solve_20 : decode cX8_solve 20 = .ok (.aload_n 0, 1) := by decide +kernel
theorem dX8_solve_21 : decode cX8_solve 21 = .ok (.getfield 80, 3) := by decide +kernel
theorem dX8_solve_24 : decode cX8_solve 24 = .ok (.iconst 5, 1) := by decide +kernel
theorem dX8_solve_25 : decode cX8_solve 25 = .ok (.iload_n 1, 1) := by decide +kernel
theorem dX8_solve_26 : decode cX8_solve 26 = .ok (.imul, 1) := by decide +kernel
theorem dX8_solve_27 : decode cX8_solve 27 = .ok (.iload_n 2, 1) := by decide +kernel
theorem dX8_solve_28 : decode cX8_solve 28 = .ok (.iadd, 1) := by decide +kernel
theorem dX8_solve_29 : decode cX8_solve 29 = .ok (.aload_n 0, 1) := by decide +kernel
theorem dX8_solve_30 : decode cX8_solve 30 = .ok (.aload_n 0, 1) := by decide +kernel
theorem dX8_solve_31 : decode cX8_solve 31 = .ok (.getfield 74, 3) := by decide +kernel
theorem dX8_solve_34 : decode cX8_solve 34 = .ok (.iload_n 2, 1) := by decide +kernel
theorem dX8_solve_35 : decode cX8_solve 35 = .ok (.iaload, 1) := by decide +kernel
theorem dX8_solve_36 : decode cX8_solve 36 = .ok (.iload_n 1, 1) := by decide +kernel
theorem dX8_solve_37 : decode cX8_solve 37 = .ok (.invokevirtual 90, 3) := by decide +kernel
theorem dX8_solve_40 : decode cX8_solve 40 = .ok (.iastore, 1) := by decide +kernel
theorem dX8_solve_41 : decode cX8_solve 41 = .ok (.iinc 2 1, 3) := by decide +kernel
theorem dX8_solve_44 : decode cX8_solve 44 = .ok (.goto (-32), 3) := by decide +kernel
theorem dX8_solve_47 : decode cX8_solve 47 = .ok (.aload_n 0, 1) := by decide +kernel
theorem dX8_solve_48 : decode cX8_solve 48 = .ok (.getfield 80, 3) := by decide +kernel
theorem dX8_solve_51 : decode cX8_solve 51 = .ok (.iconst 5, 1) := by decide +kernel
theorem dX8_solve_52 : decode cX8_solve 52 = .ok (.iload_n 1, 1) := by decide +kernel
theorem dX8_solve_53 : decode cX8_solve 53 = .ok (.imul, 1) := by decide +kernel
theorem dX8_solve_54 : decode cX8_solve 54 = .ok (.iconst 4, 1) := by decide +kernel
theorem dX8_solve_55 : decode cX8_solve 55 = .ok (.iadd, 1) := by decide +kernel
theorem dX8_solve_56 : decode cX8_solve 56 = .ok (.aload_n 0, 1) := by decide +kernel
theorem dX8_solve_57 : decode cX8_solve 57 = .ok (.getfield 62, 3) := by decide +kernel
theorem dX8_solve_60 : decode cX8_solve 60 = .ok (.iload_n 1, 1) := by decide +kernel
theorem dX8_solve_61 : decode cX8_solve 61 = .ok (.iaload, 1) := by decide +kernel
theorem dX8_solve_62 : decode cX8_solve 62 = .ok (.iastore, 1) := by decide +kernel
theorem dX8_solve_63 : decode cX8_solve 63 = .ok (.iinc 1 1, 3) := by decide +kernel
theorem dX8_solve_66 : decode cX8_solve 66 = .ok (.goto (-64), 3) := by decide +kernel
theorem dX8_solve_69 : decode cX8_solve 69 = .ok (.iconst 0, 1) := by decide +kernel
theorem dX8_solve_70 : decode cX8_solve 70 = .ok (.istore_n 1, 1) := by decide +kernel
theorem dX8_solve_71 : decode cX8_solve 71 = .ok (.iload_n 1, 1) := by decide +kernel
theorem dX8_solve_72 : decode cX8_solve 72 = .ok (.aload_n 0, 1) := by decide +kernel
theorem dX8_solve_73 : decode cX8_solve 73 = .ok (.getfield 143, 3) := by decide +kernel
theorem dX8_solve_76 : decode cX8_solve 76 = .ok (.if_icmp .ge 251, 3) := by decide +kernel
theorem dX8_solve_79 : decode cX8_solve 79 = .ok (.iload_n 1, 1) := by decide +kernel
theorem dX8_solve_80 : decode cX8_solve 80 = .ok (.istore_n 2, 1) := by decide +kernel
theorem dX8_solve_81 : decode cX8_solve 81 = .ok (.aload_n 0, 1) := by decide +kernel
theorem dX8_solve_82 : decode cX8_solve 82 = .ok (.getfield 80, 3) := by decide +kernel
theorem dX8_solve_85 : decode cX8_solve 85 = .ok (.iconst 5, 1) := by decide +kernel
theorem dX8_solve_86 : decode cX8_solve 86 = .ok (.iload_n 2, 1) := by decide +kernel
theorem dX8_solve_87 : decode cX8_solve 87 = .ok (.imul, 1) := by decide +kernel
theorem dX8_solve_88 : decode cX8_solve 88 = .ok (.iload_n 1, 1) := by decide +kernel
theorem dX8_solve_89 : decode cX8_solve 89 = .ok (.iadd, 1) := by decide +kernel
theorem dX8_solve_90 : decode cX8_solve 90 = .ok (.iaload, 1) := by decide +kernel
theorem dX8_solve_91 : decode cX8_solve 91 = .ok (.ifCond .ne 9, 3) := by decide +kernel
theorem dX8_solve_94 : decode cX8_solve 94 = .ok (.iinc 2 1, 3) := by decide +kernel
theorem dX8_solve_97 : decode cX8_solve 97 = .ok (.goto (-16), 3) := by decide +kernel
theorem dX8_solve_100 : decode cX8_solve 100 = .ok (.iconst 0, 1) := by decide +kernel
theorem dX8_solve_101 : decode cX8_solve 101 = .ok (.istore_n 3, 1) := by decide +kernel
theorem dX8_solve_102 : decode cX8_solve 102 = .ok (.iload_n 3, 1) := by decide +kernel
theorem dX8_solve_103 : decode cX8_solve 103 = .ok (.iconst 5, 1) := by decide +kernel
theorem dX8_solve_104 : decode cX8_solve 104 = .ok (.if_icmp .ge 53, 3) := by decide +kernel
theorem dX8_solve_107 : decode cX8_solve 107 = .ok (.aload_n 0, 1) := by decide +kernel
theorem dX8_solve_108 : decode cX8_solve 108 = .ok (.getfield 80, 3) := by decide +kernel
theorem dX8_solve_111 : decode cX8_solve 111 = .ok (.iconst 5, 1) := by decide +kernel
theorem dX8_solve_112 : decode cX8_solve 112 = .ok (.iload_n 1, 1) := by decide +kernel
theorem dX8_solve_113 : decode cX8_solve 113 = .ok (.imul, 1) := by decide +kernel
theorem dX8_solve_114 : decode cX8_solve 114 = .ok (.iload_n 3, 1) := by decide +kernel
theorem dX8_solve_115 : decode cX8_solve 115 = .ok (.iadd, 1) := by decide +kernel
theorem dX8_solve_116 : decode cX8_solve 116 = .ok (.iaload, 1) := by decide +kernel
theorem dX8_solve_117 : decode cX8_solve 117 = .ok (.istore 4, 2) := by decide +kernel
theorem dX8_solve_119 : decode cX8_solve 119 = .ok (.aload_n 0, 1) := by decide +kernel
theorem dX8_solve_120 : decode cX8_solve 120 = .ok (.getfield 80, 3) := by decide +kernel
theorem dX8_solve_123 : decode cX8_solve 123 = .ok (.iconst 5, 1) := by decide +kernel
theorem dX8_solve_124 : decode cX8_solve 124 = .ok (.iload_n 1, 1) := by decide +kernel
theorem dX8_solve_125 : decode cX8_solve 125 = .ok (.imul, 1) := by decide +kernel
theorem dX8_solve_126 : decode cX8_solve 126 = .ok (.iload_n 3, 1) := by decide +kernel
theorem dX8_solve_127 : decode cX8_solve 127 = .ok (.iadd, 1) := by decide +kernel
theorem dX8_solve_128 : decode cX8_solve 128 = .ok (.aload_n 0, 1) := by decide +kernel
theorem dX8_solve_129 : decode cX8_solve 129 = .ok (.getfield 80, 3) := by decide +kernel
theorem dX8_solve_132 : decode cX8_solve 132 = .ok (.iconst 5, 1) := by decide +kernel
theorem dX8_solve_133 : decode cX8_solve 133 = .ok (.iload_n 2, 1) := by decide +kernel
theorem dX8_solve_134 : decode cX8_solve 134 = .ok (.imul, 1) := by decide +kernel
theorem dX8_solve_135 : decode cX8_solve 135 = .ok (.iload_n 3, 1) := by decide +kernel
theorem dX8_solve_136 : decode cX8_solve 136 = .ok (.iadd, 1) := by decide +kernel
theorem dX8_solve_137 : decode cX8_solve 137 = .ok (.iaload, 1) := by decide +kernel
theorem dX8_solve_138 : decode cX8_solve 138 = .ok (.iastore, 1) := by decide +kernel
theorem dX8_solve_139 : decode cX8_solve 139 = .ok (.aload_n 0, 1) := by decide +kernel
theorem dX8_solve_140 : decode cX8_solve 140 = .ok (.getfield 80, 3) := by decide +kernel
theorem dX8_solve_143 : decode cX8_solve 143 = .ok (.iconst 5, 1) := by decide +kernel
theorem dX8_solve_144 : decode cX8_solve 144 = .ok (.iload_n 2, 1) := by decide +kernel
theorem dX8_solve_145 : decode cX8_solve 145 = .ok (.imul, 1) := by decide +kernel
theorem dX8_solve_146 : decode cX8_solve 146 = .ok (.iload_n 3, 1) := by decide +kernel
theorem dX8_solve_147 : decode cX8_solve 147 = .ok (.iadd, 1) := by decide +kernel
theorem dX8_solve_148 : decode cX8_solve 148 = .ok (.iload 4, 2) := by decide +kernel
theorem dX8_solve_150 : decode cX8_solve 150 = .ok (.iastore, 1) := by decide +kernel
theorem dX8_solve_151 : decode cX8_solve 151 = .ok (.iinc 3 1, 3) := by decide +kernel
theorem dX8_solve_154 : decode cX8_solve 154 = .ok (.goto (-52), 3) := by decide +kernel
theorem dX8_solve_157 : decode cX8_solve 157 = .ok (.aload_n 0, 1) := by decide +kernel
theorem dX8_solve_158 : decode cX8_solve 158 = .ok (.aload_n 0, 1) := by decide +kernel
theorem dX8_solve_159 : decode cX8_solve 159 = .ok (.getfield 80, 3) := by decide +kernel
theorem dX8_solve_162 : decode cX8_solve 162 = .ok (.iconst 5, 1) := by decide +kernel
theorem dX8_solve_163 : decode cX8_solve 163 = .ok (.iload_n 1, 1) := by decide +kernel
theorem dX8_solve_164 : decode cX8_solve 164 = .ok (.imul, 1) := by decide +kernel
theorem dX8_solve_165 : decode cX8_solve 165 = .ok (.iload_n 1, 1) := by decide +kernel
theorem dX8_solve_166 : decode cX8_solve 166 = .ok (.iadd, 1) := by decide +kernel
theorem dX8_solve_167 : decode cX8_solve 167 = .ok (.iaload, 1) := by decide +kernel
theorem dX8_solve_168 : decode cX8_solve 168 = .ok (.invokevirtual 123, 3) := by decide +kernel
theorem dX8_solve_171 : decode cX8_solve 171 = .ok (.istore_n 3, 1) := by decide +kernel
theorem dX8_solve_172 : decode cX8_solve 172 = .ok (.iconst 0, 1) := by decide +kernel
theorem dX8_solve_173 : decode cX8_solve 173 = .ok (.istore 4, 2) := by decide +kernel
theorem dX8_solve_175 : decode cX8_solve 175 = .ok (.iload 4, 2) := by decide +kernel
theorem dX8_solve_177 : decode cX8_solve 177 = .ok (.iconst 5, 1) := by decide +kernel
theorem dX8_solve_178 : decode cX8_solve 178 = .ok (.if_icmp .ge 38, 3) := by decide +kernel
theorem dX8_solve_181 : decode cX8_solve 181 = .ok (.aload_n 0, 1) := by decide +kernel
theorem dX8_solve_182 : decode cX8_solve 182 = .ok (.getfield 80, 3) := by decide +kernel
theorem dX8_solve_185 : decode cX8_solve 185 = .ok (.iconst 5, 1) := by decide +kernel
theorem dX8_solve_186 : decode cX8_solve 186 = .ok (.iload_n 1, 1) := by decide +kernel
theorem dX8_solve_187 : decode cX8_solve 187 = .ok (.imul, 1) := by decide +kernel
theorem dX8_solve_188 : decode cX8_solve 188 = .ok (.iload 4, 2) := by decide +kernel
theorem dX8_solve_190 : decode cX8_solve 190 = .ok (.iadd, 1) := by decide +kernel
theorem dX8_solve_191 : decode cX8_solve 191 = .ok (.aload_n 0, 1) := by decide +kernel
theorem dX8_solve_192 : decode cX8_solve 192 = .ok (.getfield 80, 3) := by decide +kernel
theorem dX8_solve_195 : decode cX8_solve 195 = .ok (.iconst 5, 1) := by decide +kernel
theorem dX8_solve_196 : decode cX8_solve 196 = .ok (.iload_n 1, 1) := by decide +kernel
theorem dX8_solve_197 : decode cX8_solve 197 = .ok (.imul, 1) := by decide +kernel
theorem dX8_solve_198 : decode cX8_solve 198 = .ok (.iload 4, 2) := by decide +kernel
theorem dX8_solve_200 : decode cX8_solve 200 = .ok (.iadd, 1) := by decide +kernel
theorem dX8_solve_201 : decode cX8_solve 201 = .ok (.iaload, 1) := by decide +kernel
theorem dX8_solve_202 : decode cX8_solve 202 = .ok (.iload_n 3, 1) := by decide +kernel
theorem dX8_solve_203 : decode cX8_solve 203 = .ok (.imul, 1) := by decide +kernel
theorem dX8_solve_204 : decode cX8_solve 204 = .ok (.aload_n 0, 1) := by decide +kernel
theorem dX8_solve_205 : decode cX8_solve 205 = .ok (.getfield 7, 3) := by decide +kernel
theorem dX8_solve_208 : decode cX8_solve 208 = .ok (.irem, 1) := by decide +kernel
theorem dX8_solve_209 : decode cX8_solve 209 = .ok (.iastore, 1) := by decide +kernel
theorem dX8_solve_210 : decode cX8_solve 210 = .ok (.iinc 4 1, 3) := by decide +kernel
theorem dX8_solve_213 : decode cX8_solve 213 = .ok (.goto (-38), 3) := by decide +kernel
theorem dX8_solve_216 : decode cX8_solve 216 = .ok (.iconst 0, 1) := by decide +kernel
theorem dX8_solve_217 : decode cX8_solve 217 = .ok (.istore 4, 2) := by decide +kernel
theorem dX8_solve_219 : decode cX8_solve 219 = .ok (.iload 4, 2) := by decide +kernel
theorem dX8_solve_221 : decode cX8_solve 221 = .ok (.aload_n 0, 1) := by decide +kernel
theorem dX8_solve_222 : decode cX8_solve 222 = .ok (.getfield 143, 3) := by decide +kernel
theorem dX8_solve_225 : decode cX8_solve 225 = .ok (.if_icmp .ge 96, 3) := by decide +kernel
theorem dX8_solve_228 : decode cX8_solve 228 = .ok (.iload 4, 2) := by decide +kernel
theorem dX8_solve_230 : decode cX8_solve 230 = .ok (.iload_n 1, 1) := by decide +kernel
theorem dX8_solve_231 : decode cX8_solve 231 = .ok (.if_icmp .ne 7, 3) := by decide +kernel
theorem dX8_solve_234 : decode cX8_solve 234 = .ok (.iconst 0, 1) := by decide +kernel
theorem dX8_solve_235 : decode cX8_solve 235 = .ok (.goto 14, 3) := by decide +kernel
theorem dX8_solve_238 : decode cX8_solve 238 = .ok (.aload_n 0, 1) := by decide +kernel
theorem dX8_solve_239 : decode cX8_solve 239 = .ok (.getfield 80, 3) := by decide +kernel
theorem dX8_solve_242 : decode cX8_solve 242 = .ok (.iconst 5, 1) := by decide +kernel
theorem dX8_solve_243 : decode cX8_solve 243 = .ok (.iload 4, 2) := by decide +kernel
theorem dX8_solve_245 : decode cX8_solve 245 = .ok (.imul, 1) := by decide +kernel
theorem dX8_solve_246 : decode cX8_solve 246 = .ok (.iload_n 1, 1) := by decide +kernel
theorem dX8_solve_247 : decode cX8_solve 247 = .ok (.iadd, 1) := by decide +kernel
theorem dX8_solve_248 : decode cX8_solve 248 = .ok (.iaload, 1) := by decide +kernel
theorem dX8_solve_249 : decode cX8_solve 249 = .ok (.istore 5, 2) := by decide +kernel
theorem dX8_solve_251 : decode cX8_solve 251 = .ok (.iconst 0, 1) := by decide +kernel
theorem dX8_solve_252 : decode cX8_solve 252 = .ok (.istore 6, 2) := by decide +kernel
theorem dX8_solve_254 : decode cX8_solve 254 = .ok (.iload 6, 2) := by decide +kernel
theorem dX8_solve_256 : decode cX8_solve 256 = .ok (.iconst 5, 1) := by decide +kernel
theorem dX8_solve_257 : decode cX8_solve 257 = .ok (.if_icmp .ge 58, 3) := by decide +kernel
theorem dX8_solve_260 : decode cX8_solve 260 = .ok (.aload_n 0, 1) := by decide +kernel
theorem dX8_solve_261 : decode cX8_solve 261 = .ok (.getfield 80, 3) := by decide +kernel
theorem dX8_solve_264 : decode cX8_solve 264 = .ok (.iconst 5, 1) := by decide +kernel
theorem dX8_solve_265 : decode cX8_solve 265 = .ok (.iload 4, 2) := by decide +kernel
theorem dX8_solve_267 : decode cX8_solve 267 = .ok (.imul, 1) := by decide +kernel
theorem dX8_solve_268 : decode cX8_solve 268 = .ok (.iload 6, 2) := by decide +kernel
theorem dX8_solve_270 : decode cX8_solve 270 = .ok (.iadd, 1) := by decide +kernel
theorem dX8_solve_271 : decode cX8_solve 271 = .ok (.aload_n 0, 1) := by decide +kernel
theorem dX8_solve_272 : decode cX8_solve 272 = .ok (.getfield 80, 3) := by decide +kernel
theorem dX8_solve_275 : decode cX8_solve 275 = .ok (.iconst 5, 1) := by decide +kernel
theorem dX8_solve_276 : decode cX8_solve 276 = .ok (.iload 4, 2) := by decide +kernel
theorem dX8_solve_278 : decode cX8_solve 278 = .ok (.imul, 1) := by decide +kernel
theorem dX8_solve_279 : decode cX8_solve 279 = .ok (.iload 6, 2) := by decide +kernel
theorem dX8_solve_281 : decode cX8_solve 281 = .ok (.iadd, 1) := by decide +kernel
theorem dX8_solve_282 : decode cX8_solve 282 = .ok (.iaload, 1) := by decide +kernel
theorem dX8_solve_283 : decode cX8_solve 283 = .ok (.aload_n 0, 1) := by decide +kernel
theorem dX8_solve_284 : decode cX8_solve 284 = .ok (.getfield 7, 3) := by decide +kernel
theorem dX8_solve_287 : decode cX8_solve 287 = .ok (.iload 5, 2) := by decide +kernel
theorem dX8_solve_289 : decode cX8_solve 289 = .ok (.isub, 1) := by decide +kernel
theorem dX8_solve_290 : decode cX8_solve 290 = .ok (.aload_n 0, 1) := by decide +kernel
theorem dX8_solve_291 : decode cX8_solve 291 = .ok (.getfield 80, 3) := by decide +kernel
theorem dX8_solve_294 : decode cX8_solve 294 = .ok (.iconst 5, 1) := by decide +kernel
theorem dX8_solve_295 : decode cX8_solve 295 = .ok (.iload_n 1, 1) := by decide +kernel
theorem dX8_solve_296 : decode cX8_solve 296 = .ok (.imul, 1) := by decide +kernel
theorem dX8_solve_297 : decode cX8_solve 297 = .ok (.iload 6, 2) := by decide +kernel
theorem dX8_solve_299 : decode cX8_solve 299 = .ok (.iadd, 1) := by decide +kernel
theorem dX8_solve_300 : decode cX8_solve 300 = .ok (.iaload, 1) := by decide +kernel
theorem dX8_solve_301 : decode cX8_solve 301 = .ok (.imul, 1) := by decide +kernel
theorem dX8_solve_302 : decode cX8_solve 302 = .ok (.iadd, 1) := by decide +kernel
theorem dX8_solve_303 : decode cX8_solve 303 = .ok (.aload_n 0, 1) := by decide +kernel
theorem dX8_solve_304 : decode cX8_solve 304 = .ok (.getfield 7, 3) := by decide +kernel
theorem dX8_solve_307 : decode cX8_solve 307 = .ok (.irem, 1) := by decide +kernel
theorem dX8_solve_308 : decode cX8_solve 308 = .ok (.iastore, 1) := by decide +kernel
theorem dX8_solve_309 : decode cX8_solve 309 = .ok (.iinc 6 1, 3) := by decide +kernel
theorem dX8_solve_312 : decode cX8_solve 312 = .ok (.goto (-58), 3) := by decide +kernel
theorem dX8_solve_315 : decode cX8_solve 315 = .ok (.iinc 4 1, 3) := by decide +kernel
theorem dX8_solve_318 : decode cX8_solve 318 = .ok (.goto (-99), 3) := by decide +kernel
theorem dX8_solve_321 : decode cX8_solve 321 = .ok (.iinc 1 1, 3) := by decide +kernel
theorem dX8_solve_324 : decode cX8_solve 324 = .ok (.goto (-253), 3) := by decide +kernel
theorem dX8_solve_327 : decode cX8_solve 327 = .ok (.iconst 0, 1) := by decide +kernel
theorem dX8_solve_328 : decode cX8_solve 328 = .ok (.istore_n 1, 1) := by decide +kernel
theorem dX8_solve_329 : decode cX8_solve 329 = .ok (.iload_n 1, 1) := by decide +kernel
theorem dX8_solve_330 : decode cX8_solve 330 = .ok (.aload_n 0, 1) := by decide +kernel
theorem dX8_solve_331 : decode cX8_solve 331 = .ok (.getfield 143, 3) := by decide +kernel
theorem dX8_solve_334 : decode cX8_solve 334 = .ok (.if_icmp .ge 25, 3) := by decide +kernel
theorem dX8_solve_337 : decode cX8_solve 337 = .ok (.aload_n 0, 1) := by decide +kernel
theorem dX8_solve_338 : decode cX8_solve 338 = .ok (.getfield 77, 3) := by decide +kernel
theorem dX8_solve_341 : decode cX8_solve 341 = .ok (.iload_n 1, 1) := by decide +kernel
theorem dX8_solve_342 : decode cX8_solve 342 = .ok (.aload_n 0, 1) := by decide +kernel
theorem dX8_solve_343 : decode cX8_solve 343 = .ok (.getfield 80, 3) := by decide +kernel
theorem dX8_solve_346 : decode cX8_solve 346 = .ok (.iconst 5, 1) := by decide +kernel
theorem dX8_solve_347 : decode cX8_solve 347 = .ok (.iload_n 1, 1) := by decide +kernel
theorem dX8_solve_348 : decode cX8_solve 348 = .ok (.imul, 1) := by decide +kernel
theorem dX8_solve_349 : decode cX8_solve 349 = .ok (.iconst 4, 1) := by decide +kernel
theorem dX8_solve_350 : decode cX8_solve 350 = .ok (.iadd, 1) := by decide +kernel
theorem dX8_solve_351 : decode cX8_solve 351 = .ok (.iaload, 1) := by decide +kernel
theorem dX8_solve_352 : decode cX8_solve 352 = .ok (.iastore, 1) := by decide +kernel
theorem dX8_solve_353 : decode cX8_solve 353 = .ok (.iinc 1 1, 3) := by decide +kernel
theorem dX8_solve_356 : decode cX8_solve 356 = .ok (.goto (-27), 3) := by decide +kernel
theorem dX8_solve_359 : decode cX8_solve 359 = .ok (.return_, 1) := by decide +kernel
set_option maxRecDepth 20000 in
theorem ggX8_getBack_X8_raised : GoodIn wsX8_getBack wsX8_raised := goodIn_r _ [15, 3, 61, 62, 63, 64, 65, 66, 67, 68, 69, 70, 71, 72, 73, 74, 75, 76, 77, 78, 79, 80, 81, 82, 83, 84, 85, 86, 87, 88, 89] (by decide +kernel) (by decide +kernel)
set_option maxRecDepth 20000 in
theorem gX8_getBack_X8_raised : GoodIn wsX8_getBack (wsV RX8 90 RX8 yX8_raised wsX8_raised) := goodIn_app (goodIn_of _ (by decide +kernel)) ggX8_getBack_X8_raised
set_option maxRecDepth 20000 in
theorem ggX8_getBack_X8_answer : GoodIn wsX8_getBack wsX8_answer := goodIn_r _ [19, 20, 21, 22, 23, 3, 24, 25, 26, 27, 28, 14, 29, 30, 31, 11, 12, 13, 15, 61, 62, 63, 64, 65, 66, 67, 68, 69, 70, 71, 72, 73, 74, 75, 76, 77, 78, 79, 80, 81, 82, 83, 84, 85, 86, 87, 88, 89] (by decide +kernel) (by decide +kernel)
set_option maxRecDepth 20000 in
theorem gX8_getBack_X8_answer : GoodIn wsX8_getBack (wsV RX8 116 RX8 yX8_answer wsX8_answer) := goodIn_app (goodIn_of _ (by decide +kernel)) ggX8_getBack_X8_answer
set_option maxRecDepth 20000 in
theorem ggX8_getBack_X8_grow : GoodIn wsX8_getBack wsX8_grow := goodIn_r _ [35, 36, 37, 5, 4, 3, 38, 39, 40, 41, 14, 42, 61, 62, 63, 64, 65, 66, 67, 68, 69, 70, 71, 72, 73, 74, 75, 76, 77, 78, 79, 80, 81, 82, 83, 84, 85, 86, 87, 88, 89] (by decide +kernel) (by decide +kernel)
set_option maxRecDepth 20000 in
theorem gX8_getBack_X8_grow : GoodIn wsX8_getBack (wsV RX8 130 RX8 yX8_grow wsX8_grow) := goodIn_app (goodIn_of _ (by decide +kernel)) ggX8_getBack_X8_grow
set_option maxRecDepth 20000 in
theorem ggX8_getBack_X8_isRoot : GoodIn wsX8_getBack wsX8_isRoot := goodIn_r _ [46, 5, 3, 47, 48, 49, 14, 50, 36, 11, 12, 13, 15, 61, 62, 63, 64, 65, 66, 67, 68, 69, 70, 71, 72, 73, 74, 75, 76, 77, 78, 79, 80, 81, 82, 83, 84, 85, 86, 87, 88, 89] (by decide +kernel) (by decide +kernel)
set_option maxRecDepth 20000 in
theorem gX8_getBack_X8_isRoot : GoodIn wsX8_getBack (wsV RX8 146 RX8 yX8_isRoot wsX8_isRoot) := goodIn_app (goodIn_of _ (by decide +kernel)) ggX8_getBack_X8_isRoot
set_option maxRecDepth 20000 in
theorem ggX8_getBack_X8_solve : GoodIn wsX8_getBack wsX8_solve := goodIn_r _ [54, 6, 55, 7, 2, 3, 56, 11, 12, 13, 14, 15, 39, 40, 41, 42, 61, 62, 63, 64, 65, 66, 67, 68, 69, 70, 71, 72, 73, 74, 75, 76, 77, 78, 79, 80, 81, 82, 83, 84, 85, 86, 87, 88, 89] (by decide +kernel) (by decide +kernel)
set_option maxRecDepth 20000 in
theorem gX8_getBack_X8_solve : GoodIn wsX8_getBack (wsV RX8 149 RX8 yX8_solve wsX8_solve) := goodIn_app (goodIn_of _ (by decide +kernel)) ggX8_getBack_X8_solve
set_option maxRecDepth 20000 in
theorem ggX8_getBack_X8_told : GoodIn wsX8_getBack wsX8_told := goodIn_r _ [60, 6, 56, 7, 3, 11, 12, 13, 14, 15, 61, 62, 63, 64, 65, 66, 67, 68, 69, 70, 71, 72, 73, 74, 75, 76, 77, 78, 79, 80, 81, 82, 83, 84, 85, 86, 87, 88, 89] (by decide +kernel) (by decide +kernel)
set_option maxRecDepth 20000 in
theorem gX8_getBack_X8_told : GoodIn wsX8_getBack (wsV RX8 152 RX8 yX8_told wsX8_told) := goodIn_app (goodIn_of _ (by decide +kernel)) ggX8_getBack_X8_told
theorem dX8_getBack_0 : decode cX8_getBack 0 = .ok (.aload_n 0, 1) := by decide +kernel
theorem dX8_getBack_1 : decode cX8_getBack 1 = .ok (.dup, 1) := by decide +kernel
theorem dX8_getBack_2 : decode cX8_getBack 2 = .ok (.getfield 113, 3) := by decide +kernel
theorem dX8_getBack_5 : decode cX8_getBack 5 = .ok (.bipush 9, 2) := by decide +kernel
theorem dX8_getBack_7 : decode cX8_getBack 7 = .ok (.iadd, 1) := by decide +kernel
theorem dX8_getBack_8 : decode cX8_getBack 8 = .ok (.putfield 113, 3) := by decide +kernel
theorem dX8_getBack_11 : decode cX8_getBack 11 = .ok (.iconst 0, 1) := by decide +kernel
theorem dX8_getBack_12 : decode cX8_getBack 12 = .ok (.istore_n 2, 1) := by decide +kernel
theorem dX8_getBack_13 : decode cX8_getBack 13 = .ok (.iload_n 2, 1) := by decide +kernel
theorem dX8_getBack_14 : decode cX8_getBack 14 = .ok (.bipush 9, 2) := by decide +kernel
theorem dX8_getBack_16 : decode cX8_getBack 16 = .ok (.if_icmp .ge 43, 3) := by decide +kernel
theorem dX8_getBack_19 : decode cX8_getBack 19 = .ok (.aload_n 0, 1) := by decide +kernel
theorem dX8_getBack_20 : decode cX8_getBack 20 = .ok (.getfield 62, 3) := by decide +kernel
theorem dX8_getBack_23 : decode cX8_getBack 23 = .ok (.iload_n 2, 1) := by decide +kernel
theorem dX8_getBack_24 : decode cX8_getBack 24 = .ok (.aload_n 0, 1) := by decide +kernel
theorem dX8_getBack_25 : decode cX8_getBack 25 = .ok (.iload_n 1, 1) := by decide +kernel
theorem dX8_getBack_26 : decode cX8_getBack 26 = .ok (.aload_n 0, 1) := by decide +kernel
theorem dX8_getBack_27 : decode cX8_getBack 27 = .ok (.iconst 2, 1) := by decide +kernel
theorem dX8_getBack_28 : decode cX8_getBack 28 = .ok (.iload_n 2, 1) := by decide +kernel
theorem dX8_getBack_29 : decode cX8_getBack 29 = .ok (.invokevirtual 90, 3) := by decide +kernel
theorem dX8_getBack_32 : decode cX8_getBack 32 = .ok (.aload_n 0, 1) := by decide +kernel
theorem dX8_getBack_33 : decode cX8_getBack 33 = .ok (.iconst 3, 1) := by decide +kernel
theorem dX8_getBack_34 : decode cX8_getBack 34 = .ok (.iload_n 2, 1) := by decide +kernel
theorem dX8_getBack_35 : decode cX8_getBack 35 = .ok (.invokevirtual 90, 3) := by decide +kernel
theorem dX8_getBack_38 : decode cX8_getBack 38 = .ok (.aload_n 0, 1) := by decide +kernel
theorem dX8_getBack_39 : decode cX8_getBack 39 = .ok (.iconst 5, 1) := by decide +kernel
theorem dX8_getBack_40 : decode cX8_getBack 40 = .ok (.aload_n 0, 1) := by decide +kernel
theorem dX8_getBack_41 : decode cX8_getBack 41 = .ok (.getfield 7, 3) := by decide +kernel
theorem dX8_getBack_44 : decode cX8_getBack 44 = .ok (.irem, 1) := by decide +kernel
theorem dX8_getBack_45 : decode cX8_getBack 45 = .ok (.iload_n 2, 1) := by decide +kernel
theorem dX8_getBack_46 : decode cX8_getBack 46 = .ok (.invokevirtual 90, 3) := by decide +kernel
theorem dX8_getBack_49 : decode cX8_getBack 49 = .ok (.invokevirtual 116, 3) := by decide +kernel
theorem dX8_getBack_52 : decode cX8_getBack 52 = .ok (.iastore, 1) := by decide +kernel
theorem dX8_getBack_53 : decode cX8_getBack 53 = .ok (.iinc 2 1, 3) := by decide +kernel
theorem dX8_getBack_56 : decode cX8_getBack 56 = .ok (.goto (-43), 3) := by decide +kernel
theorem dX8_getBack_59 : decode cX8_getBack 59 = .ok (.iconst 0, 1) := by decide +kernel
theorem dX8_getBack_60 : decode cX8_getBack 60 = .ok (.istore_n 2, 1) := by decide +kernel
theorem dX8_getBack_61 : decode cX8_getBack 61 = .ok (.iload_n 2, 1) := by decide +kernel
theorem dX8_getBack_62 : decode cX8_getBack 62 = .ok (.bipush 8, 2) := by decide +kernel
theorem dX8_getBack_64 : decode cX8_getBack 64 = .ok (.if_icmp .ge 21, 3) := by decide +kernel
theorem dX8_getBack_67 : decode cX8_getBack 67 = .ok (.aload_n 0, 1) := by decide +kernel
theorem dX8_getBack_68 : decode cX8_getBack 68 = .ok (.getfield 41, 3) := by decide +kernel
theorem dX8_getBack_71 : decode cX8_getBack 71 = .ok (.iload_n 2, 1) := by decide +kernel
theorem dX8_getBack_72 : decode cX8_getBack 72 = .ok (.aload_n 0, 1) := by decide +kernel
theorem dX8_getBack_73 : decode cX8_getBack 73 = .ok (.getfield 62, 3) := by decide +kernel
theorem dX8_getBack_76 : decode cX8_getBack 76 = .ok (.iload_n 2, 1) := by decide +kernel
theorem dX8_getBack_77 : decode cX8_getBack 77 = .ok (.iaload, 1) := by decide +kernel
theorem dX8_getBack_78 : decode cX8_getBack 78 = .ok (.iastore, 1) := by decide +kernel
theorem dX8_getBack_79 : decode cX8_getBack 79 = .ok (.iinc 2 1, 3) := by decide +kernel
theorem dX8_getBack_82 : decode cX8_getBack 82 = .ok (.goto (-21), 3) := by decide +kernel
theorem dX8_getBack_85 : decode cX8_getBack 85 = .ok (.aload_n 0, 1) := by decide +kernel
theorem dX8_getBack_86 : decode cX8_getBack 86 = .ok (.bipush 8, 2) := by decide +kernel
theorem dX8_getBack_88 : decode cX8_getBack 88 = .ok (.bipush 16, 2) := by decide +kernel
theorem dX8_getBack_90 : decode cX8_getBack 90 = .ok (.invokevirtual 130, 3) := by decide +kernel
theorem dX8_getBack_93 : decode cX8_getBack 93 = .ok (.aload_n 0, 1) := by decide +kernel
theorem dX8_getBack_94 : decode cX8_getBack 94 = .ok (.getfield 120, 3) := by decide +kernel
theorem dX8_getBack_97 : decode cX8_getBack 97 = .ok (.iconst 4, 1) := by decide +kernel
theorem dX8_getBack_98 : decode cX8_getBack 98 = .ok (.if_icmp .le 5, 3) := by decide +kernel
theorem dX8_getBack_101 : decode cX8_getBack 101 = .ok (.iconst 0, 1) := by decide +kernel
theorem dX8_getBack_102 : decode cX8_getBack 102 = .ok (.ireturn, 1) := by decide +kernel
theorem dX8_getBack_103 : decode cX8_getBack 103 = .ok (.aload_n 0, 1) := by decide +kernel
theorem dX8_getBack_104 : decode cX8_getBack 104 = .ok (.iconst 0, 1) := by decide +kernel
theorem dX8_getBack_105 : decode cX8_getBack 105 = .ok (.putfield 143, 3) := by decide +kernel
theorem dX8_getBack_108 : decode cX8_getBack 108 = .ok (.iconst 0, 1) := by decide +kernel
theorem dX8_getBack_109 : decode cX8_getBack 109 = .ok (.istore_n 2, 1) := by decide +kernel
theorem dX8_getBack_110 : decode cX8_getBack 110 = .ok (.iload_n 2, 1) := by decide +kernel
theorem dX8_getBack_111 : decode cX8_getBack 111 = .ok (.bipush 125, 2) := by decide +kernel
theorem dX8_getBack_113 : decode cX8_getBack 113 = .ok (.if_icmp .ge 179, 3) := by decide +kernel
theorem dX8_getBack_116 : decode cX8_getBack 116 = .ok (.iload_n 2, 1) := by decide +kernel
theorem dX8_getBack_117 : decode cX8_getBack 117 = .ok (.bipush 25, 2) := by decide +kernel
theorem dX8_getBack_119 : decode cX8_getBack 119 = .ok (.idiv, 1) := by decide +kernel
theorem dX8_getBack_120 : decode cX8_getBack 120 = .ok (.istore_n 3, 1) := by decide +kernel
theorem dX8_getBack_121 : decode cX8_getBack 121 = .ok (.iload_n 2, 1) := by decide +kernel
theorem dX8_getBack_122 : decode cX8_getBack 122 = .ok (.iconst 5, 1) := by decide +kernel
theorem dX8_getBack_123 : decode cX8_getBack 123 = .ok (.idiv, 1) := by decide +kernel
theorem dX8_getBack_124 : decode cX8_getBack 124 = .ok (.iconst 5, 1) := by decide +kernel
theorem dX8_getBack_125 : decode cX8_getBack 125 = .ok (.irem, 1) := by decide +kernel
theorem dX8_getBack_126 : decode cX8_getBack 126 = .ok (.istore 4, 2) := by decide +kernel
theorem dX8_getBack_128 : decode cX8_getBack 128 = .ok (.iload_n 2, 1) := by decide +kernel
theorem dX8_getBack_129 : decode cX8_getBack 129 = .ok (.iconst 5, 1) := by decide +kernel
theorem dX8_getBack_130 : decode cX8_getBack 130 = .ok (.irem, 1) := by decide +kernel
theorem dX8_getBack_131 : decode cX8_getBack 131 = .ok (.istore 5, 2) := by decide +kernel
theorem dX8_getBack_133 : decode cX8_getBack 133 = .ok (.aload_n 0, 1) := by decide +kernel
theorem dX8_getBack_134 : decode cX8_getBack 134 = .ok (.iconst 2, 1) := by decide +kernel
theorem dX8_getBack_135 : decode cX8_getBack 135 = .ok (.iload_n 3, 1) := by decide +kernel
theorem dX8_getBack_136 : decode cX8_getBack 136 = .ok (.invokevirtual 90, 3) := by decide +kernel
theorem dX8_getBack_139 : decode cX8_getBack 139 = .ok (.aload_n 0, 1) := by decide +kernel
theorem dX8_getBack_140 : decode cX8_getBack 140 = .ok (.iconst 3, 1) := by decide +kernel
theorem dX8_getBack_141 : decode cX8_getBack 141 = .ok (.iload 4, 2) := by decide +kernel
theorem dX8_getBack_143 : decode cX8_getBack 143 = .ok (.invokevirtual 90, 3) := by decide +kernel
theorem dX8_getBack_146 : decode cX8_getBack 146 = .ok (.imul, 1) := by decide +kernel
theorem dX8_getBack_147 : decode cX8_getBack 147 = .ok (.aload_n 0, 1) := by decide +kernel
theorem dX8_getBack_148 : decode cX8_getBack 148 = .ok (.getfield 7, 3) := by decide +kernel
theorem dX8_getBack_151 : decode cX8_getBack 151 = .ok (.irem, 1) := by decide +kernel
theorem dX8_getBack_152 : decode cX8_getBack 152 = .ok (.aload_n 0, 1) := by decide +kernel
theorem dX8_getBack_153 : decode cX8_getBack 153 = .ok (.iconst 5, 1) := by decide +kernel
theorem dX8_getBack_154 : decode cX8_getBack 154 = .ok (.aload_n 0, 1) := by decide +kernel
theorem dX8_getBack_155 : decode cX8_getBack 155 = .ok (.getfield 7, 3) := by decide +kernel
theorem dX8_getBack_158 : decode cX8_getBack 158 = .ok (.irem, 1) := by decide +kernel
theorem dX8_getBack_159 : decode cX8_getBack 159 = .ok (.iload 5, 2) := by decide +kernel
theorem dX8_getBack_161 : decode cX8_getBack 161 = .ok (.invokevirtual 90, 3) := by decide +kernel
theorem dX8_getBack_164 : decode cX8_getBack 164 = .ok (.imul, 1) := by decide +kernel
theorem dX8_getBack_165 : decode cX8_getBack 165 = .ok (.aload_n 0, 1) := by decide +kernel
theorem dX8_getBack_166 : decode cX8_getBack 166 = .ok (.getfield 7, 3) := by decide +kernel
theorem dX8_getBack_169 : decode cX8_getBack 169 = .ok (.irem, 1) := by decide +kernel
theorem dX8_getBack_170 : decode cX8_getBack 170 = .ok (.istore 6, 2) := by decide +kernel
theorem dX8_getBack_172 : decode cX8_getBack 172 = .ok (.aload_n 0, 1) := by decide +kernel
theorem dX8_getBack_173 : decode cX8_getBack 173 = .ok (.getfield 120, 3) := by decide +kernel
theorem dX8_getBack_176 : decode cX8_getBack 176 = .ok (.ifCond .le 110, 3) := by decide +kernel
theorem dX8_getBack_179 : decode cX8_getBack 179 = .ok (.aload_n 0, 1) := by decide +kernel
theorem dX8_getBack_180 : decode cX8_getBack 180 = .ok (.iload 6, 2) := by decide +kernel
theorem dX8_getBack_182 : decode cX8_getBack 182 = .ok (.invokevirtual 146, 3) := by decide +kernel
theorem dX8_getBack_185 : decode cX8_getBack 185 = .ok (.ifCond .eq 101, 3) := by decide +kernel
theorem dX8_getBack_188 : decode cX8_getBack 188 = .ok (.iconst 0, 1) := by decide +kernel
theorem dX8_getBack_189 : decode cX8_getBack 189 = .ok (.istore 7, 2) := by decide +kernel
theorem dX8_getBack_191 : decode cX8_getBack 191 = .ok (.iload 7, 2) := by decide +kernel
theorem dX8_getBack_193 : decode cX8_getBack 193 = .ok (.aload_n 0, 1) := by decide +kernel
theorem dX8_getBack_194 : decode cX8_getBack 194 = .ok (.getfield 143, 3) := by decide +kernel
theorem dX8_getBack_197 : decode cX8_getBack 197 = .ok (.if_icmp .ge 23, 3) := by decide +kernel
theorem dX8_getBack_200 : decode cX8_getBack 200 = .ok (.aload_n 0, 1) := by decide +kernel
theorem dX8_getBack_201 : decode cX8_getBack 201 = .ok (.getfield 74, 3) := by decide +kernel
theorem dX8_getBack_204 : decode cX8_getBack 204 = .ok (.iload 7, 2) := by decide +kernel
theorem dX8_getBack_206 : decode cX8_getBack 206 = .ok (.iaload, 1) := by decide +kernel
theorem dX8_getBack_207 : decode cX8_getBack 207 = .ok (.iload 6, 2) := by decide +kernel
theorem dX8_getBack_209 : decode cX8_getBack 209 = .ok (.if_icmp .ne 5, 3) := by decide +kernel
theorem dX8_getBack_212 : decode cX8_getBack 212 = .ok (.iconst 0, 1) := by decide +kernel
theorem dX8_getBack_213 : decode cX8_getBack 213 = .ok (.ireturn, 1) := by decide +kernel
theorem dX8_getBack_214 : decode cX8_getBack 214 = .ok (.iinc 7 1, 3) := by decide +kernel
theorem dX8_getBack_217 : decode cX8_getBack 217 = .ok (.goto (-26), 3) := by decide +kernel
theorem dX8_getBack_220 : decode cX8_getBack 220 = .ok (.aload_n 0, 1) := by decide +kernel
theorem dX8_getBack_221 : decode cX8_getBack 221 = .ok (.getfield 143, 3) := by decide +kernel
theorem dX8_getBack_224 : decode cX8_getBack 224 = .ok (.aload_n 0, 1) := by decide +kernel
theorem dX8_getBack_225 : decode cX8_getBack 225 = .ok (.getfield 120, 3) := by decide +kernel
theorem dX8_getBack_228 : decode cX8_getBack 228 = .ok (.if_icmp .ne 5, 3) := by decide +kernel
theorem dX8_getBack_231 : decode cX8_getBack 231 = .ok (.iconst 0, 1) := by decide +kernel
theorem dX8_getBack_232 : decode cX8_getBack 232 = .ok (.ireturn, 1) := by decide +kernel
theorem dX8_getBack_233 : decode cX8_getBack 233 = .ok (.aload_n 0, 1) := by decide +kernel
theorem dX8_getBack_234 : decode cX8_getBack 234 = .ok (.getfield 65, 3) := by decide +kernel
theorem dX8_getBack_237 : decode cX8_getBack 237 = .ok (.aload_n 0, 1) := by decide +kernel
theorem dX8_getBack_238 : decode cX8_getBack 238 = .ok (.getfield 143, 3) := by decide +kernel
theorem dX8_getBack_241 : decode cX8_getBack 241 = .ok (.iload_n 3, 1) := by decide +kernel
theorem dX8_getBack_242 : decode cX8_getBack 242 = .ok (.iastore, 1) := by decide +kernel
theorem dX8_getBack_243 : decode cX8_getBack 243 = .ok (.aload_n 0, 1) := by decide +kernel
theorem dX8_getBack_244 : decode cX8_getBack 244 = .ok (.getfield 68, 3) := by decide +kernel
theorem dX8_getBack_247 : decode cX8_getBack 247 = .ok (.aload_n 0, 1) := by decide +kernel
theorem dX8_getBack_248 : decode cX8_getBack 248 = .ok (.getfield 143, 3) := by decide +kernel
theorem dX8_getBack_251 : decode cX8_getBack 251 = .ok (.iload 4, 2) := by decide +kernel
theorem dX8_getBack_253 : decode cX8_getBack 253 = .ok (.iastore, 1) := by decide +kernel
theorem dX8_getBack_254 : decode cX8_getBack 254 = .ok (.aload_n 0, 1) := by decide +kernel
theorem dX8_getBack_255 : decode cX8_getBack 255 = .ok (.getfield 71, 3) := by decide +kernel
theorem dX8_getBack_258 : decode cX8_getBack 258 = .ok (.aload_n 0, 1) := by decide +kernel
theorem dX8_getBack_259 : decode cX8_getBack 259 = .ok (.getfield 143, 3) := by decide +kernel
theorem dX8_getBack_262 : decode cX8_getBack 262 = .ok (.iload 5, 2) := by decide +kernel
theorem dX8_getBack_264 : decode cX8_getBack 264 = .ok (.iastore, 1) := by decide +kernel
theorem dX8_getBack_265 : decode cX8_getBack 265 = .ok (.aload_n 0, 1) := by decide +kernel
theorem dX8_getBack_266 : decode cX8_getBack 266 = .ok (.getfield 74, 3) := by decide +kernel
theorem dX8_getBack_269 : decode cX8_getBack 269 = .ok (.aload_n 0, 1) := by decide +kernel
theorem dX8_getBack_270 : decode cX8_getBack 270 = .ok (.getfield 143, 3) := by decide +kernel
theorem dX8_getBack_273 : decode cX8_getBack 273 = .ok (.iload 6, 2) := by decide +kernel
theorem dX8_getBack_275 : decode cX8_getBack 275 = .ok (.iastore, 1) := by decide +kernel
theorem dX8_getBack_276 : decode cX8_getBack 276 = .ok (.aload_n 0, 1) := by decide +kernel
theorem dX8_getBack_277 : decode cX8_getBack 277 = .ok (.dup, 1) := by decide +kernel
theorem dX8_getBack_278 : decode cX8_getBack 278 = .ok (.getfield 143, 3) := by decide +kernel
theorem dX8_getBack_281 : decode cX8_getBack 281 = .ok (.iconst 1, 1) := by decide +kernel
theorem dX8_getBack_282 : decode cX8_getBack 282 = .ok (.iadd, 1) := by decide +kernel
theorem dX8_getBack_283 : decode cX8_getBack 283 = .ok (.putfield 143, 3) := by decide +kernel
theorem dX8_getBack_286 : decode cX8_getBack 286 = .ok (.iinc 2 1, 3) := by decide +kernel
theorem dX8_getBack_289 : decode cX8_getBack 289 = .ok (.goto (-179), 3) := by decide +kernel
theorem dX8_getBack_292 : decode cX8_getBack 292 = .ok (.aload_n 0, 1) := by decide +kernel
theorem dX8_getBack_293 : decode cX8_getBack 293 = .ok (.getfield 143, 3) := by decide +kernel
theorem dX8_getBack_296 : decode cX8_getBack 296 = .ok (.aload_n 0, 1) := by decide +kernel
theorem dX8_getBack_297 : decode cX8_getBack 297 = .ok (.getfield 120, 3) := by decide +kernel
theorem dX8_getBack_300 : decode cX8_getBack 300 = .ok (.if_icmp .eq 5, 3) := by decide +kernel
theorem dX8_getBack_303 : decode cX8_getBack 303 = .ok (.iconst 0, 1) := by decide +kernel
theorem dX8_getBack_304 : decode cX8_getBack 304 = .ok (.ireturn, 1) := by decide +kernel
theorem dX8_getBack_305 : decode cX8_getBack 305 = .ok (.aload_n 0, 1) := by decide +kernel
theorem dX8_getBack_306 : decode cX8_getBack 306 = .ok (.invokevirtual 149, 3) := by decide +kernel
theorem dX8_getBack_309 : decode cX8_getBack 309 = .ok (.aload_n 0, 1) := by decide +kernel
theorem dX8_getBack_310 : decode cX8_getBack 310 = .ok (.bipush 8, 2) := by decide +kernel
theorem dX8_getBack_312 : decode cX8_getBack 312 = .ok (.invokevirtual 152, 3) := by decide +kernel
theorem dX8_getBack_315 : decode cX8_getBack 315 = .ok (.aload_n 0, 1) := by decide +kernel
theorem dX8_getBack_316 : decode cX8_getBack 316 = .ok (.getfield 62, 3) := by decide +kernel
theorem dX8_getBack_319 : decode cX8_getBack 319 = .ok (.bipush 8, 2) := by decide +kernel
theorem dX8_getBack_321 : decode cX8_getBack 321 = .ok (.iaload, 1) := by decide +kernel
theorem dX8_getBack_322 : decode cX8_getBack 322 = .ok (.if_icmp .ne 7, 3) := by decide +kernel
theorem dX8_getBack_325 : decode cX8_getBack 325 = .ok (.iconst 1, 1) := by decide +kernel
theorem dX8_getBack_326 : decode cX8_getBack 326 = .ok (.goto 4, 3) := by decide +kernel
theorem dX8_getBack_329 : decode cX8_getBack 329 = .ok (.iconst 0, 1) := by decide +kernel
theorem dX8_getBack_330 : decode cX8_getBack 330 = .ok (.ireturn, 1) := by decide +kernel
set_option maxRecDepth 20000 in
theorem ggX8_got_X8_isBox : GoodIn wsX8_got wsX8_isBox := goodIn_r _ [9, 10, 11, 8, 12] (by decide +kernel) (by decide +kernel)
set_option maxRecDepth 20000 in
theorem gX8_got_X8_isBox : GoodIn wsX8_got (va_wsS RX8 110 yX8_isBox wsX8_isBox) := goodIn_app (goodIn_of _ (by decide +kernel)) ggX8_got_X8_isBox
set_option maxRecDepth 20000 in
theorem ggX8_got_X8_in : GoodIn wsX8_got wsX8_in := goodIn_r _ [12] (by decide +kernel) (by decide +kernel)
set_option maxRecDepth 20000 in
theorem gX8_got_X8_in : GoodIn wsX8_got (va_wsS RX8 86 yX8_in wsX8_in) := goodIn_app (goodIn_of _ (by decide +kernel)) ggX8_got_X8_in
set_option maxRecDepth 20000 in
theorem ggX8_got_X8_getBack : GoodIn wsX8_got wsX8_getBack := goodIn_r _ [16, 17, 18, 19, 20, 21, 1, 22, 3, 4, 5, 23, 24, 25, 8, 26, 27, 28, 29, 30, 31, 32, 33, 34, 35, 36, 37, 38, 39, 40, 41, 42, 43, 44, 45, 46, 47, 48, 49, 50, 51, 52, 53, 54, 55, 56, 57, 58, 59, 60, 61, 62, 63, 64, 65, 66, 2, 67, 68, 69, 70, 71, 72, 73, 74, 75, 76, 77, 78, 79, 80, 81, 82, 83, 84, 85, 86, 87, 88, 89, 90, 91, 92, 93, 94, 95, 96, 97, 98, 99] (by decide +kernel) (by decide +kernel)
set_option maxRecDepth 20000 in
theorem gX8_got_X8_getBack : GoodIn wsX8_got (wsV RX8 155 RX8 yX8_getBack wsX8_getBack) := goodIn_app (goodIn_of _ (by decide +kernel)) ggX8_got_X8_getBack
theorem dX8_got_0 : decode cX8_got 0 = .ok (.iload_n 1, 1) := by decide +kernel
theorem dX8_got_1 : decode cX8_got 1 = .ok (.invokestatic 110, 3) := by decide +kernel
theorem dX8_got_4 : decode cX8_got 4 = .ok (.ifCond .eq 12, 3) := by decide +kernel
theorem dX8_got_7 : decode cX8_got 7 = .ok (.iload_n 2, 1) := by decide +kernel
theorem dX8_got_8 : decode cX8_got 8 = .ok (.iconst 0, 1) := by decide +kernel
theorem dX8_got_9 : decode cX8_got 9 = .ok (.iconst 4, 1) := by decide +kernel
theorem dX8_got_10 : decode cX8_got 10 = .ok (.invokestatic 86, 3) := by decide +kernel
theorem dX8_got_13 : decode cX8_got 13 = .ok (.ifCond .ne 5, 3) := by decide +kernel
theorem dX8_got_16 : decode cX8_got 16 = .ok (.iconst (-1), 1) := by decide +kernel
theorem dX8_got_17 : decode cX8_got 17 = .ok (.ireturn, 1) := by decide +kernel
theorem dX8_got_18 : decode cX8_got 18 = .ok (.aload_n 0, 1) := by decide +kernel
theorem dX8_got_19 : decode cX8_got 19 = .ok (.iload_n 1, 1) := by decide +kernel
theorem dX8_got_20 : decode cX8_got 20 = .ok (.invokevirtual 155, 3) := by decide +kernel
theorem dX8_got_23 : decode cX8_got 23 = .ok (.ifCond .ne 6, 3) := by decide +kernel
theorem dX8_got_26 : decode cX8_got 26 = .ok (.bipush (-2), 2) := by decide +kernel
theorem dX8_got_28 : decode cX8_got 28 = .ok (.ireturn, 1) := by decide +kernel
theorem dX8_got_29 : decode cX8_got 29 = .ok (.iload_n 2, 1) := by decide +kernel
theorem dX8_got_30 : decode cX8_got 30 = .ok (.ifCond .ne 8, 3) := by decide +kernel
theorem dX8_got_33 : decode cX8_got 33 = .ok (.aload_n 0, 1) := by decide +kernel
theorem dX8_got_34 : decode cX8_got 34 = .ok (.getfield 143, 3) := by decide +kernel
theorem dX8_got_37 : decode cX8_got 37 = .ok (.ireturn, 1) := by decide +kernel
theorem dX8_got_38 : decode cX8_got 38 = .ok (.iload_n 3, 1) := by decide +kernel
theorem dX8_got_39 : decode cX8_got 39 = .ok (.iconst 0, 1) := by decide +kernel
theorem dX8_got_40 : decode cX8_got 40 = .ok (.aload_n 0, 1) := by decide +kernel
theorem dX8_got_41 : decode cX8_got 41 = .ok (.getfield 143, 3) := by decide +kernel
theorem dX8_got_44 : decode cX8_got 44 = .ok (.iconst 1, 1) := by decide +kernel
theorem dX8_got_45 : decode cX8_got 45 = .ok (.isub, 1) := by decide +kernel
theorem dX8_got_46 : decode cX8_got 46 = .ok (.invokestatic 86, 3) := by decide +kernel
theorem dX8_got_49 : decode cX8_got 49 = .ok (.ifCond .ne 5, 3) := by decide +kernel
theorem dX8_got_52 : decode cX8_got 52 = .ok (.iconst (-1), 1) := by decide +kernel
theorem dX8_got_53 : decode cX8_got 53 = .ok (.ireturn, 1) := by decide +kernel
theorem dX8_got_54 : decode cX8_got 54 = .ok (.iload_n 2, 1) := by decide +kernel
theorem dX8_got_55 : decode cX8_got 55 = .ok (.iconst 1, 1) := by decide +kernel
theorem dX8_got_56 : decode cX8_got 56 = .ok (.if_icmp .ne 12, 3) := by decide +kernel
theorem dX8_got_59 : decode cX8_got 59 = .ok (.aload_n 0, 1) := by decide +kernel
theorem dX8_got_60 : decode cX8_got 60 = .ok (.getfield 77, 3) := by decide +kernel
theorem dX8_got_63 : decode cX8_got 63 = .ok (.iload_n 3, 1) := by decide +kernel
theorem dX8_got_64 : decode cX8_got 64 = .ok (.iaload, 1) := by decide +kernel
theorem dX8_got_65 : decode cX8_got 65 = .ok (.goto 37, 3) := by decide +kernel
theorem dX8_got_68 : decode cX8_got 68 = .ok (.iload_n 2, 1) := by decide +kernel
theorem dX8_got_69 : decode cX8_got 69 = .ok (.iconst 2, 1) := by decide +kernel
theorem dX8_got_70 : decode cX8_got 70 = .ok (.if_icmp .ne 12, 3) := by decide +kernel
theorem dX8_got_73 : decode cX8_got 73 = .ok (.aload_n 0, 1) := by decide +kernel
theorem dX8_got_74 : decode cX8_got 74 = .ok (.getfield 65, 3) := by decide +kernel
theorem dX8_got_77 : decode cX8_got 77 = .ok (.iload_n 3, 1) := by decide +kernel
theorem dX8_got_78 : decode cX8_got 78 = .ok (.iaload, 1) := by decide +kernel
theorem dX8_got_79 : decode cX8_got 79 = .ok (.goto 23, 3) := by decide +kernel
theorem dX8_got_82 : decode cX8_got 82 = .ok (.iload_n 2, 1) := by decide +kernel
theorem dX8_got_83 : decode cX8_got 83 = .ok (.iconst 3, 1) := by decide +kernel
theorem dX8_got_84 : decode cX8_got 84 = .ok (.if_icmp .ne 12, 3) := by decide +kernel
theorem dX8_got_87 : decode cX8_got 87 = .ok (.aload_n 0, 1) := by decide +kernel
theorem dX8_got_88 : decode cX8_got 88 = .ok (.getfield 68, 3) := by decide +kernel
theorem dX8_got_91 : decode cX8_got 91 = .ok (.iload_n 3, 1) := by decide +kernel
theorem dX8_got_92 : decode cX8_got 92 = .ok (.iaload, 1) := by decide +kernel
theorem dX8_got_93 : decode cX8_got 93 = .ok (.goto 9, 3) := by decide +kernel
theorem dX8_got_96 : decode cX8_got 96 = .ok (.aload_n 0, 1) := by decide +kernel
theorem dX8_got_97 : decode cX8_got 97 = .ok (.getfield 71, 3) := by decide +kernel
theorem dX8_got_100 : decode cX8_got 100 = .ok (.iload_n 3, 1) := by decide +kernel
theorem dX8_got_101 : decode cX8_got 101 = .ok (.iaload, 1) := by decide +kernel
theorem dX8_got_102 : decode cX8_got 102 = .ok (.ireturn, 1) := by decide +kernel
set_option maxRecDepth 20000 in
theorem ggX8_right_X8_isBox : GoodIn wsX8_right wsX8_isBox := goodIn_r _ [11, 12, 13, 10, 14] (by decide +kernel) (by decide +kernel)
set_option maxRecDepth 20000 in
theorem gX8_right_X8_isBox : GoodIn wsX8_right (va_wsS RX8 110 yX8_isBox wsX8_isBox) := goodIn_app (goodIn_of _ (by decide +kernel)) ggX8_right_X8_isBox
set_option maxRecDepth 20000 in
theorem ggX8_right_X8_isNumber : GoodIn wsX8_right wsX8_isNumber := goodIn_r _ [18, 5, 12, 13, 10, 14, 75, 76, 77, 78, 79, 80, 81, 82, 83, 84, 85, 86, 87, 88, 89, 90, 91, 92, 93, 94, 95, 96, 97, 98, 99, 100, 101, 102, 103] (by decide +kernel) (by decide +kernel)
set_option maxRecDepth 20000 in
theorem gX8_right_X8_isNumber : GoodIn wsX8_right (wsV RX8 94 RX8 yX8_isNumber wsX8_isNumber) := goodIn_app (goodIn_of _ (by decide +kernel)) ggX8_right_X8_isNumber
set_option maxRecDepth 20000 in
theorem ggX8_right_X8_getBack : GoodIn wsX8_right wsX8_getBack := goodIn_r _ [22, 1, 23, 5, 24, 25, 2, 26, 4, 6, 7, 27, 28, 29, 10, 30, 31, 32, 33, 34, 35, 36, 37, 38, 39, 40, 41, 42, 43, 44, 45, 46, 47, 48, 49, 50, 51, 52, 53, 54, 55, 56, 57, 58, 59, 60, 61, 62, 63, 64, 65, 66, 67, 68, 69, 70, 3, 71, 72, 73, 74, 75, 76, 77, 78, 79, 80, 81, 82, 83, 84, 85, 86, 87, 88, 89, 90, 91, 92, 93, 94, 95, 96, 97, 98, 99, 100, 101, 102, 103] (by decide +kernel) (by decide +kernel)
set_option maxRecDepth 20000 in
theorem gX8_right_X8_getBack : GoodIn wsX8_right (wsV RX8 155 RX8 yX8_getBack wsX8_getBack) := goodIn_app (goodIn_of _ (by decide +kernel)) ggX8_right_X8_getBack
set_option maxRecDepth 20000 in
theorem ggX8_right_X8_raised : GoodIn wsX8_right wsX8_raised := goodIn_r _ [30, 5, 75, 76, 77, 78, 79, 80, 81, 82, 83, 84, 85, 86, 87, 88, 89, 90, 91, 92, 93, 94, 95, 96, 97, 98, 99, 100, 101, 102, 103] (by decide +kernel) (by decide +kernel)
set_option maxRecDepth 20000 in
theorem gX8_right_X8_raised : GoodIn wsX8_right (wsV RX8 90 RX8 yX8_raised wsX8_raised) := goodIn_app (goodIn_of _ (by decide +kernel)) ggX8_right_X8_raised
set_option maxRecDepth 20000 in
theorem ggX8_right_X8_answer : GoodIn wsX8_right wsX8_answer := goodIn_r _ [34, 35, 36, 37, 38, 5, 39, 40, 41, 42, 43, 10, 44, 45, 46, 27, 28, 29, 30, 75, 76, 77, 78, 79, 80, 81, 82, 83, 84, 85, 86, 87, 88, 89, 90, 91, 92, 93, 94, 95, 96, 97, 98, 99, 100, 101, 102, 103] (by decide +kernel) (by decide +kernel)
set_option maxRecDepth 20000 in
theorem gX8_right_X8_answer : GoodIn wsX8_right (wsV RX8 116 RX8 yX8_answer wsX8_answer) := goodIn_app (goodIn_of _ (by decide +kernel)) ggX8_right_X8_answer
theorem dX8_right_0 : decode cX8_right 0 = .ok (.iload_n 1, 1) := by decide +kernel
theorem dX8_right_1 : decode cX8_right 1 = .ok (.invokestatic 110, 3) := by decide +kernel
theorem dX8_right_4 : decode cX8_right 4 = .ok (.ifCond .eq 28, 3) := by decide +kernel
theorem dX8_right_7 : decode cX8_right 7 = .ok (.aload_n 0, 1) := by decide +kernel
theorem dX8_right_8 : decode cX8_right 8 = .ok (.iload_n 2, 1) := by decide +kernel
theorem dX8_right_9 : decode cX8_right 9 = .ok (.invokevirtual 94, 3) := by decide +kernel
theorem dX8_right_12 : decode cX8_right 12 = .ok (.ifCond .eq 20, 3) := by decide +kernel
theorem dX8_right_15 : decode cX8_right 15 = .ok (.aload_n 0, 1) := by decide +kernel
theorem dX8_right_16 : decode cX8_right 16 = .ok (.iload_n 3, 1) := by decide +kernel
theorem dX8_right_17 : decode cX8_right 17 = .ok (.invokevirtual 94, 3) := by decide +kernel
theorem dX8_right_20 : decode cX8_right 20 = .ok (.ifCond .eq 12, 3) := by decide +kernel
theorem dX8_right_23 : decode cX8_right 23 = .ok (.aload_n 0, 1) := by decide +kernel
theorem dX8_right_24 : decode cX8_right 24 = .ok (.iload 4, 2) := by decide +kernel
theorem dX8_right_26 : decode cX8_right 26 = .ok (.invokevirtual 94, 3) := by decide +kernel
theorem dX8_right_29 : decode cX8_right 29 = .ok (.ifCond .ne 5, 3) := by decide +kernel
theorem dX8_right_32 : decode cX8_right 32 = .ok (.iconst (-1), 1) := by decide +kernel
theorem dX8_right_33 : decode cX8_right 33 = .ok (.ireturn, 1) := by decide +kernel
theorem dX8_right_34 : decode cX8_right 34 = .ok (.aload_n 0, 1) := by decide +kernel
theorem dX8_right_35 : decode cX8_right 35 = .ok (.iload_n 1, 1) := by decide +kernel
theorem dX8_right_36 : decode cX8_right 36 = .ok (.invokevirtual 155, 3) := by decide +kernel
theorem dX8_right_39 : decode cX8_right 39 = .ok (.istore 5, 2) := by decide +kernel
theorem dX8_right_41 : decode cX8_right 41 = .ok (.aload_n 0, 1) := by decide +kernel
theorem dX8_right_42 : decode cX8_right 42 = .ok (.dup, 1) := by decide +kernel
theorem dX8_right_43 : decode cX8_right 43 = .ok (.getfield 113, 3) := by decide +kernel
theorem dX8_right_46 : decode cX8_right 46 = .ok (.iconst 1, 1) := by decide +kernel
theorem dX8_right_47 : decode cX8_right 47 = .ok (.iadd, 1) := by decide +kernel
theorem dX8_right_48 : decode cX8_right 48 = .ok (.putfield 113, 3) := by decide +kernel
theorem dX8_right_51 : decode cX8_right 51 = .ok (.iload 5, 2) := by decide +kernel
theorem dX8_right_53 : decode cX8_right 53 = .ok (.ifCond .ne 6, 3) := by decide +kernel
theorem dX8_right_56 : decode cX8_right 56 = .ok (.bipush (-2), 2) := by decide +kernel
theorem dX8_right_58 : decode cX8_right 58 = .ok (.ireturn, 1) := by decide +kernel
theorem dX8_right_59 : decode cX8_right 59 = .ok (.iconst 0, 1) := by decide +kernel
theorem dX8_right_60 : decode cX8_right 60 = .ok (.istore 6, 2) := by decide +kernel
theorem dX8_right_62 : decode cX8_right 62 = .ok (.iconst 0, 1) := by decide +kernel
theorem dX8_right_63 : decode cX8_right 63 = .ok (.istore 7, 2) := by decide +kernel
theorem dX8_right_65 : decode cX8_right 65 = .ok (.iload 7, 2) := by decide +kernel
theorem dX8_right_67 : decode cX8_right 67 = .ok (.aload_n 0, 1) := by decide +kernel
theorem dX8_right_68 : decode cX8_right 68 = .ok (.getfield 143, 3) := by decide +kernel
theorem dX8_right_71 : decode cX8_right 71 = .ok (.if_icmp .ge 84, 3) := by decide +kernel
theorem dX8_right_74 : decode cX8_right 74 = .ok (.aload_n 0, 1) := by decide +kernel
theorem dX8_right_75 : decode cX8_right 75 = .ok (.getfield 77, 3) := by decide +kernel
theorem dX8_right_78 : decode cX8_right 78 = .ok (.iload 7, 2) := by decide +kernel
theorem dX8_right_80 : decode cX8_right 80 = .ok (.iaload, 1) := by decide +kernel
theorem dX8_right_81 : decode cX8_right 81 = .ok (.aload_n 0, 1) := by decide +kernel
theorem dX8_right_82 : decode cX8_right 82 = .ok (.iload_n 2, 1) := by decide +kernel
theorem dX8_right_83 : decode cX8_right 83 = .ok (.aload_n 0, 1) := by decide +kernel
theorem dX8_right_84 : decode cX8_right 84 = .ok (.getfield 65, 3) := by decide +kernel
theorem dX8_right_87 : decode cX8_right 87 = .ok (.iload 7, 2) := by decide +kernel
theorem dX8_right_89 : decode cX8_right 89 = .ok (.iaload, 1) := by decide +kernel
theorem dX8_right_90 : decode cX8_right 90 = .ok (.invokevirtual 90, 3) := by decide +kernel
theorem dX8_right_93 : decode cX8_right 93 = .ok (.imul, 1) := by decide +kernel
theorem dX8_right_94 : decode cX8_right 94 = .ok (.aload_n 0, 1) := by decide +kernel
theorem dX8_right_95 : decode cX8_right 95 = .ok (.getfield 7, 3) := by decide +kernel
theorem dX8_right_98 : decode cX8_right 98 = .ok (.irem, 1) := by decide +kernel
theorem dX8_right_99 : decode cX8_right 99 = .ok (.istore 8, 2) := by decide +kernel
theorem dX8_right_101 : decode cX8_right 101 = .ok (.iload 8, 2) := by decide +kernel
theorem dX8_right_103 : decode cX8_right 103 = .ok (.aload_n 0, 1) := by decide +kernel
theorem dX8_right_104 : decode cX8_right 104 = .ok (.iload_n 3, 1) := by decide +kernel
theorem dX8_right_105 : decode cX8_right 105 = .ok (.aload_n 0, 1) := by decide +kernel
theorem dX8_right_106 : decode cX8_right 106 = .ok (.getfield 68, 3) := by decide +kernel
theorem dX8_right_109 : decode cX8_right 109 = .ok (.iload 7, 2) := by decide +kernel
theorem dX8_right_111 : decode cX8_right 111 = .ok (.iaload, 1) := by decide +kernel
theorem dX8_right_112 : decode cX8_right 112 = .ok (.invokevirtual 90, 3) := by decide +kernel
theorem dX8_right_115 : decode cX8_right 115 = .ok (.imul, 1) := by decide +kernel
theorem dX8_right_116 : decode cX8_right 116 = .ok (.aload_n 0, 1) := by decide +kernel
theorem dX8_right_117 : decode cX8_right 117 = .ok (.getfield 7, 3) := by decide +kernel
theorem dX8_right_120 : decode cX8_right 120 = .ok (.irem, 1) := by decide +kernel
theorem dX8_right_121 : decode cX8_right 121 = .ok (.istore 8, 2) := by decide +kernel
theorem dX8_right_123 : decode cX8_right 123 = .ok (.iload 6, 2) := by decide +kernel
theorem dX8_right_125 : decode cX8_right 125 = .ok (.iload 8, 2) := by decide +kernel
theorem dX8_right_127 : decode cX8_right 127 = .ok (.aload_n 0, 1) := by decide +kernel
theorem dX8_right_128 : decode cX8_right 128 = .ok (.iload 4, 2) := by decide +kernel
theorem dX8_right_130 : decode cX8_right 130 = .ok (.aload_n 0, 1) := by decide +kernel
theorem dX8_right_131 : decode cX8_right 131 = .ok (.getfield 71, 3) := by decide +kernel
theorem dX8_right_134 : decode cX8_right 134 = .ok (.iload 7, 2) := by decide +kernel
theorem dX8_right_136 : decode cX8_right 136 = .ok (.iaload, 1) := by decide +kernel
theorem dX8_right_137 : decode cX8_right 137 = .ok (.invokevirtual 90, 3) := by decide +kernel
theorem dX8_right_140 : decode cX8_right 140 = .ok (.imul, 1) := by decide +kernel
theorem dX8_right_141 : decode cX8_right 141 = .ok (.iadd, 1) := by decide +kernel
theorem dX8_right_142 : decode cX8_right 142 = .ok (.aload_n 0, 1) := by decide +kernel
theorem dX8_right_143 : decode cX8_right 143 = .ok (.getfield 7, 3) := by decide +kernel
theorem dX8_right_146 : decode cX8_right 146 = .ok (.irem, 1) := by decide +kernel
theorem dX8_right_147 : decode cX8_right 147 = .ok (.istore 6, 2) := by decide +kernel
theorem dX8_right_149 : decode cX8_right 149 = .ok (.iinc 7 1, 3) := by decide +kernel
theorem dX8_right_152 : decode cX8_right 152 = .ok (.goto (-87), 3) := by decide +kernel
theorem dX8_right_155 : decode cX8_right 155 = .ok (.iload 6, 2) := by decide +kernel
theorem dX8_right_157 : decode cX8_right 157 = .ok (.aload_n 0, 1) := by decide +kernel
theorem dX8_right_158 : decode cX8_right 158 = .ok (.iload_n 1, 1) := by decide +kernel
theorem dX8_right_159 : decode cX8_right 159 = .ok (.iload_n 2, 1) := by decide +kernel
theorem dX8_right_160 : decode cX8_right 160 = .ok (.iload_n 3, 1) := by decide +kernel
theorem dX8_right_161 : decode cX8_right 161 = .ok (.iload 4, 2) := by decide +kernel
theorem dX8_right_163 : decode cX8_right 163 = .ok (.invokevirtual 116, 3) := by decide +kernel
theorem dX8_right_166 : decode cX8_right 166 = .ok (.if_icmp .ne 7, 3) := by decide +kernel
theorem dX8_right_169 : decode cX8_right 169 = .ok (.iconst 1, 1) := by decide +kernel
theorem dX8_right_170 : decode cX8_right 170 = .ok (.goto 4, 3) := by decide +kernel
theorem dX8_right_173 : decode cX8_right 173 = .ok (.iconst 0, 1) := by decide +kernel
theorem dX8_right_174 : decode cX8_right 174 = .ok (.ireturn, 1) := by decide +kernel
set_option maxRecDepth 20000 in
theorem ggX8_zeros_X8_isBox : GoodIn wsX8_zeros wsX8_isBox := goodIn_r _ [5, 6, 7, 4, 8] (by decide +kernel) (by decide +kernel)
set_option maxRecDepth 20000 in
theorem gX8_zeros_X8_isBox : GoodIn wsX8_zeros (va_wsS RX8 110 yX8_isBox wsX8_isBox) := goodIn_app (goodIn_of _ (by decide +kernel)) ggX8_zeros_X8_isBox
set_option maxRecDepth 20000 in
theorem ggX8_zeros_X8_answer : GoodIn wsX8_zeros wsX8_answer := goodIn_r _ [12, 13, 14, 15, 16, 1, 17, 18, 19, 20, 21, 4, 22, 23, 24, 25, 26, 27, 28, 29, 30, 31, 32, 33, 34, 35, 36, 37, 38, 39, 40, 41, 42, 43, 44, 45, 46, 47, 48, 49, 50, 51, 52, 53, 54, 55, 56, 57] (by decide +kernel) (by decide +kernel)
set_option maxRecDepth 20000 in
theorem gX8_zeros_X8_answer : GoodIn wsX8_zeros (wsV RX8 116 RX8 yX8_answer wsX8_answer) := goodIn_app (goodIn_of _ (by decide +kernel)) ggX8_zeros_X8_answer
theorem dX8_zeros_0 : decode cX8_zeros 0 = .ok (.iload_n 1, 1) := by decide +kernel
theorem dX8_zeros_1 : decode cX8_zeros 1 = .ok (.invokestatic 110, 3) := by decide +kernel
theorem dX8_zeros_4 : decode cX8_zeros 4 = .ok (.ifCond .ne 5, 3) := by decide +kernel
theorem dX8_zeros_7 : decode cX8_zeros 7 = .ok (.iconst (-1), 1) := by decide +kernel
theorem dX8_zeros_8 : decode cX8_zeros 8 = .ok (.ireturn, 1) := by decide +kernel
theorem dX8_zeros_9 : decode cX8_zeros 9 = .ok (.aload_n 0, 1) := by decide +kernel
theorem dX8_zeros_10 : decode cX8_zeros 10 = .ok (.getfield 7, 3) := by decide +kernel
theorem dX8_zeros_13 : decode cX8_zeros 13 = .ok (.bipush 23, 2) := by decide +kernel
theorem dX8_zeros_15 : decode cX8_zeros 15 = .ok (.if_icmp .le 6, 3) := by decide +kernel
theorem dX8_zeros_18 : decode cX8_zeros 18 = .ok (.bipush (-2), 2) := by decide +kernel
theorem dX8_zeros_20 : decode cX8_zeros 20 = .ok (.ireturn, 1) := by decide +kernel
theorem dX8_zeros_21 : decode cX8_zeros 21 = .ok (.iconst 0, 1) := by decide +kernel
theorem dX8_zeros_22 : decode cX8_zeros 22 = .ok (.istore_n 2, 1) := by decide +kernel
theorem dX8_zeros_23 : decode cX8_zeros 23 = .ok (.iconst 0, 1) := by decide +kernel
theorem dX8_zeros_24 : decode cX8_zeros 24 = .ok (.istore_n 3, 1) := by decide +kernel
theorem dX8_zeros_25 : decode cX8_zeros 25 = .ok (.iload_n 3, 1) := by decide +kernel
theorem dX8_zeros_26 : decode cX8_zeros 26 = .ok (.aload_n 0, 1) := by decide +kernel
theorem dX8_zeros_27 : decode cX8_zeros 27 = .ok (.getfield 7, 3) := by decide +kernel
theorem dX8_zeros_30 : decode cX8_zeros 30 = .ok (.aload_n 0, 1) := by decide +kernel
theorem dX8_zeros_31 : decode cX8_zeros 31 = .ok (.getfield 7, 3) := by decide +kernel
theorem dX8_zeros_34 : decode cX8_zeros 34 = .ok (.imul, 1) := by decide +kernel
theorem dX8_zeros_35 : decode cX8_zeros 35 = .ok (.aload_n 0, 1) := by decide +kernel
theorem dX8_zeros_36 : decode cX8_zeros 36 = .ok (.getfield 7, 3) := by decide +kernel
theorem dX8_zeros_39 : decode cX8_zeros 39 = .ok (.imul, 1) := by decide +kernel
theorem dX8_zeros_40 : decode cX8_zeros 40 = .ok (.if_icmp .ge 53, 3) := by decide +kernel
theorem dX8_zeros_43 : decode cX8_zeros 43 = .ok (.iload_n 2, 1) := by decide +kernel
theorem dX8_zeros_44 : decode cX8_zeros 44 = .ok (.aload_n 0, 1) := by decide +kernel
theorem dX8_zeros_45 : decode cX8_zeros 45 = .ok (.iload_n 1, 1) := by decide +kernel
theorem dX8_zeros_46 : decode cX8_zeros 46 = .ok (.iload_n 3, 1) := by decide +kernel
theorem dX8_zeros_47 : decode cX8_zeros 47 = .ok (.aload_n 0, 1) := by decide +kernel
theorem dX8_zeros_48 : decode cX8_zeros 48 = .ok (.getfield 7, 3) := by decide +kernel
theorem dX8_zeros_51 : decode cX8_zeros 51 = .ok (.idiv, 1) := by decide +kernel
theorem dX8_zeros_52 : decode cX8_zeros 52 = .ok (.aload_n 0, 1) := by decide +kernel
theorem dX8_zeros_53 : decode cX8_zeros 53 = .ok (.getfield 7, 3) := by decide +kernel
theorem dX8_zeros_56 : decode cX8_zeros 56 = .ok (.idiv, 1) := by decide +kernel
theorem dX8_zeros_57 : decode cX8_zeros 57 = .ok (.iload_n 3, 1) := by decide +kernel
theorem dX8_zeros_58 : decode cX8_zeros 58 = .ok (.aload_n 0, 1) := by decide +kernel
theorem dX8_zeros_59 : decode cX8_zeros 59 = .ok (.getfield 7, 3) := by decide +kernel
theorem dX8_zeros_62 : decode cX8_zeros 62 = .ok (.idiv, 1) := by decide +kernel
theorem dX8_zeros_63 : decode cX8_zeros 63 = .ok (.aload_n 0, 1) := by decide +kernel
theorem dX8_zeros_64 : decode cX8_zeros 64 = .ok (.getfield 7, 3) := by decide +kernel
theorem dX8_zeros_67 : decode cX8_zeros 67 = .ok (.irem, 1) := by decide +kernel
theorem dX8_zeros_68 : decode cX8_zeros 68 = .ok (.iload_n 3, 1) := by decide +kernel
theorem dX8_zeros_69 : decode cX8_zeros 69 = .ok (.aload_n 0, 1) := by decide +kernel
theorem dX8_zeros_70 : decode cX8_zeros 70 = .ok (.getfield 7, 3) := by decide +kernel
theorem dX8_zeros_73 : decode cX8_zeros 73 = .ok (.irem, 1) := by decide +kernel
theorem dX8_zeros_74 : decode cX8_zeros 74 = .ok (.invokevirtual 116, 3) := by decide +kernel
theorem dX8_zeros_77 : decode cX8_zeros 77 = .ok (.ifCond .ne 7, 3) := by decide +kernel
theorem dX8_zeros_80 : decode cX8_zeros 80 = .ok (.iconst 1, 1) := by decide +kernel
theorem dX8_zeros_81 : decode cX8_zeros 81 = .ok (.goto 4, 3) := by decide +kernel
theorem dX8_zeros_84 : decode cX8_zeros 84 = .ok (.iconst 0, 1) := by decide +kernel
theorem dX8_zeros_85 : decode cX8_zeros 85 = .ok (.iadd, 1) := by decide +kernel
theorem dX8_zeros_86 : decode cX8_zeros 86 = .ok (.istore_n 2, 1) := by decide +kernel
theorem dX8_zeros_87 : decode cX8_zeros 87 = .ok (.iinc 3 1, 3) := by decide +kernel
theorem dX8_zeros_90 : decode cX8_zeros 90 = .ok (.goto (-65), 3) := by decide +kernel
theorem dX8_zeros_93 : decode cX8_zeros 93 = .ok (.iload_n 2, 1) := by decide +kernel
theorem dX8_zeros_94 : decode cX8_zeros 94 = .ok (.ireturn, 1) := by decide +kernel
set_option maxRecDepth 20000 in
theorem ggX8_meet_X8_answer : GoodIn wsX8_meet wsX8_answer := goodIn_r _ [6, 7, 8, 9, 10, 1, 11, 12, 13, 14, 15, 5, 16, 17, 18, 19, 20, 21, 22, 23, 24, 25, 26, 27, 28, 29, 30, 31, 32, 33, 34, 35, 36, 37, 38, 39, 40, 41, 42, 43, 44, 45, 46, 47, 48, 49, 50, 51] (by decide +kernel) (by decide +kernel)
set_option maxRecDepth 20000 in
theorem gX8_meet_X8_answer : GoodIn wsX8_meet (wsV RX8 116 RX8 yX8_answer wsX8_answer) := goodIn_app (goodIn_of _ (by decide +kernel)) ggX8_meet_X8_answer
theorem dX8_meet_0 : decode cX8_meet 0 = .ok (.aload_n 0, 1) := by decide +kernel
theorem dX8_meet_1 : decode cX8_meet 1 = .ok (.getfield 7, 3) := by decide +kernel
theorem dX8_meet_4 : decode cX8_meet 4 = .ok (.bipush 23, 2) := by decide +kernel
theorem dX8_meet_6 : decode cX8_meet 6 = .ok (.if_icmp .le 6, 3) := by decide +kernel
theorem dX8_meet_9 : decode cX8_meet 9 = .ok (.bipush (-2), 2) := by decide +kernel
theorem dX8_meet_11 : decode cX8_meet 11 = .ok (.ireturn, 1) := by decide +kernel
theorem dX8_meet_12 : decode cX8_meet 12 = .ok (.iconst 0, 1) := by decide +kernel
theorem dX8_meet_13 : decode cX8_meet 13 = .ok (.istore_n 1, 1) := by decide +kernel
theorem dX8_meet_14 : decode cX8_meet 14 = .ok (.iconst 0, 1) := by decide +kernel
theorem dX8_meet_15 : decode cX8_meet 15 = .ok (.istore_n 2, 1) := by decide +kernel
theorem dX8_meet_16 : decode cX8_meet 16 = .ok (.iload_n 2, 1) := by decide +kernel
theorem dX8_meet_17 : decode cX8_meet 17 = .ok (.aload_n 0, 1) := by decide +kernel
theorem dX8_meet_18 : decode cX8_meet 18 = .ok (.getfield 7, 3) := by decide +kernel
theorem dX8_meet_21 : decode cX8_meet 21 = .ok (.aload_n 0, 1) := by decide +kernel
theorem dX8_meet_22 : decode cX8_meet 22 = .ok (.getfield 7, 3) := by decide +kernel
theorem dX8_meet_25 : decode cX8_meet 25 = .ok (.imul, 1) := by decide +kernel
theorem dX8_meet_26 : decode cX8_meet 26 = .ok (.aload_n 0, 1) := by decide +kernel
theorem dX8_meet_27 : decode cX8_meet 27 = .ok (.getfield 7, 3) := by decide +kernel
theorem dX8_meet_30 : decode cX8_meet 30 = .ok (.imul, 1) := by decide +kernel
theorem dX8_meet_31 : decode cX8_meet 31 = .ok (.if_icmp .ge 86, 3) := by decide +kernel
theorem dX8_meet_34 : decode cX8_meet 34 = .ok (.iload_n 1, 1) := by decide +kernel
theorem dX8_meet_35 : decode cX8_meet 35 = .ok (.aload_n 0, 1) := by decide +kernel
theorem dX8_meet_36 : decode cX8_meet 36 = .ok (.iconst 0, 1) := by decide +kernel
theorem dX8_meet_37 : decode cX8_meet 37 = .ok (.iload_n 2, 1) := by decide +kernel
theorem dX8_meet_38 : decode cX8_meet 38 = .ok (.aload_n 0, 1) := by decide +kernel
theorem dX8_meet_39 : decode cX8_meet 39 = .ok (.getfield 7, 3) := by decide +kernel
theorem dX8_meet_42 : decode cX8_meet 42 = .ok (.idiv, 1) := by decide +kernel
theorem dX8_meet_43 : decode cX8_meet 43 = .ok (.aload_n 0, 1) := by decide +kernel
theorem dX8_meet_44 : decode cX8_meet 44 = .ok (.getfield 7, 3) := by decide +kernel
theorem dX8_meet_47 : decode cX8_meet 47 = .ok (.idiv, 1) := by decide +kernel
theorem dX8_meet_48 : decode cX8_meet 48 = .ok (.iload_n 2, 1) := by decide +kernel
theorem dX8_meet_49 : decode cX8_meet 49 = .ok (.aload_n 0, 1) := by decide +kernel
theorem dX8_meet_50 : decode cX8_meet 50 = .ok (.getfield 7, 3) := by decide +kernel
theorem dX8_meet_53 : decode cX8_meet 53 = .ok (.idiv, 1) := by decide +kernel
theorem dX8_meet_54 : decode cX8_meet 54 = .ok (.aload_n 0, 1) := by decide +kernel
theorem dX8_meet_55 : decode cX8_meet 55 = .ok (.getfield 7, 3) := by decide +kernel
theorem dX8_meet_58 : decode cX8_meet 58 = .ok (.irem, 1) := by decide +kernel
theorem dX8_meet_59 : decode cX8_meet 59 = .ok (.iload_n 2, 1) := by decide +kernel
theorem dX8_meet_60 : decode cX8_meet 60 = .ok (.aload_n 0, 1) := by decide +kernel
theorem dX8_meet_61 : decode cX8_meet 61 = .ok (.getfield 7, 3) := by decide +kernel
theorem dX8_meet_64 : decode cX8_meet 64 = .ok (.irem, 1) := by decide +kernel
theorem dX8_meet_65 : decode cX8_meet 65 = .ok (.invokevirtual 116, 3) := by decide +kernel
theorem dX8_meet_68 : decode cX8_meet 68 = .ok (.aload_n 0, 1) := by decide +kernel
theorem dX8_meet_69 : decode cX8_meet 69 = .ok (.iconst 1, 1) := by decide +kernel
theorem dX8_meet_70 : decode cX8_meet 70 = .ok (.iload_n 2, 1) := by decide +kernel
theorem dX8_meet_71 : decode cX8_meet 71 = .ok (.aload_n 0, 1) := by decide +kernel
theorem dX8_meet_72 : decode cX8_meet 72 = .ok (.getfield 7, 3) := by decide +kernel
theorem dX8_meet_75 : decode cX8_meet 75 = .ok (.idiv, 1) := by decide +kernel
theorem dX8_meet_76 : decode cX8_meet 76 = .ok (.aload_n 0, 1) := by decide +kernel
theorem dX8_meet_77 : decode cX8_meet 77 = .ok (.getfield 7, 3) := by decide +kernel
theorem dX8_meet_80 : decode cX8_meet 80 = .ok (.idiv, 1) := by decide +kernel
theorem dX8_meet_81 : decode cX8_meet 81 = .ok (.iload_n 2, 1) := by decide +kernel
theorem dX8_meet_82 : decode cX8_meet 82 = .ok (.aload_n 0, 1) := by decide +kernel
theorem dX8_meet_83 : decode cX8_meet 83 = .ok (.getfield 7, 3) := by decide +kernel
theorem dX8_meet_86 : decode cX8_meet 86 = .ok (.idiv, 1) := by decide +kernel
theorem dX8_meet_87 : decode cX8_meet 87 = .ok (.aload_n 0, 1) := by decide +kernel
theorem dX8_meet_88 : decode cX8_meet 88 = .ok (.getfield 7, 3) := by decide +kernel
theorem dX8_meet_91 : decode cX8_meet 91 = .ok (.irem, 1) := by decide +kernel
theorem dX8_meet_92 : decode cX8_meet 92 = .ok (.iload_n 2, 1) := by decide +kernel
theorem dX8_meet_93 : decode cX8_meet 93 = .ok (.aload_n 0, 1) := by decide +kernel
theorem dX8_meet_94 : decode cX8_meet 94 = .ok (.getfield 7, 3) := by decide +kernel
theorem dX8_meet_97 : decode cX8_meet 97 = .ok (.irem, 1) := by decide +kernel
theorem dX8_meet_98 : decode cX8_meet 98 = .ok (.invokevirtual 116, 3) := by decide +kernel
theorem dX8_meet_101 : decode cX8_meet 101 = .ok (.if_icmp .ne 7, 3) := by decide +kernel
theorem dX8_meet_104 : decode cX8_meet 104 = .ok (.iconst 1, 1) := by decide +kernel
theorem dX8_meet_105 : decode cX8_meet 105 = .ok (.goto 4, 3) := by decide +kernel
theorem dX8_meet_108 : decode cX8_meet 108 = .ok (.iconst 0, 1) := by decide +kernel
theorem dX8_meet_109 : decode cX8_meet 109 = .ok (.iadd, 1) := by decide +kernel
theorem dX8_meet_110 : decode cX8_meet 110 = .ok (.istore_n 1, 1) := by decide +kernel
theorem dX8_meet_111 : decode cX8_meet 111 = .ok (.iinc 2 1, 3) := by decide +kernel
theorem dX8_meet_114 : decode cX8_meet 114 = .ok (.goto (-98), 3) := by decide +kernel
theorem dX8_meet_117 : decode cX8_meet 117 = .ok (.iload_n 1, 1) := by decide +kernel
theorem dX8_meet_118 : decode cX8_meet 118 = .ok (.ireturn, 1) := by decide +kernel
theorem dX8_count_0 : decode cX8_count 0 = .ok (.iload_n 1, 1) := by decide +kernel
theorem dX8_count_1 : decode cX8_count 1 = .ok (.tableswitch 59 0 4 #[35, 40, 40, 49, 54], 35) := by decide +kernel
theorem dX8_count_36 : decode cX8_count 36 = .ok (.aload_n 0, 1) := by decide +kernel
theorem dX8_count_37 : decode cX8_count 37 = .ok (.getfield 7, 3) := by decide +kernel
theorem dX8_count_40 : decode cX8_count 40 = .ok (.ireturn, 1) := by decide +kernel
theorem dX8_count_41 : decode cX8_count 41 = .ok (.aload_n 0, 1) := by decide +kernel
theorem dX8_count_42 : decode cX8_count 42 = .ok (.getfield 23, 3) := by decide +kernel
theorem dX8_count_45 : decode cX8_count 45 = .ok (.iload_n 1, 1) := by decide +kernel
theorem dX8_count_46 : decode cX8_count 46 = .ok (.iconst 1, 1) := by decide +kernel
theorem dX8_count_47 : decode cX8_count 47 = .ok (.isub, 1) := by decide +kernel
theorem dX8_count_48 : decode cX8_count 48 = .ok (.iaload, 1) := by decide +kernel
theorem dX8_count_49 : decode cX8_count 49 = .ok (.ireturn, 1) := by decide +kernel
theorem dX8_count_50 : decode cX8_count 50 = .ok (.aload_n 0, 1) := by decide +kernel
theorem dX8_count_51 : decode cX8_count 51 = .ok (.getfield 83, 3) := by decide +kernel
theorem dX8_count_54 : decode cX8_count 54 = .ok (.ireturn, 1) := by decide +kernel
theorem dX8_count_55 : decode cX8_count 55 = .ok (.aload_n 0, 1) := by decide +kernel
theorem dX8_count_56 : decode cX8_count 56 = .ok (.getfield 113, 3) := by decide +kernel
theorem dX8_count_59 : decode cX8_count 59 = .ok (.ireturn, 1) := by decide +kernel
theorem dX8_count_60 : decode cX8_count 60 = .ok (.iconst (-1), 1) := by decide +kernel
theorem dX8_count_61 : decode cX8_count 61 = .ok (.ireturn, 1) := by decide +kernel
theorem dX8_trace_0 : decode cX8_trace 0 = .ok (.aload_n 0, 1) := by decide +kernel
theorem dX8_trace_1 : decode cX8_trace 1 = .ok (.getfield 98, 3) := by decide +kernel
theorem dX8_trace_4 : decode cX8_trace 4 = .ok (.lreturn, 1) := by decide +kernel
theorem dJ9_min_7cf53_0 : decode cJ9_min_7cf53 0 = .ok (.iload_n 0, 1) := by decide +kernel
theorem dJ9_min_7cf53_1 : decode cJ9_min_7cf53 1 = .ok (.iload_n 1, 1) := by decide +kernel
theorem dJ9_min_7cf53_2 : decode cJ9_min_7cf53 2 = .ok (.if_icmp .gt 7, 3) := by decide +kernel
theorem dJ9_min_7cf53_5 : decode cJ9_min_7cf53 5 = .ok (.iload_n 0, 1) := by decide +kernel
theorem dJ9_min_7cf53_6 : decode cJ9_min_7cf53 6 = .ok (.goto 4, 3) := by decide +kernel
theorem dJ9_min_7cf53_9 : decode cJ9_min_7cf53 9 = .ok (.iload_n 1, 1) := by decide +kernel
theorem dJ9_min_7cf53_10 : decode cJ9_min_7cf53 10 = .ok (.ireturn, 1) := by decide +kernel

set_option maxRecDepth 20000 in
theorem ggX8_fear_X8_places : GoodIn wsX8_fear wsX8_places := goodIn_r _ [6, 7, 8, 9, 10, 11, 12, 13, 14, 15, 16, 17, 18, 19, 20, 21, 22, 23, 24, 25, 26, 27, 28, 29] (by decide +kernel) (by decide +kernel)
set_option maxRecDepth 20000 in
theorem gX8_fear_X8_places : GoodIn wsX8_fear (wsV RX8 119 RX8 yX8_places wsX8_places) := goodIn_app (goodIn_of _ (by decide +kernel)) ggX8_fear_X8_places
theorem dX8_fear_0 : decode cX8_fear 0 = .ok (.iconst 0, 1) := by decide +kernel
theorem dX8_fear_1 : decode cX8_fear 1 = .ok (.istore_n 1, 1) := by decide +kernel
theorem dX8_fear_2 : decode cX8_fear 2 = .ok (.iconst 0, 1) := by decide +kernel
theorem dX8_fear_3 : decode cX8_fear 3 = .ok (.istore_n 2, 1) := by decide +kernel
theorem dX8_fear_4 : decode cX8_fear 4 = .ok (.iload_n 2, 1) := by decide +kernel
theorem dX8_fear_5 : decode cX8_fear 5 = .ok (.aload_n 0, 1) := by decide +kernel
theorem dX8_fear_6 : decode cX8_fear 6 = .ok (.invokevirtual 119, 3) := by decide +kernel
theorem dX8_fear_9 : decode cX8_fear 9 = .ok (.if_icmp .ge 20, 3) := by decide +kernel
theorem dX8_fear_12 : decode cX8_fear 12 = .ok (.iload_n 1, 1) := by decide +kernel
theorem dX8_fear_13 : decode cX8_fear 13 = .ok (.iconst 1, 1) := by decide +kernel
theorem dX8_fear_14 : decode cX8_fear 14 = .ok (.aload_n 0, 1) := by decide +kernel
theorem dX8_fear_15 : decode cX8_fear 15 = .ok (.getfield 19, 3) := by decide +kernel
theorem dX8_fear_18 : decode cX8_fear 18 = .ok (.iload_n 2, 1) := by decide +kernel
theorem dX8_fear_19 : decode cX8_fear 19 = .ok (.iaload, 1) := by decide +kernel
theorem dX8_fear_20 : decode cX8_fear 20 = .ok (.ishl, 1) := by decide +kernel
theorem dX8_fear_21 : decode cX8_fear 21 = .ok (.ior, 1) := by decide +kernel
theorem dX8_fear_22 : decode cX8_fear 22 = .ok (.istore_n 1, 1) := by decide +kernel
theorem dX8_fear_23 : decode cX8_fear 23 = .ok (.iinc 2 1, 3) := by decide +kernel
theorem dX8_fear_26 : decode cX8_fear 26 = .ok (.goto (-22), 3) := by decide +kernel
theorem dX8_fear_29 : decode cX8_fear 29 = .ok (.bipush 63, 2) := by decide +kernel
theorem dX8_fear_31 : decode cX8_fear 31 = .ok (.iload_n 1, 1) := by decide +kernel
theorem dX8_fear_32 : decode cX8_fear 32 = .ok (.iconst (-1), 1) := by decide +kernel
theorem dX8_fear_33 : decode cX8_fear 33 = .ok (.ixor, 1) := by decide +kernel
theorem dX8_fear_34 : decode cX8_fear 34 = .ok (.iand, 1) := by decide +kernel
theorem dX8_fear_35 : decode cX8_fear 35 = .ok (.ireturn, 1) := by decide +kernel
set_option maxRecDepth 20000 in
theorem ggX8_beside_X8_places : GoodIn wsX8_beside wsX8_places := goodIn_r _ [5, 6, 11, 12, 13, 14, 15, 16, 17, 18, 19, 20, 21, 22, 23, 24, 25, 26, 27, 28, 29, 30, 31, 32] (by decide +kernel) (by decide +kernel)
set_option maxRecDepth 20000 in
theorem gX8_beside_X8_places : GoodIn wsX8_beside (wsV RX8 119 RX8 yX8_places wsX8_places) := goodIn_app (goodIn_of _ (by decide +kernel)) ggX8_beside_X8_places
set_option maxRecDepth 20000 in
theorem ggX8_beside_X8_apart : GoodIn wsX8_beside wsX8_apart := goodIn_r _ [10, 6, 11, 12, 13, 14, 15, 16, 17, 18, 19, 20, 21, 22, 23, 24, 25, 26, 27, 28, 29, 30, 31, 32] (by decide +kernel) (by decide +kernel)
set_option maxRecDepth 20000 in
theorem gX8_beside_X8_apart : GoodIn wsX8_beside (wsV RX8 164 RX8 yX8_apart wsX8_apart) := goodIn_app (goodIn_of _ (by decide +kernel)) ggX8_beside_X8_apart
theorem dX8_beside_0 : decode cX8_beside 0 = .ok (.iconst 0, 1) := by decide +kernel
theorem dX8_beside_1 : decode cX8_beside 1 = .ok (.istore_n 2, 1) := by decide +kernel
theorem dX8_beside_2 : decode cX8_beside 2 = .ok (.iconst 0, 1) := by decide +kernel
theorem dX8_beside_3 : decode cX8_beside 3 = .ok (.istore_n 3, 1) := by decide +kernel
theorem dX8_beside_4 : decode cX8_beside 4 = .ok (.iload_n 3, 1) := by decide +kernel
theorem dX8_beside_5 : decode cX8_beside 5 = .ok (.aload_n 0, 1) := by decide +kernel
theorem dX8_beside_6 : decode cX8_beside 6 = .ok (.invokevirtual 119, 3) := by decide +kernel
theorem dX8_beside_9 : decode cX8_beside 9 = .ok (.if_icmp .ge 27, 3) := by decide +kernel
theorem dX8_beside_12 : decode cX8_beside 12 = .ok (.iload_n 2, 1) := by decide +kernel
theorem dX8_beside_13 : decode cX8_beside 13 = .ok (.aload_n 0, 1) := by decide +kernel
theorem dX8_beside_14 : decode cX8_beside 14 = .ok (.iload_n 1, 1) := by decide +kernel
theorem dX8_beside_15 : decode cX8_beside 15 = .ok (.iload_n 3, 1) := by decide +kernel
theorem dX8_beside_16 : decode cX8_beside 16 = .ok (.invokevirtual 164, 3) := by decide +kernel
theorem dX8_beside_19 : decode cX8_beside 19 = .ok (.iconst 1, 1) := by decide +kernel
theorem dX8_beside_20 : decode cX8_beside 20 = .ok (.if_icmp .ne 7, 3) := by decide +kernel
theorem dX8_beside_23 : decode cX8_beside 23 = .ok (.iconst 1, 1) := by decide +kernel
theorem dX8_beside_24 : decode cX8_beside 24 = .ok (.goto 4, 3) := by decide +kernel
theorem dX8_beside_27 : decode cX8_beside 27 = .ok (.iconst 0, 1) := by decide +kernel
theorem dX8_beside_28 : decode cX8_beside 28 = .ok (.iadd, 1) := by decide +kernel
theorem dX8_beside_29 : decode cX8_beside 29 = .ok (.istore_n 2, 1) := by decide +kernel
theorem dX8_beside_30 : decode cX8_beside 30 = .ok (.iinc 3 1, 3) := by decide +kernel
theorem dX8_beside_33 : decode cX8_beside 33 = .ok (.goto (-29), 3) := by decide +kernel
theorem dX8_beside_36 : decode cX8_beside 36 = .ok (.iload_n 2, 1) := by decide +kernel
theorem dX8_beside_37 : decode cX8_beside 37 = .ok (.ireturn, 1) := by decide +kernel
set_option maxRecDepth 20000 in
theorem ggX8_lost_X8_isWalk : GoodIn wsX8_lost wsX8_isWalk := goodIn_r _ [11, 3, 12, 13, 10, 14, 42, 43, 44, 45, 46, 47, 48, 49, 50, 51, 52, 53, 54, 55, 56, 57, 58, 59, 60, 61, 62, 63] (by decide +kernel) (by decide +kernel)
set_option maxRecDepth 20000 in
theorem gX8_lost_X8_isWalk : GoodIn wsX8_lost (wsV RX8 136 RX8 yX8_isWalk wsX8_isWalk) := goodIn_app (goodIn_of _ (by decide +kernel)) ggX8_lost_X8_isWalk
set_option maxRecDepth 20000 in
theorem ggX8_lost_X8_in : GoodIn wsX8_lost wsX8_in := goodIn_r _ [14] (by decide +kernel) (by decide +kernel)
set_option maxRecDepth 20000 in
theorem gX8_lost_X8_in : GoodIn wsX8_lost (va_wsS RX8 70 yX8_in wsX8_in) := goodIn_app (goodIn_of _ (by decide +kernel)) ggX8_lost_X8_in
set_option maxRecDepth 20000 in
theorem ggX8_lost_X8_kindOf : GoodIn wsX8_lost wsX8_kindOf := goodIn_r _ [18, 3, 42, 43, 44, 45, 46, 47, 48, 49, 50, 51, 52, 53, 54, 55, 56, 57, 58, 59, 60, 61, 62, 63] (by decide +kernel) (by decide +kernel)
set_option maxRecDepth 20000 in
theorem gX8_lost_X8_kindOf : GoodIn wsX8_lost (wsV RX8 155 RX8 yX8_kindOf wsX8_kindOf) := goodIn_app (goodIn_of _ (by decide +kernel)) ggX8_lost_X8_kindOf
set_option maxRecDepth 20000 in
theorem ggX8_lost_X8_marksOf : GoodIn wsX8_lost wsX8_marksOf := goodIn_r _ [22, 3, 42, 43, 44, 45, 46, 47, 48, 49, 50, 51, 52, 53, 54, 55, 56, 57, 58, 59, 60, 61, 62, 63] (by decide +kernel) (by decide +kernel)
set_option maxRecDepth 20000 in
theorem gX8_lost_X8_marksOf : GoodIn wsX8_lost (wsV RX8 139 RX8 yX8_marksOf wsX8_marksOf) := goodIn_app (goodIn_of _ (by decide +kernel)) ggX8_lost_X8_marksOf
set_option maxRecDepth 20000 in
theorem ggX8_lost_X8_take : GoodIn wsX8_lost wsX8_take := goodIn_r _ [26, 27, 28, 4, 3, 15, 16, 17, 10, 18, 19, 20, 21, 22, 42, 43, 44, 45, 46, 47, 48, 49, 50, 51, 52, 53, 54, 55, 56, 57, 58, 59, 60, 61, 62, 63] (by decide +kernel) (by decide +kernel)
set_option maxRecDepth 20000 in
theorem gX8_lost_X8_take : GoodIn wsX8_lost (wsV RX8 172 RX8 yX8_take wsX8_take) := goodIn_app (goodIn_of _ (by decide +kernel)) ggX8_lost_X8_take
set_option maxRecDepth 20000 in
theorem ggX8_lost_X8_places : GoodIn wsX8_lost wsX8_places := goodIn_r _ [32, 33, 42, 43, 44, 45, 46, 47, 48, 49, 50, 51, 52, 53, 54, 55, 56, 57, 58, 59, 60, 61, 62, 63] (by decide +kernel) (by decide +kernel)
set_option maxRecDepth 20000 in
theorem gX8_lost_X8_places : GoodIn wsX8_lost (wsV RX8 119 RX8 yX8_places wsX8_places) := goodIn_app (goodIn_of _ (by decide +kernel)) ggX8_lost_X8_places
set_option maxRecDepth 20000 in
theorem ggX8_lost_X8_apart : GoodIn wsX8_lost wsX8_apart := goodIn_r _ [37, 33, 42, 43, 44, 45, 46, 47, 48, 49, 50, 51, 52, 53, 54, 55, 56, 57, 58, 59, 60, 61, 62, 63] (by decide +kernel) (by decide +kernel)
set_option maxRecDepth 20000 in
theorem gX8_lost_X8_apart : GoodIn wsX8_lost (wsV RX8 164 RX8 yX8_apart wsX8_apart) := goodIn_app (goodIn_of _ (by decide +kernel)) ggX8_lost_X8_apart
set_option maxRecDepth 20000 in
theorem ggX8_lost_X8_beside : GoodIn wsX8_lost wsX8_beside := goodIn_r _ [41, 29, 30, 31, 10, 32, 33, 34, 35, 36, 37, 42, 43, 44, 45, 46, 47, 48, 49, 50, 51, 52, 53, 54, 55, 56, 57, 58, 59, 60, 61, 62, 63] (by decide +kernel) (by decide +kernel)
set_option maxRecDepth 20000 in
theorem gX8_lost_X8_beside : GoodIn wsX8_lost (wsV RX8 201 RX8 yX8_beside wsX8_beside) := goodIn_app (goodIn_of _ (by decide +kernel)) ggX8_lost_X8_beside
theorem dX8_lost_0 : decode cX8_lost 0 = .ok (.aload_n 0, 1) := by decide +kernel
theorem dX8_lost_1 : decode cX8_lost 1 = .ok (.iload_n 1, 1) := by decide +kernel
theorem dX8_lost_2 : decode cX8_lost 2 = .ok (.invokevirtual 136, 3) := by decide +kernel
theorem dX8_lost_5 : decode cX8_lost 5 = .ok (.ifCond .eq 15, 3) := by decide +kernel
theorem dX8_lost_8 : decode cX8_lost 8 = .ok (.iload_n 2, 1) := by decide +kernel
theorem dX8_lost_9 : decode cX8_lost 9 = .ok (.i2l, 1) := by decide +kernel
theorem dX8_lost_10 : decode cX8_lost 10 = .ok (.lconst 0, 1) := by decide +kernel
theorem dX8_lost_11 : decode cX8_lost 11 = .ok (.ldc2_w 105, 3) := by decide +kernel
theorem dX8_lost_14 : decode cX8_lost 14 = .ok (.invokestatic 70, 3) := by decide +kernel
theorem dX8_lost_17 : decode cX8_lost 17 = .ok (.ifCond .ne 5, 3) := by decide +kernel
theorem dX8_lost_20 : decode cX8_lost 20 = .ok (.iconst (-1), 1) := by decide +kernel
theorem dX8_lost_21 : decode cX8_lost 21 = .ok (.ireturn, 1) := by decide +kernel
theorem dX8_lost_22 : decode cX8_lost 22 = .ok (.aload_n 0, 1) := by decide +kernel
theorem dX8_lost_23 : decode cX8_lost 23 = .ok (.iload_n 1, 1) := by decide +kernel
theorem dX8_lost_24 : decode cX8_lost 24 = .ok (.invokevirtual 155, 3) := by decide +kernel
theorem dX8_lost_27 : decode cX8_lost 27 = .ok (.ifCond .ne 14, 3) := by decide +kernel
theorem dX8_lost_30 : decode cX8_lost 30 = .ok (.iload_n 2, 1) := by decide +kernel
theorem dX8_lost_31 : decode cX8_lost 31 = .ok (.iconst 1, 1) := by decide +kernel
theorem dX8_lost_32 : decode cX8_lost 32 = .ok (.iadd, 1) := by decide +kernel
theorem dX8_lost_33 : decode cX8_lost 33 = .ok (.aload_n 0, 1) := by decide +kernel
theorem dX8_lost_34 : decode cX8_lost 34 = .ok (.iload_n 1, 1) := by decide +kernel
theorem dX8_lost_35 : decode cX8_lost 35 = .ok (.invokevirtual 139, 3) := by decide +kernel
theorem dX8_lost_38 : decode cX8_lost 38 = .ok (.if_icmp .le 6, 3) := by decide +kernel
theorem dX8_lost_41 : decode cX8_lost 41 = .ok (.bipush (-2), 2) := by decide +kernel
theorem dX8_lost_43 : decode cX8_lost 43 = .ok (.ireturn, 1) := by decide +kernel
theorem dX8_lost_44 : decode cX8_lost 44 = .ok (.aload_n 0, 1) := by decide +kernel
theorem dX8_lost_45 : decode cX8_lost 45 = .ok (.iload_n 1, 1) := by decide +kernel
theorem dX8_lost_46 : decode cX8_lost 46 = .ok (.invokevirtual 172, 3) := by decide +kernel
theorem dX8_lost_49 : decode cX8_lost 49 = .ok (.aload_n 0, 1) := by decide +kernel
theorem dX8_lost_50 : decode cX8_lost 50 = .ok (.invokevirtual 119, 3) := by decide +kernel
theorem dX8_lost_53 : decode cX8_lost 53 = .ok (.i2l, 1) := by decide +kernel
theorem dX8_lost_54 : decode cX8_lost 54 = .ok (.lstore_n 3, 1) := by decide +kernel
theorem dX8_lost_55 : decode cX8_lost 55 = .ok (.iconst 0, 1) := by decide +kernel
theorem dX8_lost_56 : decode cX8_lost 56 = .ok (.istore 5, 2) := by decide +kernel
theorem dX8_lost_58 : decode cX8_lost 58 = .ok (.iload 5, 2) := by decide +kernel
theorem dX8_lost_60 : decode cX8_lost 60 = .ok (.aload_n 0, 1) := by decide +kernel
theorem dX8_lost_61 : decode cX8_lost 61 = .ok (.invokevirtual 119, 3) := by decide +kernel
theorem dX8_lost_64 : decode cX8_lost 64 = .ok (.if_icmp .ge 37, 3) := by decide +kernel
theorem dX8_lost_67 : decode cX8_lost 67 = .ok (.aload_n 0, 1) := by decide +kernel
theorem dX8_lost_68 : decode cX8_lost 68 = .ok (.getfield 46, 3) := by decide +kernel
theorem dX8_lost_71 : decode cX8_lost 71 = .ok (.iload 5, 2) := by decide +kernel
theorem dX8_lost_73 : decode cX8_lost 73 = .ok (.aload_n 0, 1) := by decide +kernel
theorem dX8_lost_74 : decode cX8_lost 74 = .ok (.getfield 19, 3) := by decide +kernel
theorem dX8_lost_77 : decode cX8_lost 77 = .ok (.iload 5, 2) := by decide +kernel
theorem dX8_lost_79 : decode cX8_lost 79 = .ok (.iaload, 1) := by decide +kernel
theorem dX8_lost_80 : decode cX8_lost 80 = .ok (.aload_n 0, 1) := by decide +kernel
theorem dX8_lost_81 : decode cX8_lost 81 = .ok (.getfield 34, 3) := by decide +kernel
theorem dX8_lost_84 : decode cX8_lost 84 = .ok (.iconst 0, 1) := by decide +kernel
theorem dX8_lost_85 : decode cX8_lost 85 = .ok (.iaload, 1) := by decide +kernel
theorem dX8_lost_86 : decode cX8_lost 86 = .ok (.if_icmp .ne 7, 3) := by decide +kernel
theorem dX8_lost_89 : decode cX8_lost 89 = .ok (.lconst 1, 1) := by decide +kernel
theorem dX8_lost_90 : decode cX8_lost 90 = .ok (.goto 4, 3) := by decide +kernel
theorem dX8_lost_93 : decode cX8_lost 93 = .ok (.lconst 0, 1) := by decide +kernel
theorem dX8_lost_94 : decode cX8_lost 94 = .ok (.lastore, 1) := by decide +kernel
theorem dX8_lost_95 : decode cX8_lost 95 = .ok (.iinc 5 1, 3) := by decide +kernel
theorem dX8_lost_98 : decode cX8_lost 98 = .ok (.goto (-40), 3) := by decide +kernel
theorem dX8_lost_101 : decode cX8_lost 101 = .ok (.iconst 1, 1) := by decide +kernel
theorem dX8_lost_102 : decode cX8_lost 102 = .ok (.istore 5, 2) := by decide +kernel
theorem dX8_lost_104 : decode cX8_lost 104 = .ok (.iload 5, 2) := by decide +kernel
theorem dX8_lost_106 : decode cX8_lost 106 = .ok (.iload_n 2, 1) := by decide +kernel
theorem dX8_lost_107 : decode cX8_lost 107 = .ok (.if_icmp .gt 161, 3) := by decide +kernel
theorem dX8_lost_110 : decode cX8_lost 110 = .ok (.lload_n 3, 1) := by decide +kernel
theorem dX8_lost_111 : decode cX8_lost 111 = .ok (.ldc2_w 199, 3) := by decide +kernel
theorem dX8_lost_114 : decode cX8_lost 114 = .ok (.lmul, 1) := by decide +kernel
theorem dX8_lost_115 : decode cX8_lost 115 = .ok (.lstore_n 3, 1) := by decide +kernel
theorem dX8_lost_116 : decode cX8_lost 116 = .ok (.iconst 0, 1) := by decide +kernel
theorem dX8_lost_117 : decode cX8_lost 117 = .ok (.istore 6, 2) := by decide +kernel
theorem dX8_lost_119 : decode cX8_lost 119 = .ok (.iload 6, 2) := by decide +kernel
theorem dX8_lost_121 : decode cX8_lost 121 = .ok (.aload_n 0, 1) := by decide +kernel
theorem dX8_lost_122 : decode cX8_lost 122 = .ok (.invokevirtual 119, 3) := by decide +kernel
theorem dX8_lost_125 : decode cX8_lost 125 = .ok (.if_icmp .ge 102, 3) := by decide +kernel
theorem dX8_lost_128 : decode cX8_lost 128 = .ok (.aload_n 0, 1) := by decide +kernel
theorem dX8_lost_129 : decode cX8_lost 129 = .ok (.getfield 46, 3) := by decide +kernel
theorem dX8_lost_132 : decode cX8_lost 132 = .ok (.bipush 16, 2) := by decide +kernel
theorem dX8_lost_134 : decode cX8_lost 134 = .ok (.iload 6, 2) := by decide +kernel
theorem dX8_lost_136 : decode cX8_lost 136 = .ok (.iadd, 1) := by decide +kernel
theorem dX8_lost_137 : decode cX8_lost 137 = .ok (.lconst 0, 1) := by decide +kernel
theorem dX8_lost_138 : decode cX8_lost 138 = .ok (.lastore, 1) := by decide +kernel
theorem dX8_lost_139 : decode cX8_lost 139 = .ok (.iconst 0, 1) := by decide +kernel
theorem dX8_lost_140 : decode cX8_lost 140 = .ok (.istore 7, 2) := by decide +kernel
theorem dX8_lost_142 : decode cX8_lost 142 = .ok (.iload 7, 2) := by decide +kernel
theorem dX8_lost_144 : decode cX8_lost 144 = .ok (.aload_n 0, 1) := by decide +kernel
theorem dX8_lost_145 : decode cX8_lost 145 = .ok (.invokevirtual 119, 3) := by decide +kernel
theorem dX8_lost_148 : decode cX8_lost 148 = .ok (.if_icmp .ge 73, 3) := by decide +kernel
theorem dX8_lost_151 : decode cX8_lost 151 = .ok (.aload_n 0, 1) := by decide +kernel
theorem dX8_lost_152 : decode cX8_lost 152 = .ok (.getfield 19, 3) := by decide +kernel
theorem dX8_lost_155 : decode cX8_lost 155 = .ok (.iload 6, 2) := by decide +kernel
theorem dX8_lost_157 : decode cX8_lost 157 = .ok (.iaload, 1) := by decide +kernel
theorem dX8_lost_158 : decode cX8_lost 158 = .ok (.aload_n 0, 1) := by decide +kernel
theorem dX8_lost_159 : decode cX8_lost 159 = .ok (.getfield 34, 3) := by decide +kernel
theorem dX8_lost_162 : decode cX8_lost 162 = .ok (.iload 5, 2) := by decide +kernel
theorem dX8_lost_164 : decode cX8_lost 164 = .ok (.iaload, 1) := by decide +kernel
theorem dX8_lost_165 : decode cX8_lost 165 = .ok (.if_icmp .ne 56, 3) := by decide +kernel
theorem dX8_lost_168 : decode cX8_lost 168 = .ok (.aload_n 0, 1) := by decide +kernel
theorem dX8_lost_169 : decode cX8_lost 169 = .ok (.getfield 46, 3) := by decide +kernel
theorem dX8_lost_172 : decode cX8_lost 172 = .ok (.bipush 16, 2) := by decide +kernel
theorem dX8_lost_174 : decode cX8_lost 174 = .ok (.iload 6, 2) := by decide +kernel
theorem dX8_lost_176 : decode cX8_lost 176 = .ok (.iadd, 1) := by decide +kernel
theorem dX8_lost_177 : decode cX8_lost 177 = .ok (.dup2, 1) := by decide +kernel
theorem dX8_lost_178 : decode cX8_lost 178 = .ok (.laload, 1) := by decide +kernel
theorem dX8_lost_179 : decode cX8_lost 179 = .ok (.aload_n 0, 1) := by decide +kernel
theorem dX8_lost_180 : decode cX8_lost 180 = .ok (.iload 7, 2) := by decide +kernel
theorem dX8_lost_182 : decode cX8_lost 182 = .ok (.iload 6, 2) := by decide +kernel
theorem dX8_lost_184 : decode cX8_lost 184 = .ok (.invokevirtual 164, 3) := by decide +kernel
theorem dX8_lost_187 : decode cX8_lost 187 = .ok (.iconst 1, 1) := by decide +kernel
theorem dX8_lost_188 : decode cX8_lost 188 = .ok (.if_icmp .ne 24, 3) := by decide +kernel
theorem dX8_lost_191 : decode cX8_lost 191 = .ok (.aload_n 0, 1) := by decide +kernel
theorem dX8_lost_192 : decode cX8_lost 192 = .ok (.getfield 46, 3) := by decide +kernel
theorem dX8_lost_195 : decode cX8_lost 195 = .ok (.iload 7, 2) := by decide +kernel
theorem dX8_lost_197 : decode cX8_lost 197 = .ok (.laload, 1) := by decide +kernel
theorem dX8_lost_198 : decode cX8_lost 198 = .ok (.bipush 12, 2) := by decide +kernel
theorem dX8_lost_200 : decode cX8_lost 200 = .ok (.aload_n 0, 1) := by decide +kernel
theorem dX8_lost_201 : decode cX8_lost 201 = .ok (.iload 7, 2) := by decide +kernel
theorem dX8_lost_203 : decode cX8_lost 203 = .ok (.invokevirtual 201, 3) := by decide +kernel
theorem dX8_lost_206 : decode cX8_lost 206 = .ok (.idiv, 1) := by decide +kernel
theorem dX8_lost_207 : decode cX8_lost 207 = .ok (.i2l, 1) := by decide +kernel
theorem dX8_lost_208 : decode cX8_lost 208 = .ok (.lmul, 1) := by decide +kernel
theorem dX8_lost_209 : decode cX8_lost 209 = .ok (.goto 4, 3) := by decide +kernel
theorem dX8_lost_212 : decode cX8_lost 212 = .ok (.lconst 0, 1) := by decide +kernel
theorem dX8_lost_213 : decode cX8_lost 213 = .ok (.ladd, 1) := by decide +kernel
theorem dX8_lost_214 : decode cX8_lost 214 = .ok (.lastore, 1) := by decide +kernel
theorem dX8_lost_215 : decode cX8_lost 215 = .ok (.iinc 7 1, 3) := by decide +kernel
theorem dX8_lost_218 : decode cX8_lost 218 = .ok (.goto (-76), 3) := by decide +kernel
theorem dX8_lost_221 : decode cX8_lost 221 = .ok (.iinc 6 1, 3) := by decide +kernel
theorem dX8_lost_224 : decode cX8_lost 224 = .ok (.goto (-105), 3) := by decide +kernel
theorem dX8_lost_227 : decode cX8_lost 227 = .ok (.iconst 0, 1) := by decide +kernel
theorem dX8_lost_228 : decode cX8_lost 228 = .ok (.istore 6, 2) := by decide +kernel
theorem dX8_lost_230 : decode cX8_lost 230 = .ok (.iload 6, 2) := by decide +kernel
theorem dX8_lost_232 : decode cX8_lost 232 = .ok (.aload_n 0, 1) := by decide +kernel
theorem dX8_lost_233 : decode cX8_lost 233 = .ok (.invokevirtual 119, 3) := by decide +kernel
theorem dX8_lost_236 : decode cX8_lost 236 = .ok (.if_icmp .ge 26, 3) := by decide +kernel
theorem dX8_lost_239 : decode cX8_lost 239 = .ok (.aload_n 0, 1) := by decide +kernel
theorem dX8_lost_240 : decode cX8_lost 240 = .ok (.getfield 46, 3) := by decide +kernel
theorem dX8_lost_243 : decode cX8_lost 243 = .ok (.iload 6, 2) := by decide +kernel
theorem dX8_lost_245 : decode cX8_lost 245 = .ok (.aload_n 0, 1) := by decide +kernel
theorem dX8_lost_246 : decode cX8_lost 246 = .ok (.getfield 46, 3) := by decide +kernel
theorem dX8_lost_249 : decode cX8_lost 249 = .ok (.bipush 16, 2) := by decide +kernel
theorem dX8_lost_251 : decode cX8_lost 251 = .ok (.iload 6, 2) := by decide +kernel
theorem dX8_lost_253 : decode cX8_lost 253 = .ok (.iadd, 1) := by decide +kernel
theorem dX8_lost_254 : decode cX8_lost 254 = .ok (.laload, 1) := by decide +kernel
theorem dX8_lost_255 : decode cX8_lost 255 = .ok (.lastore, 1) := by decide +kernel
theorem dX8_lost_256 : decode cX8_lost 256 = .ok (.iinc 6 1, 3) := by decide +kernel
theorem dX8_lost_259 : decode cX8_lost 259 = .ok (.goto (-29), 3) := by decide +kernel
theorem dX8_lost_262 : decode cX8_lost 262 = .ok (.iinc 5 1, 3) := by decide +kernel
theorem dX8_lost_265 : decode cX8_lost 265 = .ok (.goto (-161), 3) := by decide +kernel
theorem dX8_lost_268 : decode cX8_lost 268 = .ok (.lconst 0, 1) := by decide +kernel
theorem dX8_lost_269 : decode cX8_lost 269 = .ok (.lstore 5, 2) := by decide +kernel
theorem dX8_lost_271 : decode cX8_lost 271 = .ok (.iconst 0, 1) := by decide +kernel
theorem dX8_lost_272 : decode cX8_lost 272 = .ok (.istore 7, 2) := by decide +kernel
theorem dX8_lost_274 : decode cX8_lost 274 = .ok (.iload 7, 2) := by decide +kernel
theorem dX8_lost_276 : decode cX8_lost 276 = .ok (.aload_n 0, 1) := by decide +kernel
theorem dX8_lost_277 : decode cX8_lost 277 = .ok (.invokevirtual 119, 3) := by decide +kernel
theorem dX8_lost_280 : decode cX8_lost 280 = .ok (.if_icmp .ge 21, 3) := by decide +kernel
theorem dX8_lost_283 : decode cX8_lost 283 = .ok (.lload 5, 2) := by decide +kernel
theorem dX8_lost_285 : decode cX8_lost 285 = .ok (.aload_n 0, 1) := by decide +kernel
theorem dX8_lost_286 : decode cX8_lost 286 = .ok (.getfield 46, 3) := by decide +kernel
theorem dX8_lost_289 : decode cX8_lost 289 = .ok (.iload 7, 2) := by decide +kernel
theorem dX8_lost_291 : decode cX8_lost 291 = .ok (.laload, 1) := by decide +kernel
theorem dX8_lost_292 : decode cX8_lost 292 = .ok (.ladd, 1) := by decide +kernel
theorem dX8_lost_293 : decode cX8_lost 293 = .ok (.lstore 5, 2) := by decide +kernel
theorem dX8_lost_295 : decode cX8_lost 295 = .ok (.iinc 7 1, 3) := by decide +kernel
theorem dX8_lost_298 : decode cX8_lost 298 = .ok (.goto (-24), 3) := by decide +kernel
theorem dX8_lost_301 : decode cX8_lost 301 = .ok (.ldc2_w 204, 3) := by decide +kernel
theorem dX8_lost_304 : decode cX8_lost 304 = .ok (.lload 5, 2) := by decide +kernel
theorem dX8_lost_306 : decode cX8_lost 306 = .ok (.lmul, 1) := by decide +kernel
theorem dX8_lost_307 : decode cX8_lost 307 = .ok (.lload_n 3, 1) := by decide +kernel
theorem dX8_lost_308 : decode cX8_lost 308 = .ok (.ldiv, 1) := by decide +kernel
theorem dX8_lost_309 : decode cX8_lost 309 = .ok (.l2i, 1) := by decide +kernel
theorem dX8_lost_310 : decode cX8_lost 310 = .ok (.ireturn, 1) := by decide +kernel
set_option maxRecDepth 20000 in
theorem ggX8_huts_X8_in : GoodIn wsX8_huts wsX8_in := goodIn_r _ [6] (by decide +kernel) (by decide +kernel)
set_option maxRecDepth 20000 in
theorem gX8_huts_X8_in : GoodIn wsX8_huts (va_wsS RX8 70 yX8_in wsX8_in) := goodIn_app (goodIn_of _ (by decide +kernel)) ggX8_huts_X8_in
set_option maxRecDepth 20000 in
theorem ggX8_huts_X8_places : GoodIn wsX8_huts wsX8_places := goodIn_r _ [10, 11, 16, 17, 18, 19, 20, 21, 22, 23, 24, 25, 26, 27, 28, 29, 30, 31, 32, 33, 34, 35, 36, 37] (by decide +kernel) (by decide +kernel)
set_option maxRecDepth 20000 in
theorem gX8_huts_X8_places : GoodIn wsX8_huts (wsV RX8 119 RX8 yX8_places wsX8_places) := goodIn_app (goodIn_of _ (by decide +kernel)) ggX8_huts_X8_places
set_option maxRecDepth 20000 in
theorem ggX8_huts_X8_apart : GoodIn wsX8_huts wsX8_apart := goodIn_r _ [15, 11, 16, 17, 18, 19, 20, 21, 22, 23, 24, 25, 26, 27, 28, 29, 30, 31, 32, 33, 34, 35, 36, 37] (by decide +kernel) (by decide +kernel)
set_option maxRecDepth 20000 in
theorem gX8_huts_X8_apart : GoodIn wsX8_huts (wsV RX8 164 RX8 yX8_apart wsX8_apart) := goodIn_app (goodIn_of _ (by decide +kernel)) ggX8_huts_X8_apart
theorem dX8_huts_0 : decode cX8_huts 0 = .ok (.iload_n 1, 1) := by decide +kernel
theorem dX8_huts_1 : decode cX8_huts 1 = .ok (.i2l, 1) := by decide +kernel
theorem dX8_huts_2 : decode cX8_huts 2 = .ok (.lconst 0, 1) := by decide +kernel
theorem dX8_huts_3 : decode cX8_huts 3 = .ok (.lconst 1, 1) := by decide +kernel
theorem dX8_huts_4 : decode cX8_huts 4 = .ok (.invokestatic 70, 3) := by decide +kernel
theorem dX8_huts_7 : decode cX8_huts 7 = .ok (.ifCond .ne 5, 3) := by decide +kernel
theorem dX8_huts_10 : decode cX8_huts 10 = .ok (.iconst (-1), 1) := by decide +kernel
theorem dX8_huts_11 : decode cX8_huts 11 = .ok (.ireturn, 1) := by decide +kernel
theorem dX8_huts_12 : decode cX8_huts 12 = .ok (.iconst 0, 1) := by decide +kernel
theorem dX8_huts_13 : decode cX8_huts 13 = .ok (.istore_n 2, 1) := by decide +kernel
theorem dX8_huts_14 : decode cX8_huts 14 = .ok (.iload_n 2, 1) := by decide +kernel
theorem dX8_huts_15 : decode cX8_huts 15 = .ok (.aload_n 0, 1) := by decide +kernel
theorem dX8_huts_16 : decode cX8_huts 16 = .ok (.invokevirtual 119, 3) := by decide +kernel
theorem dX8_huts_19 : decode cX8_huts 19 = .ok (.if_icmp .ge 31, 3) := by decide +kernel
theorem dX8_huts_22 : decode cX8_huts 22 = .ok (.aload_n 0, 1) := by decide +kernel
theorem dX8_huts_23 : decode cX8_huts 23 = .ok (.getfield 50, 3) := by decide +kernel
theorem dX8_huts_26 : decode cX8_huts 26 = .ok (.iload_n 2, 1) := by decide +kernel
theorem dX8_huts_27 : decode cX8_huts 27 = .ok (.aload_n 0, 1) := by decide +kernel
theorem dX8_huts_28 : decode cX8_huts 28 = .ok (.getfield 19, 3) := by decide +kernel
theorem dX8_huts_31 : decode cX8_huts 31 = .ok (.iload_n 2, 1) := by decide +kernel
theorem dX8_huts_32 : decode cX8_huts 32 = .ok (.iaload, 1) := by decide +kernel
theorem dX8_huts_33 : decode cX8_huts 33 = .ok (.iconst 2, 1) := by decide +kernel
theorem dX8_huts_34 : decode cX8_huts 34 = .ok (.if_icmp .ne 7, 3) := by decide +kernel
theorem dX8_huts_37 : decode cX8_huts 37 = .ok (.iload_n 2, 1) := by decide +kernel
theorem dX8_huts_38 : decode cX8_huts 38 = .ok (.goto 5, 3) := by decide +kernel
theorem dX8_huts_41 : decode cX8_huts 41 = .ok (.bipush (-4), 2) := by decide +kernel
theorem dX8_huts_43 : decode cX8_huts 43 = .ok (.iastore, 1) := by decide +kernel
theorem dX8_huts_44 : decode cX8_huts 44 = .ok (.iinc 2 1, 3) := by decide +kernel
theorem dX8_huts_47 : decode cX8_huts 47 = .ok (.goto (-33), 3) := by decide +kernel
theorem dX8_huts_50 : decode cX8_huts 50 = .ok (.iconst 0, 1) := by decide +kernel
theorem dX8_huts_51 : decode cX8_huts 51 = .ok (.istore_n 2, 1) := by decide +kernel
theorem dX8_huts_52 : decode cX8_huts 52 = .ok (.iload_n 2, 1) := by decide +kernel
theorem dX8_huts_53 : decode cX8_huts 53 = .ok (.sipush 4096, 3) := by decide +kernel
theorem dX8_huts_56 : decode cX8_huts 56 = .ok (.if_icmp .ge 120, 3) := by decide +kernel
theorem dX8_huts_59 : decode cX8_huts 59 = .ok (.iload_n 2, 1) := by decide +kernel
theorem dX8_huts_60 : decode cX8_huts 60 = .ok (.bipush 16, 2) := by decide +kernel
theorem dX8_huts_62 : decode cX8_huts 62 = .ok (.idiv, 1) := by decide +kernel
theorem dX8_huts_63 : decode cX8_huts 63 = .ok (.bipush 16, 2) := by decide +kernel
theorem dX8_huts_65 : decode cX8_huts 65 = .ok (.irem, 1) := by decide +kernel
theorem dX8_huts_66 : decode cX8_huts 66 = .ok (.istore_n 3, 1) := by decide +kernel
theorem dX8_huts_67 : decode cX8_huts 67 = .ok (.iload_n 2, 1) := by decide +kernel
theorem dX8_huts_68 : decode cX8_huts 68 = .ok (.bipush 16, 2) := by decide +kernel
theorem dX8_huts_70 : decode cX8_huts 70 = .ok (.irem, 1) := by decide +kernel
theorem dX8_huts_71 : decode cX8_huts 71 = .ok (.istore 4, 2) := by decide +kernel
theorem dX8_huts_73 : decode cX8_huts 73 = .ok (.iload_n 3, 1) := by decide +kernel
theorem dX8_huts_74 : decode cX8_huts 74 = .ok (.aload_n 0, 1) := by decide +kernel
theorem dX8_huts_75 : decode cX8_huts 75 = .ok (.invokevirtual 119, 3) := by decide +kernel
theorem dX8_huts_78 : decode cX8_huts 78 = .ok (.if_icmp .ge 46, 3) := by decide +kernel
theorem dX8_huts_81 : decode cX8_huts 81 = .ok (.iload 4, 2) := by decide +kernel
theorem dX8_huts_83 : decode cX8_huts 83 = .ok (.aload_n 0, 1) := by decide +kernel
theorem dX8_huts_84 : decode cX8_huts 84 = .ok (.invokevirtual 119, 3) := by decide +kernel
theorem dX8_huts_87 : decode cX8_huts 87 = .ok (.if_icmp .ge 37, 3) := by decide +kernel
theorem dX8_huts_90 : decode cX8_huts 90 = .ok (.aload_n 0, 1) := by decide +kernel
theorem dX8_huts_91 : decode cX8_huts 91 = .ok (.getfield 50, 3) := by decide +kernel
theorem dX8_huts_94 : decode cX8_huts 94 = .ok (.iload_n 3, 1) := by decide +kernel
theorem dX8_huts_95 : decode cX8_huts 95 = .ok (.iaload, 1) := by decide +kernel
theorem dX8_huts_96 : decode cX8_huts 96 = .ok (.ifCond .lt 28, 3) := by decide +kernel
theorem dX8_huts_99 : decode cX8_huts 99 = .ok (.aload_n 0, 1) := by decide +kernel
theorem dX8_huts_100 : decode cX8_huts 100 = .ok (.getfield 50, 3) := by decide +kernel
theorem dX8_huts_103 : decode cX8_huts 103 = .ok (.iload 4, 2) := by decide +kernel
theorem dX8_huts_105 : decode cX8_huts 105 = .ok (.iaload, 1) := by decide +kernel
theorem dX8_huts_106 : decode cX8_huts 106 = .ok (.ifCond .lt 18, 3) := by decide +kernel
theorem dX8_huts_109 : decode cX8_huts 109 = .ok (.aload_n 0, 1) := by decide +kernel
theorem dX8_huts_110 : decode cX8_huts 110 = .ok (.iload_n 3, 1) := by decide +kernel
theorem dX8_huts_111 : decode cX8_huts 111 = .ok (.iload 4, 2) := by decide +kernel
theorem dX8_huts_113 : decode cX8_huts 113 = .ok (.invokevirtual 164, 3) := by decide +kernel
theorem dX8_huts_116 : decode cX8_huts 116 = .ok (.iconst 1, 1) := by decide +kernel
theorem dX8_huts_117 : decode cX8_huts 117 = .ok (.if_icmp .ne 7, 3) := by decide +kernel
theorem dX8_huts_120 : decode cX8_huts 120 = .ok (.iconst 1, 1) := by decide +kernel
theorem dX8_huts_121 : decode cX8_huts 121 = .ok (.goto 4, 3) := by decide +kernel
theorem dX8_huts_124 : decode cX8_huts 124 = .ok (.iconst 0, 1) := by decide +kernel
theorem dX8_huts_125 : decode cX8_huts 125 = .ok (.istore 5, 2) := by decide +kernel
theorem dX8_huts_127 : decode cX8_huts 127 = .ok (.aload_n 0, 1) := by decide +kernel
theorem dX8_huts_128 : decode cX8_huts 128 = .ok (.getfield 50, 3) := by decide +kernel
theorem dX8_huts_131 : decode cX8_huts 131 = .ok (.iload_n 3, 1) := by decide +kernel
theorem dX8_huts_132 : decode cX8_huts 132 = .ok (.iload 5, 2) := by decide +kernel
theorem dX8_huts_134 : decode cX8_huts 134 = .ok (.ifCond .eq 29, 3) := by decide +kernel
theorem dX8_huts_137 : decode cX8_huts 137 = .ok (.aload_n 0, 1) := by decide +kernel
theorem dX8_huts_138 : decode cX8_huts 138 = .ok (.getfield 50, 3) := by decide +kernel
theorem dX8_huts_141 : decode cX8_huts 141 = .ok (.iload 4, 2) := by decide +kernel
theorem dX8_huts_143 : decode cX8_huts 143 = .ok (.iaload, 1) := by decide +kernel
theorem dX8_huts_144 : decode cX8_huts 144 = .ok (.aload_n 0, 1) := by decide +kernel
theorem dX8_huts_145 : decode cX8_huts 145 = .ok (.getfield 50, 3) := by decide +kernel
theorem dX8_huts_148 : decode cX8_huts 148 = .ok (.iload_n 3, 1) := by decide +kernel
theorem dX8_huts_149 : decode cX8_huts 149 = .ok (.iaload, 1) := by decide +kernel
theorem dX8_huts_150 : decode cX8_huts 150 = .ok (.if_icmp .ge 13, 3) := by decide +kernel
theorem dX8_huts_153 : decode cX8_huts 153 = .ok (.aload_n 0, 1) := by decide +kernel
theorem dX8_huts_154 : decode cX8_huts 154 = .ok (.getfield 50, 3) := by decide +kernel
theorem dX8_huts_157 : decode cX8_huts 157 = .ok (.iload 4, 2) := by decide +kernel
theorem dX8_huts_159 : decode cX8_huts 159 = .ok (.iaload, 1) := by decide +kernel
theorem dX8_huts_160 : decode cX8_huts 160 = .ok (.goto 9, 3) := by decide +kernel
theorem dX8_huts_163 : decode cX8_huts 163 = .ok (.aload_n 0, 1) := by decide +kernel
theorem dX8_huts_164 : decode cX8_huts 164 = .ok (.getfield 50, 3) := by decide +kernel
theorem dX8_huts_167 : decode cX8_huts 167 = .ok (.iload_n 3, 1) := by decide +kernel
theorem dX8_huts_168 : decode cX8_huts 168 = .ok (.iaload, 1) := by decide +kernel
theorem dX8_huts_169 : decode cX8_huts 169 = .ok (.iastore, 1) := by decide +kernel
theorem dX8_huts_170 : decode cX8_huts 170 = .ok (.iinc 2 1, 3) := by decide +kernel
theorem dX8_huts_173 : decode cX8_huts 173 = .ok (.goto (-121), 3) := by decide +kernel
theorem dX8_huts_176 : decode cX8_huts 176 = .ok (.iconst 0, 1) := by decide +kernel
theorem dX8_huts_177 : decode cX8_huts 177 = .ok (.istore_n 2, 1) := by decide +kernel
theorem dX8_huts_178 : decode cX8_huts 178 = .ok (.iconst 0, 1) := by decide +kernel
theorem dX8_huts_179 : decode cX8_huts 179 = .ok (.istore_n 3, 1) := by decide +kernel
theorem dX8_huts_180 : decode cX8_huts 180 = .ok (.iconst 0, 1) := by decide +kernel
theorem dX8_huts_181 : decode cX8_huts 181 = .ok (.istore 4, 2) := by decide +kernel
theorem dX8_huts_183 : decode cX8_huts 183 = .ok (.iload 4, 2) := by decide +kernel
theorem dX8_huts_185 : decode cX8_huts 185 = .ok (.aload_n 0, 1) := by decide +kernel
theorem dX8_huts_186 : decode cX8_huts 186 = .ok (.invokevirtual 119, 3) := by decide +kernel
theorem dX8_huts_189 : decode cX8_huts 189 = .ok (.if_icmp .ge 78, 3) := by decide +kernel
theorem dX8_huts_192 : decode cX8_huts 192 = .ok (.iconst 0, 1) := by decide +kernel
theorem dX8_huts_193 : decode cX8_huts 193 = .ok (.istore 5, 2) := by decide +kernel
theorem dX8_huts_195 : decode cX8_huts 195 = .ok (.iconst 0, 1) := by decide +kernel
theorem dX8_huts_196 : decode cX8_huts 196 = .ok (.istore 6, 2) := by decide +kernel
theorem dX8_huts_198 : decode cX8_huts 198 = .ok (.iload 6, 2) := by decide +kernel
theorem dX8_huts_200 : decode cX8_huts 200 = .ok (.aload_n 0, 1) := by decide +kernel
theorem dX8_huts_201 : decode cX8_huts 201 = .ok (.invokevirtual 119, 3) := by decide +kernel
theorem dX8_huts_204 : decode cX8_huts 204 = .ok (.if_icmp .ge 31, 3) := by decide +kernel
theorem dX8_huts_207 : decode cX8_huts 207 = .ok (.iload 5, 2) := by decide +kernel
theorem dX8_huts_209 : decode cX8_huts 209 = .ok (.aload_n 0, 1) := by decide +kernel
theorem dX8_huts_210 : decode cX8_huts 210 = .ok (.getfield 50, 3) := by decide +kernel
theorem dX8_huts_213 : decode cX8_huts 213 = .ok (.iload 6, 2) := by decide +kernel
theorem dX8_huts_215 : decode cX8_huts 215 = .ok (.iaload, 1) := by decide +kernel
theorem dX8_huts_216 : decode cX8_huts 216 = .ok (.iload 4, 2) := by decide +kernel
theorem dX8_huts_218 : decode cX8_huts 218 = .ok (.if_icmp .ne 7, 3) := by decide +kernel
theorem dX8_huts_221 : decode cX8_huts 221 = .ok (.iconst 1, 1) := by decide +kernel
theorem dX8_huts_222 : decode cX8_huts 222 = .ok (.goto 4, 3) := by decide +kernel
theorem dX8_huts_225 : decode cX8_huts 225 = .ok (.iconst 0, 1) := by decide +kernel
theorem dX8_huts_226 : decode cX8_huts 226 = .ok (.iadd, 1) := by decide +kernel
theorem dX8_huts_227 : decode cX8_huts 227 = .ok (.istore 5, 2) := by decide +kernel
theorem dX8_huts_229 : decode cX8_huts 229 = .ok (.iinc 6 1, 3) := by decide +kernel
theorem dX8_huts_232 : decode cX8_huts 232 = .ok (.goto (-34), 3) := by decide +kernel
theorem dX8_huts_235 : decode cX8_huts 235 = .ok (.iload_n 2, 1) := by decide +kernel
theorem dX8_huts_236 : decode cX8_huts 236 = .ok (.iload 5, 2) := by decide +kernel
theorem dX8_huts_238 : decode cX8_huts 238 = .ok (.ifCond .le 7, 3) := by decide +kernel
theorem dX8_huts_241 : decode cX8_huts 241 = .ok (.iconst 1, 1) := by decide +kernel
theorem dX8_huts_242 : decode cX8_huts 242 = .ok (.goto 4, 3) := by decide +kernel
theorem dX8_huts_245 : decode cX8_huts 245 = .ok (.iconst 0, 1) := by decide +kernel
theorem dX8_huts_246 : decode cX8_huts 246 = .ok (.iadd, 1) := by decide +kernel
theorem dX8_huts_247 : decode cX8_huts 247 = .ok (.istore_n 2, 1) := by decide +kernel
theorem dX8_huts_248 : decode cX8_huts 248 = .ok (.iload 5, 2) := by decide +kernel
theorem dX8_huts_250 : decode cX8_huts 250 = .ok (.iload_n 3, 1) := by decide +kernel
theorem dX8_huts_251 : decode cX8_huts 251 = .ok (.if_icmp .le 8, 3) := by decide +kernel
theorem dX8_huts_254 : decode cX8_huts 254 = .ok (.iload 5, 2) := by decide +kernel
theorem dX8_huts_256 : decode cX8_huts 256 = .ok (.goto 4, 3) := by decide +kernel
theorem dX8_huts_259 : decode cX8_huts 259 = .ok (.iload_n 3, 1) := by decide +kernel
theorem dX8_huts_260 : decode cX8_huts 260 = .ok (.istore_n 3, 1) := by decide +kernel
theorem dX8_huts_261 : decode cX8_huts 261 = .ok (.iinc 4 1, 3) := by decide +kernel
theorem dX8_huts_264 : decode cX8_huts 264 = .ok (.goto (-81), 3) := by decide +kernel
theorem dX8_huts_267 : decode cX8_huts 267 = .ok (.iload_n 1, 1) := by decide +kernel
theorem dX8_huts_268 : decode cX8_huts 268 = .ok (.ifCond .ne 7, 3) := by decide +kernel
theorem dX8_huts_271 : decode cX8_huts 271 = .ok (.iload_n 2, 1) := by decide +kernel
theorem dX8_huts_272 : decode cX8_huts 272 = .ok (.goto 4, 3) := by decide +kernel
theorem dX8_huts_275 : decode cX8_huts 275 = .ok (.iload_n 3, 1) := by decide +kernel
theorem dX8_huts_276 : decode cX8_huts 276 = .ok (.ireturn, 1) := by decide +kernel
set_option maxRecDepth 20000 in
theorem ggX8_flood_X8_in : GoodIn wsX8_flood wsX8_in := goodIn_r _ [11] (by decide +kernel) (by decide +kernel)
set_option maxRecDepth 20000 in
theorem gX8_flood_X8_in : GoodIn wsX8_flood (va_wsS RX8 70 yX8_in wsX8_in) := goodIn_app (goodIn_of _ (by decide +kernel)) ggX8_flood_X8_in
set_option maxRecDepth 20000 in
theorem ggX8_flood_X8_places : GoodIn wsX8_flood wsX8_places := goodIn_r _ [15, 16, 57, 58, 59, 60, 61, 62, 63, 64, 65, 66, 67, 68, 69, 70, 71, 72, 73, 74, 75, 76, 77, 78] (by decide +kernel) (by decide +kernel)
set_option maxRecDepth 20000 in
theorem gX8_flood_X8_places : GoodIn wsX8_flood (wsV RX8 119 RX8 yX8_places wsX8_places) := goodIn_app (goodIn_of _ (by decide +kernel)) ggX8_flood_X8_places
set_option maxRecDepth 20000 in
theorem ggX8_flood_X8_exchange : GoodIn wsX8_flood wsX8_exchange := goodIn_r _ [20, 4, 57, 58, 59, 60, 61, 62, 63, 64, 65, 66, 67, 68, 69, 70, 71, 72, 73, 74, 75, 76, 77, 78] (by decide +kernel) (by decide +kernel)
set_option maxRecDepth 20000 in
theorem gX8_flood_X8_exchange : GoodIn wsX8_flood (wsV RX8 145 RX8 yX8_exchange wsX8_exchange) := goodIn_app (goodIn_of _ (by decide +kernel)) ggX8_flood_X8_exchange
set_option maxRecDepth 20000 in
theorem ggX8_flood_X8_liedNow : GoodIn wsX8_flood wsX8_liedNow := goodIn_r _ [24, 4, 25, 26, 27, 10, 28, 29, 30, 31, 32, 33, 34, 35, 36, 37, 38, 39, 40, 41, 42, 43, 44, 45, 46, 47, 48, 12, 13, 14, 15, 16, 49, 50, 51, 52, 53, 54, 55, 56, 57, 58, 59, 60, 61, 62, 63, 64, 65, 66, 67, 68, 69, 70, 71, 72, 73, 74, 75, 76, 77, 78] (by decide +kernel) (by decide +kernel)
set_option maxRecDepth 20000 in
theorem gX8_flood_X8_liedNow : GoodIn wsX8_flood (wsV RX8 188 RX8 yX8_liedNow wsX8_liedNow) := goodIn_app (goodIn_of _ (by decide +kernel)) ggX8_flood_X8_liedNow
theorem dX8_flood_0 : decode cX8_flood 0 = .ok (.iload_n 1, 1) := by decide +kernel
theorem dX8_flood_1 : decode cX8_flood 1 = .ok (.i2l, 1) := by decide +kernel
theorem dX8_flood_2 : decode cX8_flood 2 = .ok (.lconst 0, 1) := by decide +kernel
theorem dX8_flood_3 : decode cX8_flood 3 = .ok (.ldc2_w 206, 3) := by decide +kernel
theorem dX8_flood_6 : decode cX8_flood 6 = .ok (.invokestatic 70, 3) := by decide +kernel
theorem dX8_flood_9 : decode cX8_flood 9 = .ok (.ifCond .eq 25, 3) := by decide +kernel
theorem dX8_flood_12 : decode cX8_flood 12 = .ok (.iload_n 2, 1) := by decide +kernel
theorem dX8_flood_13 : decode cX8_flood 13 = .ok (.i2l, 1) := by decide +kernel
theorem dX8_flood_14 : decode cX8_flood 14 = .ok (.lconst 1, 1) := by decide +kernel
theorem dX8_flood_15 : decode cX8_flood 15 = .ok (.ldc2_w 208, 3) := by decide +kernel
theorem dX8_flood_18 : decode cX8_flood 18 = .ok (.invokestatic 70, 3) := by decide +kernel
theorem dX8_flood_21 : decode cX8_flood 21 = .ok (.ifCond .eq 13, 3) := by decide +kernel
theorem dX8_flood_24 : decode cX8_flood 24 = .ok (.iload_n 3, 1) := by decide +kernel
theorem dX8_flood_25 : decode cX8_flood 25 = .ok (.i2l, 1) := by decide +kernel
theorem dX8_flood_26 : decode cX8_flood 26 = .ok (.lconst 0, 1) := by decide +kernel
theorem dX8_flood_27 : decode cX8_flood 27 = .ok (.lconst 1, 1) := by decide +kernel
theorem dX8_flood_28 : decode cX8_flood 28 = .ok (.invokestatic 70, 3) := by decide +kernel
theorem dX8_flood_31 : decode cX8_flood 31 = .ok (.ifCond .ne 5, 3) := by decide +kernel
theorem dX8_flood_34 : decode cX8_flood 34 = .ok (.iconst (-1), 1) := by decide +kernel
theorem dX8_flood_35 : decode cX8_flood 35 = .ok (.ireturn, 1) := by decide +kernel
theorem dX8_flood_36 : decode cX8_flood 36 = .ok (.iconst 0, 1) := by decide +kernel
theorem dX8_flood_37 : decode cX8_flood 37 = .ok (.istore 4, 2) := by decide +kernel
theorem dX8_flood_39 : decode cX8_flood 39 = .ok (.iload 4, 2) := by decide +kernel
theorem dX8_flood_41 : decode cX8_flood 41 = .ok (.bipush 16, 2) := by decide +kernel
theorem dX8_flood_43 : decode cX8_flood 43 = .ok (.if_icmp .ge 23, 3) := by decide +kernel
theorem dX8_flood_46 : decode cX8_flood 46 = .ok (.aload_n 0, 1) := by decide +kernel
theorem dX8_flood_47 : decode cX8_flood 47 = .ok (.getfield 53, 3) := by decide +kernel
theorem dX8_flood_50 : decode cX8_flood 50 = .ok (.iload 4, 2) := by decide +kernel
theorem dX8_flood_52 : decode cX8_flood 52 = .ok (.aload_n 0, 1) := by decide +kernel
theorem dX8_flood_53 : decode cX8_flood 53 = .ok (.getfield 19, 3) := by decide +kernel
theorem dX8_flood_56 : decode cX8_flood 56 = .ok (.iload 4, 2) := by decide +kernel
theorem dX8_flood_58 : decode cX8_flood 58 = .ok (.iaload, 1) := by decide +kernel
theorem dX8_flood_59 : decode cX8_flood 59 = .ok (.iastore, 1) := by decide +kernel
theorem dX8_flood_60 : decode cX8_flood 60 = .ok (.iinc 4 1, 3) := by decide +kernel
theorem dX8_flood_63 : decode cX8_flood 63 = .ok (.goto (-24), 3) := by decide +kernel
theorem dX8_flood_66 : decode cX8_flood 66 = .ok (.iconst 0, 1) := by decide +kernel
theorem dX8_flood_67 : decode cX8_flood 67 = .ok (.istore 4, 2) := by decide +kernel
theorem dX8_flood_69 : decode cX8_flood 69 = .ok (.bipush (-4), 2) := by decide +kernel
theorem dX8_flood_71 : decode cX8_flood 71 = .ok (.istore 5, 2) := by decide +kernel
theorem dX8_flood_73 : decode cX8_flood 73 = .ok (.iconst 0, 1) := by decide +kernel
theorem dX8_flood_74 : decode cX8_flood 74 = .ok (.istore 6, 2) := by decide +kernel
theorem dX8_flood_76 : decode cX8_flood 76 = .ok (.iload 6, 2) := by decide +kernel
theorem dX8_flood_78 : decode cX8_flood 78 = .ok (.iload_n 2, 1) := by decide +kernel
theorem dX8_flood_79 : decode cX8_flood 79 = .ok (.if_icmp .ge 89, 3) := by decide +kernel
theorem dX8_flood_82 : decode cX8_flood 82 = .ok (.ldc2_w 210, 3) := by decide +kernel
theorem dX8_flood_85 : decode cX8_flood 85 = .ok (.iload_n 1, 1) := by decide +kernel
theorem dX8_flood_86 : decode cX8_flood 86 = .ok (.i2l, 1) := by decide +kernel
theorem dX8_flood_87 : decode cX8_flood 87 = .ok (.lmul, 1) := by decide +kernel
theorem dX8_flood_88 : decode cX8_flood 88 = .ok (.ldc2_w 212, 3) := by decide +kernel
theorem dX8_flood_91 : decode cX8_flood 91 = .ok (.iload 6, 2) := by decide +kernel
theorem dX8_flood_93 : decode cX8_flood 93 = .ok (.i2l, 1) := by decide +kernel
theorem dX8_flood_94 : decode cX8_flood 94 = .ok (.lmul, 1) := by decide +kernel
theorem dX8_flood_95 : decode cX8_flood 95 = .ok (.ladd, 1) := by decide +kernel
theorem dX8_flood_96 : decode cX8_flood 96 = .ok (.lconst 1, 1) := by decide +kernel
theorem dX8_flood_97 : decode cX8_flood 97 = .ok (.ladd, 1) := by decide +kernel
theorem dX8_flood_98 : decode cX8_flood 98 = .ok (.lstore 7, 2) := by decide +kernel
theorem dX8_flood_100 : decode cX8_flood 100 = .ok (.lload 7, 2) := by decide +kernel
theorem dX8_flood_102 : decode cX8_flood 102 = .ok (.lload 7, 2) := by decide +kernel
theorem dX8_flood_104 : decode cX8_flood 104 = .ok (.lmul, 1) := by decide +kernel
theorem dX8_flood_105 : decode cX8_flood 105 = .ok (.ldc2_w 214, 3) := by decide +kernel
theorem dX8_flood_108 : decode cX8_flood 108 = .ok (.lrem, 1) := by decide +kernel
theorem dX8_flood_109 : decode cX8_flood 109 = .ok (.l2i, 1) := by decide +kernel
theorem dX8_flood_110 : decode cX8_flood 110 = .ok (.iconst 4, 1) := by decide +kernel
theorem dX8_flood_111 : decode cX8_flood 111 = .ok (.idiv, 1) := by decide +kernel
theorem dX8_flood_112 : decode cX8_flood 112 = .ok (.istore 9, 2) := by decide +kernel
theorem dX8_flood_114 : decode cX8_flood 114 = .ok (.aload_n 0, 1) := by decide +kernel
theorem dX8_flood_115 : decode cX8_flood 115 = .ok (.iload 9, 2) := by decide +kernel
theorem dX8_flood_117 : decode cX8_flood 117 = .ok (.aload_n 0, 1) := by decide +kernel
theorem dX8_flood_118 : decode cX8_flood 118 = .ok (.invokevirtual 119, 3) := by decide +kernel
theorem dX8_flood_121 : decode cX8_flood 121 = .ok (.irem, 1) := by decide +kernel
theorem dX8_flood_122 : decode cX8_flood 122 = .ok (.iload 9, 2) := by decide +kernel
theorem dX8_flood_124 : decode cX8_flood 124 = .ok (.bipush 16, 2) := by decide +kernel
theorem dX8_flood_126 : decode cX8_flood 126 = .ok (.idiv, 1) := by decide +kernel
theorem dX8_flood_127 : decode cX8_flood 127 = .ok (.aload_n 0, 1) := by decide +kernel
theorem dX8_flood_128 : decode cX8_flood 128 = .ok (.invokevirtual 119, 3) := by decide +kernel
theorem dX8_flood_131 : decode cX8_flood 131 = .ok (.irem, 1) := by decide +kernel
theorem dX8_flood_132 : decode cX8_flood 132 = .ok (.invokevirtual 145, 3) := by decide +kernel
theorem dX8_flood_135 : decode cX8_flood 135 = .ok (.aload_n 0, 1) := by decide +kernel
theorem dX8_flood_136 : decode cX8_flood 136 = .ok (.invokevirtual 188, 3) := by decide +kernel
theorem dX8_flood_139 : decode cX8_flood 139 = .ok (.istore 4, 2) := by decide +kernel
theorem dX8_flood_141 : decode cX8_flood 141 = .ok (.iload 4, 2) := by decide +kernel
theorem dX8_flood_143 : decode cX8_flood 143 = .ok (.ifCond .eq 15, 3) := by decide +kernel
theorem dX8_flood_146 : decode cX8_flood 146 = .ok (.iload 5, 2) := by decide +kernel
theorem dX8_flood_148 : decode cX8_flood 148 = .ok (.ifCond .ge 10, 3) := by decide +kernel
theorem dX8_flood_151 : decode cX8_flood 151 = .ok (.iload 6, 2) := by decide +kernel
theorem dX8_flood_153 : decode cX8_flood 153 = .ok (.iconst 1, 1) := by decide +kernel
theorem dX8_flood_154 : decode cX8_flood 154 = .ok (.iadd, 1) := by decide +kernel
theorem dX8_flood_155 : decode cX8_flood 155 = .ok (.goto 5, 3) := by decide +kernel
theorem dX8_flood_158 : decode cX8_flood 158 = .ok (.iload 5, 2) := by decide +kernel
theorem dX8_flood_160 : decode cX8_flood 160 = .ok (.istore 5, 2) := by decide +kernel
theorem dX8_flood_162 : decode cX8_flood 162 = .ok (.iinc 6 1, 3) := by decide +kernel
theorem dX8_flood_165 : decode cX8_flood 165 = .ok (.goto (-89), 3) := by decide +kernel
theorem dX8_flood_168 : decode cX8_flood 168 = .ok (.iconst 0, 1) := by decide +kernel
theorem dX8_flood_169 : decode cX8_flood 169 = .ok (.istore 6, 2) := by decide +kernel
theorem dX8_flood_171 : decode cX8_flood 171 = .ok (.iload 6, 2) := by decide +kernel
theorem dX8_flood_173 : decode cX8_flood 173 = .ok (.bipush 16, 2) := by decide +kernel
theorem dX8_flood_175 : decode cX8_flood 175 = .ok (.if_icmp .ge 23, 3) := by decide +kernel
theorem dX8_flood_178 : decode cX8_flood 178 = .ok (.aload_n 0, 1) := by decide +kernel
theorem dX8_flood_179 : decode cX8_flood 179 = .ok (.getfield 19, 3) := by decide +kernel
theorem dX8_flood_182 : decode cX8_flood 182 = .ok (.iload 6, 2) := by decide +kernel
theorem dX8_flood_184 : decode cX8_flood 184 = .ok (.aload_n 0, 1) := by decide +kernel
theorem dX8_flood_185 : decode cX8_flood 185 = .ok (.getfield 53, 3) := by decide +kernel
theorem dX8_flood_188 : decode cX8_flood 188 = .ok (.iload 6, 2) := by decide +kernel
theorem dX8_flood_190 : decode cX8_flood 190 = .ok (.iaload, 1) := by decide +kernel
theorem dX8_flood_191 : decode cX8_flood 191 = .ok (.iastore, 1) := by decide +kernel
theorem dX8_flood_192 : decode cX8_flood 192 = .ok (.iinc 6 1, 3) := by decide +kernel
theorem dX8_flood_195 : decode cX8_flood 195 = .ok (.goto (-24), 3) := by decide +kernel
theorem dX8_flood_198 : decode cX8_flood 198 = .ok (.iload_n 3, 1) := by decide +kernel
theorem dX8_flood_199 : decode cX8_flood 199 = .ok (.ifCond .ne 8, 3) := by decide +kernel
theorem dX8_flood_202 : decode cX8_flood 202 = .ok (.iload 4, 2) := by decide +kernel
theorem dX8_flood_204 : decode cX8_flood 204 = .ok (.goto 5, 3) := by decide +kernel
theorem dX8_flood_207 : decode cX8_flood 207 = .ok (.iload 5, 2) := by decide +kernel
theorem dX8_flood_209 : decode cX8_flood 209 = .ok (.ireturn, 1) := by decide +kernel
theorem dX8_keep_0 : decode cX8_keep 0 = .ok (.aload_n 0, 1) := by decide +kernel
theorem dX8_keep_1 : decode cX8_keep 1 = .ok (.getfield 125, 3) := by decide +kernel
theorem dX8_keep_4 : decode cX8_keep 4 = .ok (.iconst 2, 1) := by decide +kernel
theorem dX8_keep_5 : decode cX8_keep 5 = .ok (.if_icmp .ne 6, 3) := by decide +kernel
theorem dX8_keep_8 : decode cX8_keep 8 = .ok (.bipush (-3), 2) := by decide +kernel
theorem dX8_keep_10 : decode cX8_keep 10 = .ok (.ireturn, 1) := by decide +kernel
theorem dX8_keep_11 : decode cX8_keep 11 = .ok (.iconst 0, 1) := by decide +kernel
theorem dX8_keep_12 : decode cX8_keep 12 = .ok (.istore_n 1, 1) := by decide +kernel
theorem dX8_keep_13 : decode cX8_keep 13 = .ok (.iload_n 1, 1) := by decide +kernel
theorem dX8_keep_14 : decode cX8_keep 14 = .ok (.bipush 52, 2) := by decide +kernel
theorem dX8_keep_16 : decode cX8_keep 16 = .ok (.if_icmp .ge 29, 3) := by decide +kernel
theorem dX8_keep_19 : decode cX8_keep 19 = .ok (.aload_n 0, 1) := by decide +kernel
theorem dX8_keep_20 : decode cX8_keep 20 = .ok (.getfield 28, 3) := by decide +kernel
theorem dX8_keep_23 : decode cX8_keep 23 = .ok (.bipush 52, 2) := by decide +kernel
theorem dX8_keep_25 : decode cX8_keep 25 = .ok (.aload_n 0, 1) := by decide +kernel
theorem dX8_keep_26 : decode cX8_keep 26 = .ok (.getfield 125, 3) := by decide +kernel
theorem dX8_keep_29 : decode cX8_keep 29 = .ok (.imul, 1) := by decide +kernel
theorem dX8_keep_30 : decode cX8_keep 30 = .ok (.iload_n 1, 1) := by decide +kernel
theorem dX8_keep_31 : decode cX8_keep 31 = .ok (.iadd, 1) := by decide +kernel
theorem dX8_keep_32 : decode cX8_keep 32 = .ok (.aload_n 0, 1) := by decide +kernel
theorem dX8_keep_33 : decode cX8_keep 33 = .ok (.getfield 19, 3) := by decide +kernel
theorem dX8_keep_36 : decode cX8_keep 36 = .ok (.iload_n 1, 1) := by decide +kernel
theorem dX8_keep_37 : decode cX8_keep 37 = .ok (.iaload, 1) := by decide +kernel
theorem dX8_keep_38 : decode cX8_keep 38 = .ok (.iastore, 1) := by decide +kernel
theorem dX8_keep_39 : decode cX8_keep 39 = .ok (.iinc 1 1, 3) := by decide +kernel
theorem dX8_keep_42 : decode cX8_keep 42 = .ok (.goto (-29), 3) := by decide +kernel
theorem dX8_keep_45 : decode cX8_keep 45 = .ok (.aload_n 0, 1) := by decide +kernel
theorem dX8_keep_46 : decode cX8_keep 46 = .ok (.dup, 1) := by decide +kernel
theorem dX8_keep_47 : decode cX8_keep 47 = .ok (.getfield 125, 3) := by decide +kernel
theorem dX8_keep_50 : decode cX8_keep 50 = .ok (.iconst 1, 1) := by decide +kernel
theorem dX8_keep_51 : decode cX8_keep 51 = .ok (.iadd, 1) := by decide +kernel
theorem dX8_keep_52 : decode cX8_keep 52 = .ok (.putfield 125, 3) := by decide +kernel
theorem dX8_keep_55 : decode cX8_keep 55 = .ok (.aload_n 0, 1) := by decide +kernel
theorem dX8_keep_56 : decode cX8_keep 56 = .ok (.getfield 125, 3) := by decide +kernel
theorem dX8_keep_59 : decode cX8_keep 59 = .ok (.ireturn, 1) := by decide +kernel
theorem dX8_back_0 : decode cX8_back 0 = .ok (.aload_n 0, 1) := by decide +kernel
theorem dX8_back_1 : decode cX8_back 1 = .ok (.getfield 125, 3) := by decide +kernel
theorem dX8_back_4 : decode cX8_back 4 = .ok (.ifCond .ne 6, 3) := by decide +kernel
theorem dX8_back_7 : decode cX8_back 7 = .ok (.bipush (-2), 2) := by decide +kernel
theorem dX8_back_9 : decode cX8_back 9 = .ok (.ireturn, 1) := by decide +kernel
theorem dX8_back_10 : decode cX8_back 10 = .ok (.aload_n 0, 1) := by decide +kernel
theorem dX8_back_11 : decode cX8_back 11 = .ok (.dup, 1) := by decide +kernel
theorem dX8_back_12 : decode cX8_back 12 = .ok (.getfield 125, 3) := by decide +kernel
theorem dX8_back_15 : decode cX8_back 15 = .ok (.iconst 1, 1) := by decide +kernel
theorem dX8_back_16 : decode cX8_back 16 = .ok (.isub, 1) := by decide +kernel
theorem dX8_back_17 : decode cX8_back 17 = .ok (.putfield 125, 3) := by decide +kernel
theorem dX8_back_20 : decode cX8_back 20 = .ok (.iconst 0, 1) := by decide +kernel
theorem dX8_back_21 : decode cX8_back 21 = .ok (.istore_n 1, 1) := by decide +kernel
theorem dX8_back_22 : decode cX8_back 22 = .ok (.iload_n 1, 1) := by decide +kernel
theorem dX8_back_23 : decode cX8_back 23 = .ok (.bipush 52, 2) := by decide +kernel
theorem dX8_back_25 : decode cX8_back 25 = .ok (.if_icmp .ge 29, 3) := by decide +kernel
theorem dX8_back_28 : decode cX8_back 28 = .ok (.aload_n 0, 1) := by decide +kernel
theorem dX8_back_29 : decode cX8_back 29 = .ok (.getfield 19, 3) := by decide +kernel
theorem dX8_back_32 : decode cX8_back 32 = .ok (.iload_n 1, 1) := by decide +kernel
theorem dX8_back_33 : decode cX8_back 33 = .ok (.aload_n 0, 1) := by decide +kernel
theorem dX8_back_34 : decode cX8_back 34 = .ok (.getfield 28, 3) := by decide +kernel
theorem dX8_back_37 : decode cX8_back 37 = .ok (.bipush 52, 2) := by decide +kernel
theorem dX8_back_39 : decode cX8_back 39 = .ok (.aload_n 0, 1) := by decide +kernel
theorem dX8_back_40 : decode cX8_back 40 = .ok (.getfield 125, 3) := by decide +kernel
theorem dX8_back_43 : decode cX8_back 43 = .ok (.imul, 1) := by decide +kernel
theorem dX8_back_44 : decode cX8_back 44 = .ok (.iload_n 1, 1) := by decide +kernel
theorem dX8_back_45 : decode cX8_back 45 = .ok (.iadd, 1) := by decide +kernel
theorem dX8_back_46 : decode cX8_back 46 = .ok (.iaload, 1) := by decide +kernel
theorem dX8_back_47 : decode cX8_back 47 = .ok (.iastore, 1) := by decide +kernel
theorem dX8_back_48 : decode cX8_back 48 = .ok (.iinc 1 1, 3) := by decide +kernel
theorem dX8_back_51 : decode cX8_back 51 = .ok (.goto (-29), 3) := by decide +kernel
theorem dX8_back_54 : decode cX8_back 54 = .ok (.aload_n 0, 1) := by decide +kernel
theorem dX8_back_55 : decode cX8_back 55 = .ok (.iconst 0, 1) := by decide +kernel
theorem dX8_back_56 : decode cX8_back 56 = .ok (.putfield 122, 3) := by decide +kernel
theorem dX8_back_59 : decode cX8_back 59 = .ok (.aload_n 0, 1) := by decide +kernel
theorem dX8_back_60 : decode cX8_back 60 = .ok (.getfield 125, 3) := by decide +kernel
theorem dX8_back_63 : decode cX8_back 63 = .ok (.ireturn, 1) := by decide +kernel
set_option maxRecDepth 20000 in
theorem ggX8_count_X8_places : GoodIn wsX8_count wsX8_places := goodIn_r _ [10, 1, 11, 12, 13, 14, 15, 16, 17, 18, 19, 20, 21, 22, 23, 24, 25, 26, 27, 28, 29, 30, 31, 32] (by decide +kernel) (by decide +kernel)
set_option maxRecDepth 20000 in
theorem gX8_count_X8_places : GoodIn wsX8_count (wsV RX8 119 RX8 yX8_places wsX8_places) := goodIn_app (goodIn_of _ (by decide +kernel)) ggX8_count_X8_places
theorem dX8_count_0 : decode cX8_count 0 = .ok (.iload_n 1, 1) := by decide +kernel
theorem dX8_count_1 : decode cX8_count 1 = .ok (.tableswitch 74 0 5 #[39, 44, 51, 59, 64, 69], 39) := by decide +kernel
theorem dX8_count_40 : decode cX8_count 40 = .ok (.aload_n 0, 1) := by decide +kernel
theorem dX8_count_41 : decode cX8_count 41 = .ok (.invokevirtual 119, 3) := by decide +kernel
theorem dX8_count_44 : decode cX8_count 44 = .ok (.ireturn, 1) := by decide +kernel
theorem dX8_count_45 : decode cX8_count 45 = .ok (.aload_n 0, 1) := by decide +kernel
theorem dX8_count_46 : decode cX8_count 46 = .ok (.getfield 13, 3) := by decide +kernel
theorem dX8_count_49 : decode cX8_count 49 = .ok (.iconst 0, 1) := by decide +kernel
theorem dX8_count_50 : decode cX8_count 50 = .ok (.iaload, 1) := by decide +kernel
theorem dX8_count_51 : decode cX8_count 51 = .ok (.ireturn, 1) := by decide +kernel
theorem dX8_count_52 : decode cX8_count 52 = .ok (.aload_n 0, 1) := by decide +kernel
theorem dX8_count_53 : decode cX8_count 53 = .ok (.getfield 19, 3) := by decide +kernel
theorem dX8_count_56 : decode cX8_count 56 = .ok (.bipush 16, 2) := by decide +kernel
theorem dX8_count_58 : decode cX8_count 58 = .ok (.iaload, 1) := by decide +kernel
theorem dX8_count_59 : decode cX8_count 59 = .ok (.ireturn, 1) := by decide +kernel
theorem dX8_count_60 : decode cX8_count 60 = .ok (.aload_n 0, 1) := by decide +kernel
theorem dX8_count_61 : decode cX8_count 61 = .ok (.getfield 122, 3) := by decide +kernel
theorem dX8_count_64 : decode cX8_count 64 = .ok (.ireturn, 1) := by decide +kernel
theorem dX8_count_65 : decode cX8_count 65 = .ok (.aload_n 0, 1) := by decide +kernel
theorem dX8_count_66 : decode cX8_count 66 = .ok (.getfield 125, 3) := by decide +kernel
theorem dX8_count_69 : decode cX8_count 69 = .ok (.ireturn, 1) := by decide +kernel
theorem dX8_count_70 : decode cX8_count 70 = .ok (.aload_n 0, 1) := by decide +kernel
theorem dX8_count_71 : decode cX8_count 71 = .ok (.getfield 74, 3) := by decide +kernel
theorem dX8_count_74 : decode cX8_count 74 = .ok (.ireturn, 1) := by decide +kernel
theorem dX8_count_75 : decode cX8_count 75 = .ok (.iconst (-1), 1) := by decide +kernel
theorem dX8_count_76 : decode cX8_count 76 = .ok (.ireturn, 1) := by decide +kernel
theorem dJ6_bitCount_0f7a4_0 : decode cJ6_bitCount_0f7a4 0 = .ok (.iload_n 0, 1) := by decide +kernel
theorem dJ6_bitCount_0f7a4_1 : decode cJ6_bitCount_0f7a4 1 = .ok (.iload_n 0, 1) := by decide +kernel
theorem dJ6_bitCount_0f7a4_2 : decode cJ6_bitCount_0f7a4 2 = .ok (.iconst 1, 1) := by decide +kernel
theorem dJ6_bitCount_0f7a4_3 : decode cJ6_bitCount_0f7a4 3 = .ok (.iushr, 1) := by decide +kernel
theorem dJ6_bitCount_0f7a4_4 : decode cJ6_bitCount_0f7a4 4 = .ok (.ldc_w 265, 3) := by decide +kernel
theorem dJ6_bitCount_0f7a4_7 : decode cJ6_bitCount_0f7a4 7 = .ok (.iand, 1) := by decide +kernel
theorem dJ6_bitCount_0f7a4_8 : decode cJ6_bitCount_0f7a4 8 = .ok (.isub, 1) := by decide +kernel
theorem dJ6_bitCount_0f7a4_9 : decode cJ6_bitCount_0f7a4 9 = .ok (.istore_n 0, 1) := by decide +kernel
theorem dJ6_bitCount_0f7a4_10 : decode cJ6_bitCount_0f7a4 10 = .ok (.iload_n 0, 1) := by decide +kernel
theorem dJ6_bitCount_0f7a4_11 : decode cJ6_bitCount_0f7a4 11 = .ok (.ldc_w 266, 3) := by decide +kernel
theorem dJ6_bitCount_0f7a4_14 : decode cJ6_bitCount_0f7a4 14 = .ok (.iand, 1) := by decide +kernel
theorem dJ6_bitCount_0f7a4_15 : decode cJ6_bitCount_0f7a4 15 = .ok (.iload_n 0, 1) := by decide +kernel
theorem dJ6_bitCount_0f7a4_16 : decode cJ6_bitCount_0f7a4 16 = .ok (.iconst 2, 1) := by decide +kernel
theorem dJ6_bitCount_0f7a4_17 : decode cJ6_bitCount_0f7a4 17 = .ok (.iushr, 1) := by decide +kernel
theorem dJ6_bitCount_0f7a4_18 : decode cJ6_bitCount_0f7a4 18 = .ok (.ldc_w 266, 3) := by decide +kernel
theorem dJ6_bitCount_0f7a4_21 : decode cJ6_bitCount_0f7a4 21 = .ok (.iand, 1) := by decide +kernel
theorem dJ6_bitCount_0f7a4_22 : decode cJ6_bitCount_0f7a4 22 = .ok (.iadd, 1) := by decide +kernel
theorem dJ6_bitCount_0f7a4_23 : decode cJ6_bitCount_0f7a4 23 = .ok (.istore_n 0, 1) := by decide +kernel
theorem dJ6_bitCount_0f7a4_24 : decode cJ6_bitCount_0f7a4 24 = .ok (.iload_n 0, 1) := by decide +kernel
theorem dJ6_bitCount_0f7a4_25 : decode cJ6_bitCount_0f7a4 25 = .ok (.iload_n 0, 1) := by decide +kernel
theorem dJ6_bitCount_0f7a4_26 : decode cJ6_bitCount_0f7a4 26 = .ok (.iconst 4, 1) := by decide +kernel
theorem dJ6_bitCount_0f7a4_27 : decode cJ6_bitCount_0f7a4 27 = .ok (.iushr, 1) := by decide +kernel
theorem dJ6_bitCount_0f7a4_28 : decode cJ6_bitCount_0f7a4 28 = .ok (.iadd, 1) := by decide +kernel
theorem dJ6_bitCount_0f7a4_29 : decode cJ6_bitCount_0f7a4 29 = .ok (.ldc_w 267, 3) := by decide +kernel
theorem dJ6_bitCount_0f7a4_32 : decode cJ6_bitCount_0f7a4 32 = .ok (.iand, 1) := by decide +kernel
theorem dJ6_bitCount_0f7a4_33 : decode cJ6_bitCount_0f7a4 33 = .ok (.istore_n 0, 1) := by decide +kernel
theorem dJ6_bitCount_0f7a4_34 : decode cJ6_bitCount_0f7a4 34 = .ok (.iload_n 0, 1) := by decide +kernel
theorem dJ6_bitCount_0f7a4_35 : decode cJ6_bitCount_0f7a4 35 = .ok (.iload_n 0, 1) := by decide +kernel
theorem dJ6_bitCount_0f7a4_36 : decode cJ6_bitCount_0f7a4 36 = .ok (.bipush 8, 2) := by decide +kernel
theorem dJ6_bitCount_0f7a4_38 : decode cJ6_bitCount_0f7a4 38 = .ok (.iushr, 1) := by decide +kernel
theorem dJ6_bitCount_0f7a4_39 : decode cJ6_bitCount_0f7a4 39 = .ok (.iadd, 1) := by decide +kernel
theorem dJ6_bitCount_0f7a4_40 : decode cJ6_bitCount_0f7a4 40 = .ok (.istore_n 0, 1) := by decide +kernel
theorem dJ6_bitCount_0f7a4_41 : decode cJ6_bitCount_0f7a4 41 = .ok (.iload_n 0, 1) := by decide +kernel
theorem dJ6_bitCount_0f7a4_42 : decode cJ6_bitCount_0f7a4 42 = .ok (.iload_n 0, 1) := by decide +kernel
theorem dJ6_bitCount_0f7a4_43 : decode cJ6_bitCount_0f7a4 43 = .ok (.bipush 16, 2) := by decide +kernel
theorem dJ6_bitCount_0f7a4_45 : decode cJ6_bitCount_0f7a4 45 = .ok (.iushr, 1) := by decide +kernel
theorem dJ6_bitCount_0f7a4_46 : decode cJ6_bitCount_0f7a4 46 = .ok (.iadd, 1) := by decide +kernel
theorem dJ6_bitCount_0f7a4_47 : decode cJ6_bitCount_0f7a4 47 = .ok (.istore_n 0, 1) := by decide +kernel
theorem dJ6_bitCount_0f7a4_48 : decode cJ6_bitCount_0f7a4 48 = .ok (.iload_n 0, 1) := by decide +kernel
theorem dJ6_bitCount_0f7a4_49 : decode cJ6_bitCount_0f7a4 49 = .ok (.bipush 63, 2) := by decide +kernel
theorem dJ6_bitCount_0f7a4_51 : decode cJ6_bitCount_0f7a4 51 = .ok (.iand, 1) := by decide +kernel
theorem dJ6_bitCount_0f7a4_52 : decode cJ6_bitCount_0f7a4 52 = .ok (.ireturn, 1) := by decide +kernel
theorem dJ9_max_7cf53_0 : decode cJ9_max_7cf53 0 = .ok (.iload_n 0, 1) := by decide +kernel
theorem dJ9_max_7cf53_1 : decode cJ9_max_7cf53 1 = .ok (.iload_n 1, 1) := by decide +kernel
theorem dJ9_max_7cf53_2 : decode cJ9_max_7cf53 2 = .ok (.if_icmp .lt 7, 3) := by decide +kernel
theorem dJ9_max_7cf53_5 : decode cJ9_max_7cf53 5 = .ok (.iload_n 0, 1) := by decide +kernel
theorem dJ9_max_7cf53_6 : decode cJ9_max_7cf53 6 = .ok (.goto 4, 3) := by decide +kernel
theorem dJ9_max_7cf53_9 : decode cJ9_max_7cf53 9 = .ok (.iload_n 1, 1) := by decide +kernel
theorem dJ9_max_7cf53_10 : decode cJ9_max_7cf53 10 = .ok (.ireturn, 1) := by decide +kernel
theorem dJ9_min_7cf53_0 : decode cJ9_min_7cf53 0 = .ok (.iload_n 0, 1) := by decide +kernel
theorem dJ9_min_7cf53_1 : decode cJ9_min_7cf53 1 = .ok (.iload_n 1, 1) := by decide +kernel
theorem dJ9_min_7cf53_2 : decode cJ9_min_7cf53 2 = .ok (.if_icmp .gt 7, 3) := by decide +kernel
theorem dJ9_min_7cf53_5 : decode cJ9_min_7cf53 5 = .ok (.iload_n 0, 1) := by decide +kernel
theorem dJ9_min_7cf53_6 : decode cJ9_min_7cf53 6 = .ok (.goto 4, 3) := by decide +kernel
theorem dJ9_min_7cf53_9 : decode cJ9_min_7cf53 9 = .ok (.iload_n 1, 1) := by decide +kernel
theorem dJ9_min_7cf53_10 : decode cJ9_min_7cf53 10 = .ok (.ireturn, 1) := by decide +kernel
set_option maxRecDepth 20000 in
theorem ggJ0_length_8abf5_J0_coder_7d493 : GoodIn wsJ0_length_8abf5 wsJ0_coder_7d493 := goodIn_r _ [6, 7, 8] (by decide +kernel) (by decide +kernel)
set_option maxRecDepth 20000 in
theorem gJ0_length_8abf5_J0_coder_7d493 : GoodIn wsJ0_length_8abf5 (wsV RJ0 335 RJ0 yJ0_coder_7d493 wsJ0_coder_7d493) := goodIn_app (goodIn_of _ (by decide +kernel)) ggJ0_length_8abf5_J0_coder_7d493
theorem dJ0_length_8abf5_0 : decode cJ0_length_8abf5 0 = .ok (.aload_n 0, 1) := by decide +kernel
theorem dJ0_length_8abf5_1 : decode cJ0_length_8abf5 1 = .ok (.getfield 9, 3) := by decide +kernel
theorem dJ0_length_8abf5_4 : decode cJ0_length_8abf5 4 = .ok (.arraylength, 1) := by decide +kernel
theorem dJ0_length_8abf5_5 : decode cJ0_length_8abf5 5 = .ok (.aload_n 0, 1) := by decide +kernel
theorem dJ0_length_8abf5_6 : decode cJ0_length_8abf5 6 = .ok (.invokevirtual 335, 3) := by decide +kernel
theorem dJ0_length_8abf5_9 : decode cJ0_length_8abf5 9 = .ok (.ishr, 1) := by decide +kernel
theorem dJ0_length_8abf5_10 : decode cJ0_length_8abf5 10 = .ok (.ireturn, 1) := by decide +kernel
set_option maxRecDepth 20000 in
theorem ggJ0_charAt_5068e_J0_isLatin1_aae02 : GoodIn wsJ0_charAt_5068e wsJ0_isLatin1_aae02 := goodIn_r _ [6, 7, 8] (by decide +kernel) (by decide +kernel)
set_option maxRecDepth 20000 in
theorem gJ0_charAt_5068e_J0_isLatin1_aae02 : GoodIn wsJ0_charAt_5068e (wsV RJ0 492 RJ0 yJ0_isLatin1_aae02 wsJ0_isLatin1_aae02) := goodIn_app (goodIn_of _ (by decide +kernel)) ggJ0_charAt_5068e_J0_isLatin1_aae02
set_option maxRecDepth 20000 in
theorem ggJ0_charAt_5068e_J1_charAt_3b067 : GoodIn wsJ0_charAt_5068e wsJ1_charAt_3b067 := goodIn_r _ [12, 13, 14, 5, 15, 16, 17, 18, 19, 20] (by decide +kernel) (by decide +kernel)
set_option maxRecDepth 20000 in
theorem gJ0_charAt_5068e_J1_charAt_3b067 : GoodIn wsJ0_charAt_5068e (va_wsS RJ0 495 yJ1_charAt_3b067 wsJ1_charAt_3b067) := goodIn_app (goodIn_of _ (by decide +kernel)) ggJ0_charAt_5068e_J1_charAt_3b067
set_option maxRecDepth 20000 in
theorem ggJ0_charAt_5068e_J2_charAt_3b067 : GoodIn wsJ0_charAt_5068e wsJ2_charAt_3b067 := goodIn_r _ [24, 25, 26, 23, 27, 28, 29, 30, 31, 14, 5, 15, 16, 17, 18, 19, 20, 32, 33, 34, 35, 36, 37] (by decide +kernel) (by decide +kernel)
set_option maxRecDepth 20000 in
theorem gJ0_charAt_5068e_J2_charAt_3b067 : GoodIn wsJ0_charAt_5068e (va_wsS RJ0 498 yJ2_charAt_3b067 wsJ2_charAt_3b067) := goodIn_app (goodIn_of _ (by decide +kernel)) ggJ0_charAt_5068e_J2_charAt_3b067
theorem dJ0_charAt_5068e_0 : decode cJ0_charAt_5068e 0 = .ok (.aload_n 0, 1) := by decide +kernel
theorem dJ0_charAt_5068e_1 : decode cJ0_charAt_5068e 1 = .ok (.invokevirtual 492, 3) := by decide +kernel
theorem dJ0_charAt_5068e_4 : decode cJ0_charAt_5068e 4 = .ok (.ifCond .eq 12, 3) := by decide +kernel
theorem dJ0_charAt_5068e_7 : decode cJ0_charAt_5068e 7 = .ok (.aload_n 0, 1) := by decide +kernel
theorem dJ0_charAt_5068e_8 : decode cJ0_charAt_5068e 8 = .ok (.getfield 9, 3) := by decide +kernel
theorem dJ0_charAt_5068e_11 : decode cJ0_charAt_5068e 11 = .ok (.iload_n 1, 1) := by decide +kernel
theorem dJ0_charAt_5068e_12 : decode cJ0_charAt_5068e 12 = .ok (.invokestatic 495, 3) := by decide +kernel
theorem dJ0_charAt_5068e_15 : decode cJ0_charAt_5068e 15 = .ok (.ireturn, 1) := by decide +kernel
theorem dJ0_charAt_5068e_16 : decode cJ0_charAt_5068e 16 = .ok (.aload_n 0, 1) := by decide +kernel
theorem dJ0_charAt_5068e_17 : decode cJ0_charAt_5068e 17 = .ok (.getfield 9, 3) := by decide +kernel
theorem dJ0_charAt_5068e_20 : decode cJ0_charAt_5068e 20 = .ok (.iload_n 1, 1) := by decide +kernel
theorem dJ0_charAt_5068e_21 : decode cJ0_charAt_5068e 21 = .ok (.invokestatic 498, 3) := by decide +kernel
theorem dJ0_charAt_5068e_24 : decode cJ0_charAt_5068e 24 = .ok (.ireturn, 1) := by decide +kernel
theorem dJ0_coder_7d493_0 : decode cJ0_coder_7d493 0 = .ok (.getstatic 38, 3) := by decide +kernel
theorem dJ0_coder_7d493_3 : decode cJ0_coder_7d493 3 = .ok (.ifCond .eq 10, 3) := by decide +kernel
theorem dJ0_coder_7d493_6 : decode cJ0_coder_7d493 6 = .ok (.aload_n 0, 1) := by decide +kernel
theorem dJ0_coder_7d493_7 : decode cJ0_coder_7d493 7 = .ok (.getfield 15, 3) := by decide +kernel
theorem dJ0_coder_7d493_10 : decode cJ0_coder_7d493 10 = .ok (.goto 4, 3) := by decide +kernel
theorem dJ0_coder_7d493_13 : decode cJ0_coder_7d493 13 = .ok (.iconst 1, 1) := by decide +kernel
theorem dJ0_coder_7d493_14 : decode cJ0_coder_7d493 14 = .ok (.ireturn, 1) := by decide +kernel
theorem dJ0_isLatin1_aae02_0 : decode cJ0_isLatin1_aae02 0 = .ok (.getstatic 38, 3) := by decide +kernel
theorem dJ0_isLatin1_aae02_3 : decode cJ0_isLatin1_aae02 3 = .ok (.ifCond .eq 14, 3) := by decide +kernel
theorem dJ0_isLatin1_aae02_6 : decode cJ0_isLatin1_aae02 6 = .ok (.aload_n 0, 1) := by decide +kernel
theorem dJ0_isLatin1_aae02_7 : decode cJ0_isLatin1_aae02 7 = .ok (.getfield 15, 3) := by decide +kernel
theorem dJ0_isLatin1_aae02_10 : decode cJ0_isLatin1_aae02 10 = .ok (.ifCond .ne 7, 3) := by decide +kernel
theorem dJ0_isLatin1_aae02_13 : decode cJ0_isLatin1_aae02 13 = .ok (.iconst 1, 1) := by decide +kernel
theorem dJ0_isLatin1_aae02_14 : decode cJ0_isLatin1_aae02 14 = .ok (.goto 4, 3) := by decide +kernel
theorem dJ0_isLatin1_aae02_17 : decode cJ0_isLatin1_aae02 17 = .ok (.iconst 0, 1) := by decide +kernel
theorem dJ0_isLatin1_aae02_18 : decode cJ0_isLatin1_aae02 18 = .ok (.ireturn, 1) := by decide +kernel
set_option maxRecDepth 20000 in
theorem ggJ0_checkIndex_df160_J3_checkIndex_8e157 : GoodIn wsJ0_checkIndex_df160 wsJ3_checkIndex_8e157 := goodIn_r _ [5] (by decide +kernel) (by decide +kernel)
set_option maxRecDepth 20000 in
theorem gJ0_checkIndex_df160_J3_checkIndex_8e157 : GoodIn wsJ0_checkIndex_df160 (va_wsS RJ0 1059 yJ3_checkIndex_8e157 wsJ3_checkIndex_8e157) := goodIn_app (goodIn_of _ (by decide +kernel)) ggJ0_checkIndex_df160_J3_checkIndex_8e157
theorem dJ0_checkIndex_df160_0 : decode cJ0_checkIndex_df160 0 = .ok (.iload_n 0, 1) := by decide +kernel
theorem dJ0_checkIndex_df160_1 : decode cJ0_checkIndex_df160 1 = .ok (.iload_n 1, 1) := by decide +kernel
theorem dJ0_checkIndex_df160_2 : decode cJ0_checkIndex_df160 2 = .ok (.getstatic 1053, 3) := by decide +kernel
theorem dJ0_checkIndex_df160_5 : decode cJ0_checkIndex_df160 5 = .ok (.invokestatic 1059, 3) := by decide +kernel
theorem dJ0_checkIndex_df160_8 : decode cJ0_checkIndex_df160 8 = .ok (.pop, 1) := by decide +kernel
theorem dJ0_checkIndex_df160_9 : decode cJ0_checkIndex_df160 9 = .ok (.return_, 1) := by decide +kernel
set_option maxRecDepth 20000 in
theorem ggJ1_charAt_3b067_J0_checkIndex_df160 : GoodIn wsJ1_charAt_3b067 wsJ0_checkIndex_df160 := goodIn_r _ [4, 5, 6, 7, 8, 9] (by decide +kernel) (by decide +kernel)
set_option maxRecDepth 20000 in
theorem gJ1_charAt_3b067_J0_checkIndex_df160 : GoodIn wsJ1_charAt_3b067 (va_wsS RJ1 9 yJ0_checkIndex_df160 wsJ0_checkIndex_df160) := goodIn_app (goodIn_of _ (by decide +kernel)) ggJ1_charAt_3b067_J0_checkIndex_df160
theorem dJ1_charAt_3b067_0 : decode cJ1_charAt_3b067 0 = .ok (.iload_n 1, 1) := by decide +kernel
theorem dJ1_charAt_3b067_1 : decode cJ1_charAt_3b067 1 = .ok (.aload_n 0, 1) := by decide +kernel
theorem dJ1_charAt_3b067_2 : decode cJ1_charAt_3b067 2 = .ok (.arraylength, 1) := by decide +kernel
theorem dJ1_charAt_3b067_3 : decode cJ1_charAt_3b067 3 = .ok (.invokestatic 9, 3) := by decide +kernel
theorem dJ1_charAt_3b067_6 : decode cJ1_charAt_3b067 6 = .ok (.aload_n 0, 1) := by decide +kernel
theorem dJ1_charAt_3b067_7 : decode cJ1_charAt_3b067 7 = .ok (.iload_n 1, 1) := by decide +kernel
theorem dJ1_charAt_3b067_8 : decode cJ1_charAt_3b067 8 = .ok (.baload, 1) := by decide +kernel
theorem dJ1_charAt_3b067_9 : decode cJ1_charAt_3b067 9 = .ok (.sipush 255, 3) := by decide +kernel
theorem dJ1_charAt_3b067_12 : decode cJ1_charAt_3b067 12 = .ok (.iand, 1) := by decide +kernel
theorem dJ1_charAt_3b067_13 : decode cJ1_charAt_3b067 13 = .ok (.i2c, 1) := by decide +kernel
theorem dJ1_charAt_3b067_14 : decode cJ1_charAt_3b067 14 = .ok (.ireturn, 1) := by decide +kernel
set_option maxRecDepth 20000 in
theorem ggJ2_getChar_3b067_J2_length_9d52b : GoodIn wsJ2_getChar_3b067 wsJ2_length_9d52b := goodIn_r _ [7] (by decide +kernel) (by decide +kernel)
set_option maxRecDepth 20000 in
theorem gJ2_getChar_3b067_J2_length_9d52b : GoodIn wsJ2_getChar_3b067 (va_wsS RJ2 48 yJ2_length_9d52b wsJ2_length_9d52b) := goodIn_app (goodIn_of _ (by decide +kernel)) ggJ2_getChar_3b067_J2_length_9d52b
theorem dJ2_getChar_3b067_0 : decode cJ2_getChar_3b067 0 = .ok (.getstatic 44, 3) := by decide +kernel
theorem dJ2_getChar_3b067_3 : decode cJ2_getChar_3b067 3 = .ok (.ifCond .ne 25, 3) := by decide +kernel
theorem dJ2_getChar_3b067_6 : decode cJ2_getChar_3b067 6 = .ok (.iload_n 1, 1) := by decide +kernel
theorem dJ2_getChar_3b067_7 : decode cJ2_getChar_3b067 7 = .ok (.ifCond .lt 11, 3) := by decide +kernel
theorem dJ2_getChar_3b067_10 : decode cJ2_getChar_3b067 10 = .ok (.iload_n 1, 1) := by decide +kernel
theorem dJ2_getChar_3b067_11 : decode cJ2_getChar_3b067 11 = .ok (.aload_n 0, 1) := by decide +kernel
theorem dJ2_getChar_3b067_12 : decode cJ2_getChar_3b067 12 = .ok (.invokestatic 48, 3) := by decide +kernel
theorem dJ2_getChar_3b067_15 : decode cJ2_getChar_3b067 15 = .ok (.if_icmp .lt 13, 3) := by decide +kernel
theorem dJ2_getChar_3b067_18 : decode cJ2_getChar_3b067 18 = .ok (.new 52, 3) := by decide +kernel
theorem dJ2_getChar_3b067_21 : decode cJ2_getChar_3b067 21 = .ok (.dup, 1) := by decide +kernel
theorem dJ2_getChar_3b067_22 : decode cJ2_getChar_3b067 22 = .ok (.ldc 54, 2) := by decide +kernel
theorem dJ2_getChar_3b067_24 : decode cJ2_getChar_3b067 24 = .ok (.invokespecial 56, 3) := by decide +kernel
theorem dJ2_getChar_3b067_27 : decode cJ2_getChar_3b067 27 = .ok (.athrow, 1) := by decide +kernel
theorem dJ2_getChar_3b067_28 : decode cJ2_getChar_3b067 28 = .ok (.iload_n 1, 1) := by decide +kernel
theorem dJ2_getChar_3b067_29 : decode cJ2_getChar_3b067 29 = .ok (.iconst 1, 1) := by decide +kernel
theorem dJ2_getChar_3b067_30 : decode cJ2_getChar_3b067 30 = .ok (.ishl, 1) := by decide +kernel
theorem dJ2_getChar_3b067_31 : decode cJ2_getChar_3b067 31 = .ok (.istore_n 1, 1) := by decide +kernel
theorem dJ2_getChar_3b067_32 : decode cJ2_getChar_3b067 32 = .ok (.aload_n 0, 1) := by decide +kernel
theorem dJ2_getChar_3b067_33 : decode cJ2_getChar_3b067 33 = .ok (.iload_n 1, 1) := by decide +kernel
theorem dJ2_getChar_3b067_34 : decode cJ2_getChar_3b067 34 = .ok (.iinc 1 1, 3) := by decide +kernel
theorem dJ2_getChar_3b067_37 : decode cJ2_getChar_3b067 37 = .ok (.baload, 1) := by decide +kernel
theorem dJ2_getChar_3b067_38 : decode cJ2_getChar_3b067 38 = .ok (.sipush 255, 3) := by decide +kernel
theorem dJ2_getChar_3b067_41 : decode cJ2_getChar_3b067 41 = .ok (.iand, 1) := by decide +kernel
theorem dJ2_getChar_3b067_42 : decode cJ2_getChar_3b067 42 = .ok (.getstatic 59, 3) := by decide +kernel
theorem dJ2_getChar_3b067_45 : decode cJ2_getChar_3b067 45 = .ok (.ishl, 1) := by decide +kernel
theorem dJ2_getChar_3b067_46 : decode cJ2_getChar_3b067 46 = .ok (.aload_n 0, 1) := by decide +kernel
theorem dJ2_getChar_3b067_47 : decode cJ2_getChar_3b067 47 = .ok (.iload_n 1, 1) := by decide +kernel
theorem dJ2_getChar_3b067_48 : decode cJ2_getChar_3b067 48 = .ok (.baload, 1) := by decide +kernel
theorem dJ2_getChar_3b067_49 : decode cJ2_getChar_3b067 49 = .ok (.sipush 255, 3) := by decide +kernel
theorem dJ2_getChar_3b067_52 : decode cJ2_getChar_3b067 52 = .ok (.iand, 1) := by decide +kernel
theorem dJ2_getChar_3b067_53 : decode cJ2_getChar_3b067 53 = .ok (.getstatic 63, 3) := by decide +kernel
theorem dJ2_getChar_3b067_56 : decode cJ2_getChar_3b067 56 = .ok (.ishl, 1) := by decide +kernel
theorem dJ2_getChar_3b067_57 : decode cJ2_getChar_3b067 57 = .ok (.ior, 1) := by decide +kernel
theorem dJ2_getChar_3b067_58 : decode cJ2_getChar_3b067 58 = .ok (.i2c, 1) := by decide +kernel
theorem dJ2_getChar_3b067_59 : decode cJ2_getChar_3b067 59 = .ok (.ireturn, 1) := by decide +kernel
theorem dJ2_length_9d52b_0 : decode cJ2_length_9d52b 0 = .ok (.aload_n 0, 1) := by decide +kernel
theorem dJ2_length_9d52b_1 : decode cJ2_length_9d52b 1 = .ok (.arraylength, 1) := by decide +kernel
theorem dJ2_length_9d52b_2 : decode cJ2_length_9d52b 2 = .ok (.iconst 1, 1) := by decide +kernel
theorem dJ2_length_9d52b_3 : decode cJ2_length_9d52b 3 = .ok (.ishr, 1) := by decide +kernel
theorem dJ2_length_9d52b_4 : decode cJ2_length_9d52b 4 = .ok (.ireturn, 1) := by decide +kernel
set_option maxRecDepth 20000 in
theorem ggJ2_charAt_3b067_J2_checkIndex_2214a : GoodIn wsJ2_charAt_3b067 wsJ2_checkIndex_2214a := goodIn_r _ [4, 5, 6, 3, 7, 8, 9, 10, 11, 12, 13, 14, 15, 16] (by decide +kernel) (by decide +kernel)
set_option maxRecDepth 20000 in
theorem gJ2_charAt_3b067_J2_checkIndex_2214a : GoodIn wsJ2_charAt_3b067 (va_wsS RJ2 67 yJ2_checkIndex_2214a wsJ2_checkIndex_2214a) := goodIn_app (goodIn_of _ (by decide +kernel)) ggJ2_charAt_3b067_J2_checkIndex_2214a
set_option maxRecDepth 20000 in
theorem ggJ2_charAt_3b067_J2_getChar_3b067 : GoodIn wsJ2_charAt_3b067 wsJ2_getChar_3b067 := goodIn_r _ [19, 20, 21, 22, 5, 6, 3, 7] (by decide +kernel) (by decide +kernel)
set_option maxRecDepth 20000 in
theorem gJ2_charAt_3b067_J2_getChar_3b067 : GoodIn wsJ2_charAt_3b067 (va_wsS RJ2 71 yJ2_getChar_3b067 wsJ2_getChar_3b067) := goodIn_app (goodIn_of _ (by decide +kernel)) ggJ2_charAt_3b067_J2_getChar_3b067
theorem dJ2_charAt_3b067_0 : decode cJ2_charAt_3b067 0 = .ok (.iload_n 1, 1) := by decide +kernel
theorem dJ2_charAt_3b067_1 : decode cJ2_charAt_3b067 1 = .ok (.aload_n 0, 1) := by decide +kernel
theorem dJ2_charAt_3b067_2 : decode cJ2_charAt_3b067 2 = .ok (.invokestatic 67, 3) := by decide +kernel
theorem dJ2_charAt_3b067_5 : decode cJ2_charAt_3b067 5 = .ok (.aload_n 0, 1) := by decide +kernel
theorem dJ2_charAt_3b067_6 : decode cJ2_charAt_3b067 6 = .ok (.iload_n 1, 1) := by decide +kernel
theorem dJ2_charAt_3b067_7 : decode cJ2_charAt_3b067 7 = .ok (.invokestatic 71, 3) := by decide +kernel
theorem dJ2_charAt_3b067_10 : decode cJ2_charAt_3b067 10 = .ok (.ireturn, 1) := by decide +kernel
set_option maxRecDepth 20000 in
theorem ggJ2_checkIndex_2214a_J2_length_9d52b : GoodIn wsJ2_checkIndex_2214a wsJ2_length_9d52b := goodIn_r _ [4] (by decide +kernel) (by decide +kernel)
set_option maxRecDepth 20000 in
theorem gJ2_checkIndex_2214a_J2_length_9d52b : GoodIn wsJ2_checkIndex_2214a (va_wsS RJ2 48 yJ2_length_9d52b wsJ2_length_9d52b) := goodIn_app (goodIn_of _ (by decide +kernel)) ggJ2_checkIndex_2214a_J2_length_9d52b
set_option maxRecDepth 20000 in
theorem ggJ2_checkIndex_2214a_J0_checkIndex_df160 : GoodIn wsJ2_checkIndex_2214a wsJ0_checkIndex_df160 := goodIn_r _ [8, 9, 10, 11, 12, 13] (by decide +kernel) (by decide +kernel)
set_option maxRecDepth 20000 in
theorem gJ2_checkIndex_2214a_J0_checkIndex_df160 : GoodIn wsJ2_checkIndex_2214a (va_wsS RJ2 414 yJ0_checkIndex_df160 wsJ0_checkIndex_df160) := goodIn_app (goodIn_of _ (by decide +kernel)) ggJ2_checkIndex_2214a_J0_checkIndex_df160
theorem dJ2_checkIndex_2214a_0 : decode cJ2_checkIndex_2214a 0 = .ok (.iload_n 0, 1) := by decide +kernel
theorem dJ2_checkIndex_2214a_1 : decode cJ2_checkIndex_2214a 1 = .ok (.aload_n 1, 1) := by decide +kernel
theorem dJ2_checkIndex_2214a_2 : decode cJ2_checkIndex_2214a 2 = .ok (.invokestatic 48, 3) := by decide +kernel
theorem dJ2_checkIndex_2214a_5 : decode cJ2_checkIndex_2214a 5 = .ok (.invokestatic 414, 3) := by decide +kernel
theorem dJ2_checkIndex_2214a_8 : decode cJ2_checkIndex_2214a 8 = .ok (.return_, 1) := by decide +kernel
theorem dJ3_checkIndex_8e157_0 : decode cJ3_checkIndex_8e157 0 = .ok (.iload_n 0, 1) := by decide +kernel
theorem dJ3_checkIndex_8e157_1 : decode cJ3_checkIndex_8e157 1 = .ok (.ifCond .lt 8, 3) := by decide +kernel
theorem dJ3_checkIndex_8e157_4 : decode cJ3_checkIndex_8e157 4 = .ok (.iload_n 0, 1) := by decide +kernel
theorem dJ3_checkIndex_8e157_5 : decode cJ3_checkIndex_8e157 5 = .ok (.iload_n 1, 1) := by decide +kernel
theorem dJ3_checkIndex_8e157_6 : decode cJ3_checkIndex_8e157 6 = .ok (.if_icmp .lt 10, 3) := by decide +kernel
theorem dJ3_checkIndex_8e157_9 : decode cJ3_checkIndex_8e157 9 = .ok (.aload_n 2, 1) := by decide +kernel
theorem dJ3_checkIndex_8e157_10 : decode cJ3_checkIndex_8e157 10 = .ok (.iload_n 0, 1) := by decide +kernel
theorem dJ3_checkIndex_8e157_11 : decode cJ3_checkIndex_8e157 11 = .ok (.iload_n 1, 1) := by decide +kernel
theorem dJ3_checkIndex_8e157_12 : decode cJ3_checkIndex_8e157 12 = .ok (.invokestatic 95, 3) := by decide +kernel
theorem dJ3_checkIndex_8e157_15 : decode cJ3_checkIndex_8e157 15 = .ok (.athrow, 1) := by decide +kernel
theorem dJ3_checkIndex_8e157_16 : decode cJ3_checkIndex_8e157 16 = .ok (.iload_n 0, 1) := by decide +kernel
theorem dJ3_checkIndex_8e157_17 : decode cJ3_checkIndex_8e157 17 = .ok (.ireturn, 1) := by decide +kernel
abbrev vwCl : List vw_C := [(RX0, TX0, 6), (RX1, TX1, 6), (RX2, TX2, 2), (RX3, TX3, 8), (RX4, TX4, 2), (RX5, TX5, 5), (RX6, TX6, 3), (RX7, TX7, 9), (RX8, TX8, 22)]

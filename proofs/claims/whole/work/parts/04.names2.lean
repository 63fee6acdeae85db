theorem dX3_peek_32 : decode cX3_peek 32 = .ok (.aload_n 0, 1) := by decide +kernel
theorem dX3_peek_33 : decode cX3_peek 33 = .ok (.getfield 33, 3) := by decide +kernel
theorem dX3_peek_36 : decode cX3_peek 36 = .ok (.caload, 1) := by decide +kernel
theorem dX3_peek_37 : decode cX3_peek 37 = .ok (.goto 4, 3) := by decide +kernel
theorem dX3_peek_40 : decode cX3_peek 40 = .ok (.iconst (-1), 1) := by decide +kernel
theorem dX3_peek_41 : decode cX3_peek 41 = .ok (.ireturn, 1) := by decide +kernel
theorem dX3_figure_0 : decode cX3_figure 0 = .ok (.iload_n 0, 1) := by decide +kernel
theorem dX3_figure_1 : decode cX3_figure 1 = .ok (.bipush 48, 2) := by decide +kernel
theorem dX3_figure_3 : decode cX3_figure 3 = .ok (.if_icmp .lt 16, 3) := by decide +kernel
theorem dX3_figure_6 : decode cX3_figure 6 = .ok (.iload_n 0, 1) := by decide +kernel
theorem dX3_figure_7 : decode cX3_figure 7 = .ok (.bipush 57, 2) := by decide +kernel
theorem dX3_figure_9 : decode cX3_figure 9 = .ok (.if_icmp .gt 10, 3) := by decide +kernel
theorem dX3_figure_12 : decode cX3_figure 12 = .ok (.iload_n 0, 1) := by decide +kernel
theorem dX3_figure_13 : decode cX3_figure 13 = .ok (.bipush 48, 2) := by decide +kernel
theorem dX3_figure_15 : decode cX3_figure 15 = .ok (.isub, 1) := by decide +kernel
theorem dX3_figure_16 : decode cX3_figure 16 = .ok (.goto 4, 3) := by decide +kernel
theorem dX3_figure_19 : decode cX3_figure 19 = .ok (.iconst (-1), 1) := by decide +kernel
theorem dX3_figure_20 : decode cX3_figure 20 = .ok (.ireturn, 1) := by decide +kernel
theorem dX4_init_0 : decode cX4_init 0 = .ok (.aload_n 0, 1) := by decide +kernel
theorem dX4_init_1 : decode cX4_init 1 = .ok (.invokespecial 3, 3) := by decide +kernel
theorem dX4_init_4 : decode cX4_init 4 = .ok (.aload_n 0, 1) := by decide +kernel
theorem dX4_init_5 : decode cX4_init 5 = .ok (.iconst 4, 1) := by decide +kernel
theorem dX4_init_6 : decode cX4_init 6 = .ok (.newarray .int, 2) := by decide +kernel
theorem dX4_init_8 : decode cX4_init 8 = .ok (.putfield 9, 3) := by decide +kernel
theorem dX4_init_11 : decode cX4_init 11 = .ok (.aload_n 0, 1) := by decide +kernel
theorem dX4_init_12 : decode cX4_init 12 = .ok (.iconst 4, 1) := by decide +kernel
theorem dX4_init_13 : decode cX4_init 13 = .ok (.newarray .int, 2) := by decide +kernel
theorem dX4_init_15 : decode cX4_init 15 = .ok (.putfield 15, 3) := by decide +kernel
theorem dX4_init_18 : decode cX4_init 18 = .ok (.return_, 1) := by decide +kernel
set_option maxRecDepth 20000 in
theorem ggX4_spell_X4_spellIn : GoodIn wsX4_spell wsX4_spellIn := goodIn_r _ [5, 6, 7, 8, 9, 10, 4, 11, 12, 13, 14, 15, 16, 17, 18, 19, 20, 21, 22, 23, 24, 25, 26, 27, 28, 29, 30, 31, 32, 33, 34, 35, 36, 37, 38, 39, 40, 41, 42, 43, 44, 45, 46, 47, 48, 49, 50, 51, 52, 53, 54, 55, 56, 57, 58, 59, 60] (by decide +kernel) (by decide +kernel)
set_option maxRecDepth 20000 in
theorem gX4_spell_X4_spellIn : GoodIn wsX4_spell (wsV RX4 18 RX4 yX4_spellIn wsX4_spellIn) := goodIn_app (goodIn_of _ (by decide +kernel)) ggX4_spell_X4_spellIn
theorem dX4_spell_0 : decode cX4_spell 0 = .ok (.iconst 1, 1) := by decide +kernel
theorem dX4_spell_1 : decode cX4_spell 1 = .ok (.istore_n 3, 1) := by decide +kernel
theorem dX4_spell_2 : decode cX4_spell 2 = .ok (.iconst 1, 1) := by decide +kernel
theorem dX4_spell_3 : decode cX4_spell 3 = .ok (.istore 4, 2) := by decide +kernel
theorem dX4_spell_5 : decode cX4_spell 5 = .ok (.iload 4, 2) := by decide +kernel
theorem dX4_spell_7 : decode cX4_spell 7 = .ok (.iconst 4, 1) := by decide +kernel
theorem dX4_spell_8 : decode cX4_spell 8 = .ok (.if_icmp .gt 29, 3) := by decide +kernel
theorem dX4_spell_11 : decode cX4_spell 11 = .ok (.iload_n 3, 1) := by decide +kernel
theorem dX4_spell_12 : decode cX4_spell 12 = .ok (.bipush 6, 2) := by decide +kernel
theorem dX4_spell_14 : decode cX4_spell 14 = .ok (.imul, 1) := by decide +kernel
theorem dX4_spell_15 : decode cX4_spell 15 = .ok (.istore_n 3, 1) := by decide +kernel
theorem dX4_spell_16 : decode cX4_spell 16 = .ok (.aload_n 0, 1) := by decide +kernel
theorem dX4_spell_17 : decode cX4_spell 17 = .ok (.aload_n 1, 1) := by decide +kernel
theorem dX4_spell_18 : decode cX4_spell 18 = .ok (.iload 4, 2) := by decide +kernel
theorem dX4_spell_20 : decode cX4_spell 20 = .ok (.iload_n 3, 1) := by decide +kernel
theorem dX4_spell_21 : decode cX4_spell 21 = .ok (.iload_n 2, 1) := by decide +kernel
theorem dX4_spell_22 : decode cX4_spell 22 = .ok (.invokevirtual 18, 3) := by decide +kernel
theorem dX4_spell_25 : decode cX4_spell 25 = .ok (.ifCond .eq 6, 3) := by decide +kernel
theorem dX4_spell_28 : decode cX4_spell 28 = .ok (.iload 4, 2) := by decide +kernel
theorem dX4_spell_30 : decode cX4_spell 30 = .ok (.ireturn, 1) := by decide +kernel
theorem dX4_spell_31 : decode cX4_spell 31 = .ok (.iinc 4 1, 3) := by decide +kernel
theorem dX4_spell_34 : decode cX4_spell 34 = .ok (.goto (-29), 3) := by decide +kernel
theorem dX4_spell_37 : decode cX4_spell 37 = .ok (.iconst 0, 1) := by decide +kernel
theorem dX4_spell_38 : decode cX4_spell 38 = .ok (.ireturn, 1) := by decide +kernel
set_option maxRecDepth 20000 in
theorem ggX4_spellIn_X4_endAgain : GoodIn wsX4_spellIn wsX4_endAgain := goodIn_r _ [7, 8, 9, 10, 11, 12, 13, 2, 1, 14, 15, 16, 17, 18, 19, 20, 21, 22, 23, 24, 25, 26, 27, 28, 29, 30, 31, 32, 33, 34, 35, 45, 46, 47, 48, 49, 50, 51, 52, 53, 54, 55, 56, 43, 44] (by decide +kernel) (by decide +kernel)
set_option maxRecDepth 20000 in
theorem gX4_spellIn_X4_endAgain : GoodIn wsX4_spellIn (wsV RX4 22 RX4 yX4_endAgain wsX4_endAgain) := goodIn_app (goodIn_of _ (by decide +kernel)) ggX4_spellIn_X4_endAgain
set_option maxRecDepth 20000 in
theorem ggX4_spellIn_X4_turnOn : GoodIn wsX4_spellIn wsX4_turnOn := goodIn_r _ [39, 40, 41, 10, 42, 1, 43, 44] (by decide +kernel) (by decide +kernel)
set_option maxRecDepth 20000 in
theorem gX4_spellIn_X4_turnOn : GoodIn wsX4_spellIn (wsV RX4 26 RX4 yX4_turnOn wsX4_turnOn) := goodIn_app (goodIn_of _ (by decide +kernel)) ggX4_spellIn_X4_turnOn
theorem dX4_spellIn_0 : decode cX4_spellIn 0 = .ok (.iconst 0, 1) := by decide +kernel
theorem dX4_spellIn_1 : decode cX4_spellIn 1 = .ok (.istore 5, 2) := by decide +kernel
theorem dX4_spellIn_3 : decode cX4_spellIn 3 = .ok (.iload 5, 2) := by decide +kernel
theorem dX4_spellIn_5 : decode cX4_spellIn 5 = .ok (.iconst 4, 1) := by decide +kernel
theorem dX4_spellIn_6 : decode cX4_spellIn 6 = .ok (.if_icmp .ge 17, 3) := by decide +kernel
theorem dX4_spellIn_9 : decode cX4_spellIn 9 = .ok (.aload_n 0, 1) := by decide +kernel
theorem dX4_spellIn_10 : decode cX4_spellIn 10 = .ok (.getfield 9, 3) := by decide +kernel
theorem dX4_spellIn_13 : decode cX4_spellIn 13 = .ok (.iload 5, 2) := by decide +kernel
theorem dX4_spellIn_15 : decode cX4_spellIn 15 = .ok (.iconst 0, 1) := by decide +kernel
theorem dX4_spellIn_16 : decode cX4_spellIn 16 = .ok (.iastore, 1) := by decide +kernel
theorem dX4_spellIn_17 : decode cX4_spellIn 17 = .ok (.iinc 5 1, 3) := by decide +kernel
theorem dX4_spellIn_20 : decode cX4_spellIn 20 = .ok (.goto (-17), 3) := by decide +kernel
theorem dX4_spellIn_23 : decode cX4_spellIn 23 = .ok (.iconst 0, 1) := by decide +kernel
theorem dX4_spellIn_24 : decode cX4_spellIn 24 = .ok (.istore 5, 2) := by decide +kernel
theorem dX4_spellIn_26 : decode cX4_spellIn 26 = .ok (.iconst 0, 1) := by decide +kernel
theorem dX4_spellIn_27 : decode cX4_spellIn 27 = .ok (.istore 6, 2) := by decide +kernel
theorem dX4_spellIn_29 : decode cX4_spellIn 29 = .ok (.iload 6, 2) := by decide +kernel
theorem dX4_spellIn_31 : decode cX4_spellIn 31 = .ok (.iload_n 3, 1) := by decide +kernel
theorem dX4_spellIn_32 : decode cX4_spellIn 32 = .ok (.if_icmp .ge 44, 3) := by decide +kernel
theorem dX4_spellIn_35 : decode cX4_spellIn 35 = .ok (.iload 5, 2) := by decide +kernel
theorem dX4_spellIn_37 : decode cX4_spellIn 37 = .ok (.ifCond .lt 39, 3) := by decide +kernel
theorem dX4_spellIn_40 : decode cX4_spellIn 40 = .ok (.aload_n 0, 1) := by decide +kernel
theorem dX4_spellIn_41 : decode cX4_spellIn 41 = .ok (.aload_n 1, 1) := by decide +kernel
theorem dX4_spellIn_42 : decode cX4_spellIn 42 = .ok (.iload 5, 2) := by decide +kernel
theorem dX4_spellIn_44 : decode cX4_spellIn 44 = .ok (.iload_n 2, 1) := by decide +kernel
theorem dX4_spellIn_45 : decode cX4_spellIn 45 = .ok (.invokevirtual 22, 3) := by decide +kernel
theorem dX4_spellIn_48 : decode cX4_spellIn 48 = .ok (.aload_n 0, 1) := by decide +kernel
theorem dX4_spellIn_49 : decode cX4_spellIn 49 = .ok (.getfield 15, 3) := by decide +kernel
theorem dX4_spellIn_52 : decode cX4_spellIn 52 = .ok (.iload_n 2, 1) := by decide +kernel
theorem dX4_spellIn_53 : decode cX4_spellIn 53 = .ok (.iconst 1, 1) := by decide +kernel
theorem dX4_spellIn_54 : decode cX4_spellIn 54 = .ok (.isub, 1) := by decide +kernel
theorem dX4_spellIn_55 : decode cX4_spellIn 55 = .ok (.iaload, 1) := by decide +kernel
theorem dX4_spellIn_56 : decode cX4_spellIn 56 = .ok (.iload 4, 2) := by decide +kernel
theorem dX4_spellIn_58 : decode cX4_spellIn 58 = .ok (.if_icmp .ne 5, 3) := by decide +kernel
theorem dX4_spellIn_61 : decode cX4_spellIn 61 = .ok (.iconst 1, 1) := by decide +kernel
theorem dX4_spellIn_62 : decode cX4_spellIn 62 = .ok (.ireturn, 1) := by decide +kernel
theorem dX4_spellIn_63 : decode cX4_spellIn 63 = .ok (.aload_n 0, 1) := by decide +kernel
theorem dX4_spellIn_64 : decode cX4_spellIn 64 = .ok (.iload_n 2, 1) := by decide +kernel
theorem dX4_spellIn_65 : decode cX4_spellIn 65 = .ok (.invokevirtual 26, 3) := by decide +kernel
theorem dX4_spellIn_68 : decode cX4_spellIn 68 = .ok (.istore 5, 2) := by decide +kernel
theorem dX4_spellIn_70 : decode cX4_spellIn 70 = .ok (.iinc 6 1, 3) := by decide +kernel
theorem dX4_spellIn_73 : decode cX4_spellIn 73 = .ok (.goto (-44), 3) := by decide +kernel
theorem dX4_spellIn_76 : decode cX4_spellIn 76 = .ok (.iconst 0, 1) := by decide +kernel
theorem dX4_spellIn_77 : decode cX4_spellIn 77 = .ok (.ireturn, 1) := by decide +kernel
set_option maxRecDepth 20000 in
theorem ggX4_endAgain_X1_beside : GoodIn wsX4_endAgain wsX1_beside := goodIn_r _ [13, 14, 15, 16, 12, 17, 18, 19, 20, 21, 37, 38, 39, 40, 41, 42] (by decide +kernel) (by decide +kernel)
set_option maxRecDepth 20000 in
theorem gX4_endAgain_X1_beside : GoodIn wsX4_endAgain (wsV RX4 48 RX1 yX1_beside wsX1_beside) := goodIn_app (goodIn_of _ (by decide +kernel)) ggX4_endAgain_X1_beside
set_option maxRecDepth 20000 in
theorem ggX4_endAgain_X0_placesOf : GoodIn wsX4_endAgain wsX0_placesOf := goodIn_r _ [26, 27, 28, 29, 30, 31, 32, 33, 34, 35, 36] (by decide +kernel) (by decide +kernel)
set_option maxRecDepth 20000 in
theorem gX4_endAgain_X0_placesOf : GoodIn wsX4_endAgain (wsV RX4 51 RX0 yX0_placesOf wsX0_placesOf) := goodIn_app (goodIn_of _ (by decide +kernel)) ggX4_endAgain_X0_placesOf
theorem dX4_endAgain_0 : decode cX4_endAgain 0 = .ok (.iload_n 2, 1) := by decide +kernel
theorem dX4_endAgain_1 : decode cX4_endAgain 1 = .ok (.iconst 0, 1) := by decide +kernel
theorem dX4_endAgain_2 : decode cX4_endAgain 2 = .ok (.invokestatic 30, 3) := by decide +kernel
theorem dX4_endAgain_5 : decode cX4_endAgain 5 = .ok (.istore 4, 2) := by decide +kernel
theorem dX4_endAgain_7 : decode cX4_endAgain 7 = .ok (.iload 4, 2) := by decide +kernel
theorem dX4_endAgain_9 : decode cX4_endAgain 9 = .ok (.iload_n 3, 1) := by decide +kernel
theorem dX4_endAgain_10 : decode cX4_endAgain 10 = .ok (.if_icmp .ge 69, 3) := by decide +kernel
theorem dX4_endAgain_13 : decode cX4_endAgain 13 = .ok (.iload 4, 2) := by decide +kernel
theorem dX4_endAgain_15 : decode cX4_endAgain 15 = .ok (.iconst 4, 1) := by decide +kernel
theorem dX4_endAgain_16 : decode cX4_endAgain 16 = .ok (.if_icmp .ge 63, 3) := by decide +kernel
theorem dX4_endAgain_19 : decode cX4_endAgain 19 = .ok (.iload 4, 2) := by decide +kernel
theorem dX4_endAgain_21 : decode cX4_endAgain 21 = .ok (.ifCond .ne 13, 3) := by decide +kernel
theorem dX4_endAgain_24 : decode cX4_endAgain 24 = .ok (.aload_n 1, 1) := by decide +kernel
theorem dX4_endAgain_25 : decode cX4_endAgain 25 = .ok (.getfield 36, 3) := by decide +kernel
theorem dX4_endAgain_28 : decode cX4_endAgain 28 = .ok (.getfield 42, 3) := by decide +kernel
theorem dX4_endAgain_31 : decode cX4_endAgain 31 = .ok (.goto 19, 3) := by decide +kernel
theorem dX4_endAgain_34 : decode cX4_endAgain 34 = .ok (.aload_n 1, 1) := by decide +kernel
theorem dX4_endAgain_35 : decode cX4_endAgain 35 = .ok (.getfield 36, 3) := by decide +kernel
theorem dX4_endAgain_38 : decode cX4_endAgain 38 = .ok (.aload_n 0, 1) := by decide +kernel
theorem dX4_endAgain_39 : decode cX4_endAgain 39 = .ok (.getfield 15, 3) := by decide +kernel
theorem dX4_endAgain_42 : decode cX4_endAgain 42 = .ok (.iload 4, 2) := by decide +kernel
theorem dX4_endAgain_44 : decode cX4_endAgain 44 = .ok (.iconst 1, 1) := by decide +kernel
theorem dX4_endAgain_45 : decode cX4_endAgain 45 = .ok (.isub, 1) := by decide +kernel
theorem dX4_endAgain_46 : decode cX4_endAgain 46 = .ok (.iaload, 1) := by decide +kernel
theorem dX4_endAgain_47 : decode cX4_endAgain 47 = .ok (.invokevirtual 48, 3) := by decide +kernel
theorem dX4_endAgain_50 : decode cX4_endAgain 50 = .ok (.istore 5, 2) := by decide +kernel
theorem dX4_endAgain_52 : decode cX4_endAgain 52 = .ok (.aload_n 0, 1) := by decide +kernel
theorem dX4_endAgain_53 : decode cX4_endAgain 53 = .ok (.getfield 15, 3) := by decide +kernel
theorem dX4_endAgain_56 : decode cX4_endAgain 56 = .ok (.iload 4, 2) := by decide +kernel
theorem dX4_endAgain_58 : decode cX4_endAgain 58 = .ok (.iload 5, 2) := by decide +kernel
theorem dX4_endAgain_60 : decode cX4_endAgain 60 = .ok (.aload_n 1, 1) := by decide +kernel
theorem dX4_endAgain_61 : decode cX4_endAgain 61 = .ok (.aload_n 0, 1) := by decide +kernel
theorem dX4_endAgain_62 : decode cX4_endAgain 62 = .ok (.getfield 9, 3) := by decide +kernel
theorem dX4_endAgain_65 : decode cX4_endAgain 65 = .ok (.iload 4, 2) := by decide +kernel
theorem dX4_endAgain_67 : decode cX4_endAgain 67 = .ok (.iaload, 1) := by decide +kernel
theorem dX4_endAgain_68 : decode cX4_endAgain 68 = .ok (.invokevirtual 51, 3) := by decide +kernel
theorem dX4_endAgain_71 : decode cX4_endAgain 71 = .ok (.iand, 1) := by decide +kernel
theorem dX4_endAgain_72 : decode cX4_endAgain 72 = .ok (.iastore, 1) := by decide +kernel
theorem dX4_endAgain_73 : decode cX4_endAgain 73 = .ok (.iinc 4 1, 3) := by decide +kernel
theorem dX4_endAgain_76 : decode cX4_endAgain 76 = .ok (.goto (-69), 3) := by decide +kernel
theorem dX4_endAgain_79 : decode cX4_endAgain 79 = .ok (.return_, 1) := by decide +kernel
theorem dX4_turnOn_0 : decode cX4_turnOn 0 = .ok (.iload_n 1, 1) := by decide +kernel
theorem dX4_turnOn_1 : decode cX4_turnOn 1 = .ok (.iconst 4, 1) := by decide +kernel
theorem dX4_turnOn_2 : decode cX4_turnOn 2 = .ok (.invokestatic 54, 3) := by decide +kernel
theorem dX4_turnOn_5 : decode cX4_turnOn 5 = .ok (.iconst 1, 1) := by decide +kernel
theorem dX4_turnOn_6 : decode cX4_turnOn 6 = .ok (.isub, 1) := by decide +kernel
theorem dX4_turnOn_7 : decode cX4_turnOn 7 = .ok (.istore_n 2, 1) := by decide +kernel
theorem dX4_turnOn_8 : decode cX4_turnOn 8 = .ok (.iload_n 2, 1) := by decide +kernel
theorem dX4_turnOn_9 : decode cX4_turnOn 9 = .ok (.ifCond .lt 39, 3) := by decide +kernel
theorem dX4_turnOn_12 : decode cX4_turnOn 12 = .ok (.aload_n 0, 1) := by decide +kernel
theorem dX4_turnOn_13 : decode cX4_turnOn 13 = .ok (.getfield 9, 3) := by decide +kernel
theorem dX4_turnOn_16 : decode cX4_turnOn 16 = .ok (.iload_n 2, 1) := by decide +kernel
theorem dX4_turnOn_17 : decode cX4_turnOn 17 = .ok (.dup2, 1) := by decide +kernel
theorem dX4_turnOn_18 : decode cX4_turnOn 18 = .ok (.iaload, 1) := by decide +kernel
theorem dX4_turnOn_19 : decode cX4_turnOn 19 = .ok (.iconst 1, 1) := by decide +kernel
theorem dX4_turnOn_20 : decode cX4_turnOn 20 = .ok (.iadd, 1) := by decide +kernel
theorem dX4_turnOn_21 : decode cX4_turnOn 21 = .ok (.iastore, 1) := by decide +kernel
theorem dX4_turnOn_22 : decode cX4_turnOn 22 = .ok (.aload_n 0, 1) := by decide +kernel
theorem dX4_turnOn_23 : decode cX4_turnOn 23 = .ok (.getfield 9, 3) := by decide +kernel
theorem dX4_turnOn_26 : decode cX4_turnOn 26 = .ok (.iload_n 2, 1) := by decide +kernel
theorem dX4_turnOn_27 : decode cX4_turnOn 27 = .ok (.iaload, 1) := by decide +kernel
theorem dX4_turnOn_28 : decode cX4_turnOn 28 = .ok (.bipush 6, 2) := by decide +kernel
theorem dX4_turnOn_30 : decode cX4_turnOn 30 = .ok (.if_icmp .ge 5, 3) := by decide +kernel
theorem dX4_turnOn_33 : decode cX4_turnOn 33 = .ok (.iload_n 2, 1) := by decide +kernel
theorem dX4_turnOn_34 : decode cX4_turnOn 34 = .ok (.ireturn, 1) := by decide +kernel
theorem dX4_turnOn_35 : decode cX4_turnOn 35 = .ok (.aload_n 0, 1) := by decide +kernel
theorem dX4_turnOn_36 : decode cX4_turnOn 36 = .ok (.getfield 9, 3) := by decide +kernel
theorem dX4_turnOn_39 : decode cX4_turnOn 39 = .ok (.iload_n 2, 1) := by decide +kernel
theorem dX4_turnOn_40 : decode cX4_turnOn 40 = .ok (.iconst 0, 1) := by decide +kernel
theorem dX4_turnOn_41 : decode cX4_turnOn 41 = .ok (.iastore, 1) := by decide +kernel
theorem dX4_turnOn_42 : decode cX4_turnOn 42 = .ok (.iinc 2 (-1), 3) := by decide +kernel
theorem dX4_turnOn_45 : decode cX4_turnOn 45 = .ok (.goto (-37), 3) := by decide +kernel
theorem dX4_turnOn_48 : decode cX4_turnOn 48 = .ok (.iconst (-1), 1) := by decide +kernel
theorem dX4_turnOn_49 : decode cX4_turnOn 49 = .ok (.ireturn, 1) := by decide +kernel
theorem dX5_init_0 : decode cX5_init 0 = .ok (.aload_n 0, 1) := by decide +kernel
theorem dX5_init_1 : decode cX5_init 1 = .ok (.invokespecial 3, 3) := by decide +kernel
theorem dX5_init_4 : decode cX5_init 4 = .ok (.aload_n 0, 1) := by decide +kernel
theorem dX5_init_5 : decode cX5_init 5 = .ok (.bipush 16, 2) := by decide +kernel
theorem dX5_init_7 : decode cX5_init 7 = .ok (.newarray .int, 2) := by decide +kernel
theorem dX5_init_9 : decode cX5_init 9 = .ok (.putfield 9, 3) := by decide +kernel
theorem dX5_init_12 : decode cX5_init 12 = .ok (.aload_n 0, 1) := by decide +kernel
theorem dX5_init_13 : decode cX5_init 13 = .ok (.iconst 5, 1) := by decide +kernel
theorem dX5_init_14 : decode cX5_init 14 = .ok (.newarray .int, 2) := by decide +kernel
theorem dX5_init_16 : decode cX5_init 16 = .ok (.putfield 15, 3) := by decide +kernel
theorem dX5_init_19 : decode cX5_init 19 = .ok (.aload_n 0, 1) := by decide +kernel
theorem dX5_init_20 : decode cX5_init 20 = .ok (.iconst 5, 1) := by decide +kernel
theorem dX5_init_21 : decode cX5_init 21 = .ok (.newarray .int, 2) := by decide +kernel
theorem dX5_init_23 : decode cX5_init 23 = .ok (.putfield 18, 3) := by decide +kernel
theorem dX5_init_26 : decode cX5_init 26 = .ok (.aload_n 0, 1) := by decide +kernel
theorem dX5_init_27 : decode cX5_init 27 = .ok (.bipush 25, 2) := by decide +kernel
theorem dX5_init_29 : decode cX5_init 29 = .ok (.newarray .int, 2) := by decide +kernel
theorem dX5_init_31 : decode cX5_init 31 = .ok (.putfield 21, 3) := by decide +kernel
theorem dX5_init_34 : decode cX5_init 34 = .ok (.return_, 1) := by decide +kernel
theorem dX5_clear_0 : decode cX5_clear 0 = .ok (.iconst 0, 1) := by decide +kernel
theorem dX5_clear_1 : decode cX5_clear 1 = .ok (.istore_n 1, 1) := by decide +kernel
theorem dX5_clear_2 : decode cX5_clear 2 = .ok (.iload_n 1, 1) := by decide +kernel
theorem dX5_clear_3 : decode cX5_clear 3 = .ok (.bipush 16, 2) := by decide +kernel
theorem dX5_clear_5 : decode cX5_clear 5 = .ok (.if_icmp .ge 16, 3) := by decide +kernel
theorem dX5_clear_8 : decode cX5_clear 8 = .ok (.aload_n 0, 1) := by decide +kernel
theorem dX5_clear_9 : decode cX5_clear 9 = .ok (.getfield 9, 3) := by decide +kernel
theorem dX5_clear_12 : decode cX5_clear 12 = .ok (.iload_n 1, 1) := by decide +kernel
theorem dX5_clear_13 : decode cX5_clear 13 = .ok (.iconst 0, 1) := by decide +kernel
theorem dX5_clear_14 : decode cX5_clear 14 = .ok (.iastore, 1) := by decide +kernel
theorem dX5_clear_15 : decode cX5_clear 15 = .ok (.iinc 1 1, 3) := by decide +kernel
theorem dX5_clear_18 : decode cX5_clear 18 = .ok (.goto (-16), 3) := by decide +kernel
theorem dX5_clear_21 : decode cX5_clear 21 = .ok (.aload_n 0, 1) := by decide +kernel
theorem dX5_clear_22 : decode cX5_clear 22 = .ok (.iconst 0, 1) := by decide +kernel
theorem dX5_clear_23 : decode cX5_clear 23 = .ok (.putfield 24, 3) := by decide +kernel
theorem dX5_clear_26 : decode cX5_clear 26 = .ok (.return_, 1) := by decide +kernel
theorem dX5_copy_0 : decode cX5_copy 0 = .ok (.aload_n 1, 1) := by decide +kernel
theorem dX5_copy_1 : decode cX5_copy 1 = .ok (.getfield 9, 3) := by decide +kernel
theorem dX5_copy_4 : decode cX5_copy 4 = .ok (.iconst 0, 1) := by decide +kernel
theorem dX5_copy_5 : decode cX5_copy 5 = .ok (.aload_n 0, 1) := by decide +kernel
theorem dX5_copy_6 : decode cX5_copy 6 = .ok (.getfield 9, 3) := by decide +kernel
theorem dX5_copy_9 : decode cX5_copy 9 = .ok (.iconst 0, 1) := by decide +kernel
theorem dX5_copy_10 : decode cX5_copy 10 = .ok (.bipush 16, 2) := by decide +kernel
theorem dX5_copy_12 : decode cX5_copy 12 = .ok (.invokestatic 28, 3) := by decide +kernel
theorem dX5_copy_15 : decode cX5_copy 15 = .ok (.aload_n 1, 1) := by decide +kernel
theorem dX5_copy_16 : decode cX5_copy 16 = .ok (.getfield 15, 3) := by decide +kernel
theorem dX5_copy_19 : decode cX5_copy 19 = .ok (.iconst 0, 1) := by decide +kernel
theorem dX5_copy_20 : decode cX5_copy 20 = .ok (.aload_n 0, 1) := by decide +kernel
theorem dX5_copy_21 : decode cX5_copy 21 = .ok (.getfield 15, 3) := by decide +kernel
theorem dX5_copy_24 : decode cX5_copy 24 = .ok (.iconst 0, 1) := by decide +kernel
theorem dX5_copy_25 : decode cX5_copy 25 = .ok (.iconst 5, 1) := by decide +kernel
theorem dX5_copy_26 : decode cX5_copy 26 = .ok (.invokestatic 28, 3) := by decide +kernel
theorem dX5_copy_29 : decode cX5_copy 29 = .ok (.aload_n 1, 1) := by decide +kernel
theorem dX5_copy_30 : decode cX5_copy 30 = .ok (.getfield 18, 3) := by decide +kernel
theorem dX5_copy_33 : decode cX5_copy 33 = .ok (.iconst 0, 1) := by decide +kernel
theorem dX5_copy_34 : decode cX5_copy 34 = .ok (.aload_n 0, 1) := by decide +kernel
theorem dX5_copy_35 : decode cX5_copy 35 = .ok (.getfield 18, 3) := by decide +kernel
theorem dX5_copy_38 : decode cX5_copy 38 = .ok (.iconst 0, 1) := by decide +kernel
theorem dX5_copy_39 : decode cX5_copy 39 = .ok (.iconst 5, 1) := by decide +kernel
theorem dX5_copy_40 : decode cX5_copy 40 = .ok (.invokestatic 28, 3) := by decide +kernel
theorem dX5_copy_43 : decode cX5_copy 43 = .ok (.aload_n 1, 1) := by decide +kernel
theorem dX5_copy_44 : decode cX5_copy 44 = .ok (.getfield 21, 3) := by decide +kernel
theorem dX5_copy_47 : decode cX5_copy 47 = .ok (.iconst 0, 1) := by decide +kernel
theorem dX5_copy_48 : decode cX5_copy 48 = .ok (.aload_n 0, 1) := by decide +kernel
theorem dX5_copy_49 : decode cX5_copy 49 = .ok (.getfield 21, 3) := by decide +kernel
theorem dX5_copy_52 : decode cX5_copy 52 = .ok (.iconst 0, 1) := by decide +kernel
theorem dX5_copy_53 : decode cX5_copy 53 = .ok (.bipush 25, 2) := by decide +kernel
theorem dX5_copy_55 : decode cX5_copy 55 = .ok (.invokestatic 28, 3) := by decide +kernel
theorem dX5_copy_58 : decode cX5_copy 58 = .ok (.aload_n 0, 1) := by decide +kernel
theorem dX5_copy_59 : decode cX5_copy 59 = .ok (.aload_n 1, 1) := by decide +kernel
theorem dX5_copy_60 : decode cX5_copy 60 = .ok (.getfield 24, 3) := by decide +kernel
theorem dX5_copy_63 : decode cX5_copy 63 = .ok (.putfield 24, 3) := by decide +kernel
theorem dX5_copy_66 : decode cX5_copy 66 = .ok (.return_, 1) := by decide +kernel
theorem dX5_trade_0 : decode cX5_trade 0 = .ok (.iload_n 1, 1) := by decide +kernel
theorem dX5_trade_1 : decode cX5_trade 1 = .ok (.ifCond .lt 19, 3) := by decide +kernel
theorem dX5_trade_4 : decode cX5_trade 4 = .ok (.iload_n 1, 1) := by decide +kernel
theorem dX5_trade_5 : decode cX5_trade 5 = .ok (.bipush 16, 2) := by decide +kernel
theorem dX5_trade_7 : decode cX5_trade 7 = .ok (.if_icmp .ge 13, 3) := by decide +kernel
theorem dX5_trade_10 : decode cX5_trade 10 = .ok (.iload_n 2, 1) := by decide +kernel
theorem dX5_trade_11 : decode cX5_trade 11 = .ok (.ifCond .lt 9, 3) := by decide +kernel
theorem dX5_trade_14 : decode cX5_trade 14 = .ok (.iload_n 2, 1) := by decide +kernel
theorem dX5_trade_15 : decode cX5_trade 15 = .ok (.bipush 16, 2) := by decide +kernel
theorem dX5_trade_17 : decode cX5_trade 17 = .ok (.if_icmp .lt 4, 3) := by decide +kernel
theorem dX5_trade_20 : decode cX5_trade 20 = .ok (.return_, 1) := by decide +kernel
theorem dX5_trade_21 : decode cX5_trade 21 = .ok (.aload_n 0, 1) := by decide +kernel
theorem dX5_trade_22 : decode cX5_trade 22 = .ok (.getfield 9, 3) := by decide +kernel
theorem dX5_trade_25 : decode cX5_trade 25 = .ok (.iload_n 1, 1) := by decide +kernel
theorem dX5_trade_26 : decode cX5_trade 26 = .ok (.iaload, 1) := by decide +kernel
theorem dX5_trade_27 : decode cX5_trade 27 = .ok (.istore_n 3, 1) := by decide +kernel
theorem dX5_trade_28 : decode cX5_trade 28 = .ok (.aload_n 0, 1) := by decide +kernel
theorem dX5_trade_29 : decode cX5_trade 29 = .ok (.getfield 9, 3) := by decide +kernel
theorem dX5_trade_32 : decode cX5_trade 32 = .ok (.iload_n 1, 1) := by decide +kernel
theorem dX5_trade_33 : decode cX5_trade 33 = .ok (.aload_n 0, 1) := by decide +kernel
theorem dX5_trade_34 : decode cX5_trade 34 = .ok (.getfield 9, 3) := by decide +kernel
theorem dX5_trade_37 : decode cX5_trade 37 = .ok (.iload_n 2, 1) := by decide +kernel
theorem dX5_trade_38 : decode cX5_trade 38 = .ok (.iaload, 1) := by decide +kernel
theorem dX5_trade_39 : decode cX5_trade 39 = .ok (.iastore, 1) := by decide +kernel
theorem dX5_trade_40 : decode cX5_trade 40 = .ok (.aload_n 0, 1) := by decide +kernel
theorem dX5_trade_41 : decode cX5_trade 41 = .ok (.getfield 9, 3) := by decide +kernel
theorem dX5_trade_44 : decode cX5_trade 44 = .ok (.iload_n 2, 1) := by decide +kernel
theorem dX5_trade_45 : decode cX5_trade 45 = .ok (.iload_n 3, 1) := by decide +kernel
theorem dX5_trade_46 : decode cX5_trade 46 = .ok (.iastore, 1) := by decide +kernel
theorem dX5_trade_47 : decode cX5_trade 47 = .ok (.return_, 1) := by decide +kernel
theorem dX5_begin_0 : decode cX5_begin 0 = .ok (.aload_n 0, 1) := by decide +kernel
theorem dX5_begin_1 : decode cX5_begin 1 = .ok (.getfield 24, 3) := by decide +kernel
theorem dX5_begin_4 : decode cX5_begin 4 = .ok (.ifCond .lt 11, 3) := by decide +kernel
theorem dX5_begin_7 : decode cX5_begin 7 = .ok (.aload_n 0, 1) := by decide +kernel
theorem dX5_begin_8 : decode cX5_begin 8 = .ok (.getfield 24, 3) := by decide +kernel
theorem dX5_begin_11 : decode cX5_begin 11 = .ok (.iconst 5, 1) := by decide +kernel
theorem dX5_begin_12 : decode cX5_begin 12 = .ok (.if_icmp .lt 5, 3) := by decide +kernel
theorem dX5_begin_15 : decode cX5_begin 15 = .ok (.iconst 0, 1) := by decide +kernel
theorem dX5_begin_16 : decode cX5_begin 16 = .ok (.ireturn, 1) := by decide +kernel
theorem dX5_begin_17 : decode cX5_begin 17 = .ok (.aload_n 0, 1) := by decide +kernel
theorem dX5_begin_18 : decode cX5_begin 18 = .ok (.getfield 15, 3) := by decide +kernel
theorem dX5_begin_21 : decode cX5_begin 21 = .ok (.aload_n 0, 1) := by decide +kernel
theorem dX5_begin_22 : decode cX5_begin 22 = .ok (.getfield 24, 3) := by decide +kernel
theorem dX5_begin_25 : decode cX5_begin 25 = .ok (.iload_n 1, 1) := by decide +kernel
theorem dX5_begin_26 : decode cX5_begin 26 = .ok (.iastore, 1) := by decide +kernel
theorem dX5_begin_27 : decode cX5_begin 27 = .ok (.aload_n 0, 1) := by decide +kernel
theorem dX5_begin_28 : decode cX5_begin 28 = .ok (.getfield 18, 3) := by decide +kernel
theorem dX5_begin_31 : decode cX5_begin 31 = .ok (.aload_n 0, 1) := by decide +kernel
theorem dX5_begin_32 : decode cX5_begin 32 = .ok (.getfield 24, 3) := by decide +kernel
theorem dX5_begin_35 : decode cX5_begin 35 = .ok (.iconst 0, 1) := by decide +kernel
theorem dX5_begin_36 : decode cX5_begin 36 = .ok (.iastore, 1) := by decide +kernel
theorem dX5_begin_37 : decode cX5_begin 37 = .ok (.aload_n 0, 1) := by decide +kernel
theorem dX5_begin_38 : decode cX5_begin 38 = .ok (.dup, 1) := by decide +kernel
theorem dX5_begin_39 : decode cX5_begin 39 = .ok (.getfield 24, 3) := by decide +kernel
theorem dX5_begin_42 : decode cX5_begin 42 = .ok (.iconst 1, 1) := by decide +kernel
theorem dX5_begin_43 : decode cX5_begin 43 = .ok (.iadd, 1) := by decide +kernel
theorem dX5_begin_44 : decode cX5_begin 44 = .ok (.putfield 24, 3) := by decide +kernel
theorem dX5_begin_47 : decode cX5_begin 47 = .ok (.iconst 1, 1) := by decide +kernel
theorem dX5_begin_48 : decode cX5_begin 48 = .ok (.ireturn, 1) := by decide +kernel
theorem dX5_append_0 : decode cX5_append 0 = .ok (.aload_n 0, 1) := by decide +kernel
theorem dX5_append_1 : decode cX5_append 1 = .ok (.getfield 24, 3) := by decide +kernel
theorem dX5_append_4 : decode cX5_append 4 = .ok (.iconst 1, 1) := by decide +kernel
theorem dX5_append_5 : decode cX5_append 5 = .ok (.isub, 1) := by decide +kernel
theorem dX5_append_6 : decode cX5_append 6 = .ok (.istore_n 2, 1) := by decide +kernel
theorem dX5_append_7 : decode cX5_append 7 = .ok (.iload_n 2, 1) := by decide +kernel
theorem dX5_append_8 : decode cX5_append 8 = .ok (.ifCond .lt 27, 3) := by decide +kernel
theorem dX5_append_11 : decode cX5_append 11 = .ok (.iload_n 2, 1) := by decide +kernel
theorem dX5_append_12 : decode cX5_append 12 = .ok (.iconst 5, 1) := by decide +kernel
theorem dX5_append_13 : decode cX5_append 13 = .ok (.if_icmp .ge 22, 3) := by decide +kernel
theorem dX5_append_16 : decode cX5_append 16 = .ok (.aload_n 0, 1) := by decide +kernel
theorem dX5_append_17 : decode cX5_append 17 = .ok (.getfield 18, 3) := by decide +kernel
theorem dX5_append_20 : decode cX5_append 20 = .ok (.iload_n 2, 1) := by decide +kernel
theorem dX5_append_21 : decode cX5_append 21 = .ok (.iaload, 1) := by decide +kernel
theorem dX5_append_22 : decode cX5_append 22 = .ok (.ifCond .lt 13, 3) := by decide +kernel
theorem dX5_append_25 : decode cX5_append 25 = .ok (.aload_n 0, 1) := by decide +kernel
theorem dX5_append_26 : decode cX5_append 26 = .ok (.getfield 18, 3) := by decide +kernel
theorem dX5_append_29 : decode cX5_append 29 = .ok (.iload_n 2, 1) := by decide +kernel
theorem dX5_append_30 : decode cX5_append 30 = .ok (.iaload, 1) := by decide +kernel
theorem dX5_append_31 : decode cX5_append 31 = .ok (.iconst 5, 1) := by decide +kernel
theorem dX5_append_32 : decode cX5_append 32 = .ok (.if_icmp .lt 5, 3) := by decide +kernel
theorem dX5_append_35 : decode cX5_append 35 = .ok (.iconst 0, 1) := by decide +kernel
theorem dX5_append_36 : decode cX5_append 36 = .ok (.ireturn, 1) := by decide +kernel
theorem dX5_append_37 : decode cX5_append 37 = .ok (.aload_n 0, 1) := by decide +kernel
theorem dX5_append_38 : decode cX5_append 38 = .ok (.getfield 21, 3) := by decide +kernel
theorem dX5_append_41 : decode cX5_append 41 = .ok (.iload_n 2, 1) := by decide +kernel
theorem dX5_append_42 : decode cX5_append 42 = .ok (.iconst 5, 1) := by decide +kernel
theorem dX5_append_43 : decode cX5_append 43 = .ok (.imul, 1) := by decide +kernel
theorem dX5_append_44 : decode cX5_append 44 = .ok (.aload_n 0, 1) := by decide +kernel
theorem dX5_append_45 : decode cX5_append 45 = .ok (.getfield 18, 3) := by decide +kernel
theorem dX5_append_48 : decode cX5_append 48 = .ok (.iload_n 2, 1) := by decide +kernel
theorem dX5_append_49 : decode cX5_append 49 = .ok (.iaload, 1) := by decide +kernel
theorem dX5_append_50 : decode cX5_append 50 = .ok (.iadd, 1) := by decide +kernel
theorem dX5_append_51 : decode cX5_append 51 = .ok (.iload_n 1, 1) := by decide +kernel
theorem dX5_append_52 : decode cX5_append 52 = .ok (.iastore, 1) := by decide +kernel
theorem dX5_append_53 : decode cX5_append 53 = .ok (.aload_n 0, 1) := by decide +kernel
theorem dX5_append_54 : decode cX5_append 54 = .ok (.getfield 18, 3) := by decide +kernel
theorem dX5_append_57 : decode cX5_append 57 = .ok (.iload_n 2, 1) := by decide +kernel
theorem dX5_append_58 : decode cX5_append 58 = .ok (.dup2, 1) := by decide +kernel
theorem dX5_append_59 : decode cX5_append 59 = .ok (.iaload, 1) := by decide +kernel
theorem dX5_append_60 : decode cX5_append 60 = .ok (.iconst 1, 1) := by decide +kernel
theorem dX5_append_61 : decode cX5_append 61 = .ok (.iadd, 1) := by decide +kernel
theorem dX5_append_62 : decode cX5_append 62 = .ok (.iastore, 1) := by decide +kernel
theorem dX5_append_63 : decode cX5_append 63 = .ok (.iconst 1, 1) := by decide +kernel
theorem dX5_append_64 : decode cX5_append 64 = .ok (.ireturn, 1) := by decide +kernel
theorem dX5_drop_0 : decode cX5_drop 0 = .ok (.iload_n 1, 1) := by decide +kernel
theorem dX5_drop_1 : decode cX5_drop 1 = .ok (.ifCond .lt 11, 3) := by decide +kernel
theorem dX5_drop_4 : decode cX5_drop 4 = .ok (.iload_n 1, 1) := by decide +kernel
theorem dX5_drop_5 : decode cX5_drop 5 = .ok (.aload_n 0, 1) := by decide +kernel
theorem dX5_drop_6 : decode cX5_drop 6 = .ok (.getfield 24, 3) := by decide +kernel
theorem dX5_drop_9 : decode cX5_drop 9 = .ok (.if_icmp .lt 4, 3) := by decide +kernel
theorem dX5_drop_12 : decode cX5_drop 12 = .ok (.return_, 1) := by decide +kernel
theorem dX5_drop_13 : decode cX5_drop 13 = .ok (.iload_n 1, 1) := by decide +kernel
theorem dX5_drop_14 : decode cX5_drop 14 = .ok (.istore_n 2, 1) := by decide +kernel
theorem dX5_drop_15 : decode cX5_drop 15 = .ok (.iload_n 2, 1) := by decide +kernel
theorem dX5_drop_16 : decode cX5_drop 16 = .ok (.iconst 1, 1) := by decide +kernel
theorem dX5_drop_17 : decode cX5_drop 17 = .ok (.iadd, 1) := by decide +kernel
theorem dX5_drop_18 : decode cX5_drop 18 = .ok (.aload_n 0, 1) := by decide +kernel
theorem dX5_drop_19 : decode cX5_drop 19 = .ok (.getfield 24, 3) := by decide +kernel
theorem dX5_drop_22 : decode cX5_drop 22 = .ok (.if_icmp .ge 79, 3) := by decide +kernel
theorem dX5_drop_25 : decode cX5_drop 25 = .ok (.iload_n 2, 1) := by decide +kernel
theorem dX5_drop_26 : decode cX5_drop 26 = .ok (.iconst 1, 1) := by decide +kernel
theorem dX5_drop_27 : decode cX5_drop 27 = .ok (.iadd, 1) := by decide +kernel
theorem dX5_drop_28 : decode cX5_drop 28 = .ok (.iconst 5, 1) := by decide +kernel
theorem dX5_drop_29 : decode cX5_drop 29 = .ok (.if_icmp .ge 72, 3) := by decide +kernel
theorem dX5_drop_32 : decode cX5_drop 32 = .ok (.aload_n 0, 1) := by decide +kernel
theorem dX5_drop_33 : decode cX5_drop 33 = .ok (.getfield 15, 3) := by decide +kernel
theorem dX5_drop_36 : decode cX5_drop 36 = .ok (.iload_n 2, 1) := by decide +kernel
theorem dX5_drop_37 : decode cX5_drop 37 = .ok (.aload_n 0, 1) := by decide +kernel
theorem dX5_drop_38 : decode cX5_drop 38 = .ok (.getfield 15, 3) := by decide +kernel
theorem dX5_drop_41 : decode cX5_drop 41 = .ok (.iload_n 2, 1) := by decide +kernel
theorem dX5_drop_42 : decode cX5_drop 42 = .ok (.iconst 1, 1) := by decide +kernel
theorem dX5_drop_43 : decode cX5_drop 43 = .ok (.iadd, 1) := by decide +kernel
theorem dX5_drop_44 : decode cX5_drop 44 = .ok (.iaload, 1) := by decide +kernel
theorem dX5_drop_45 : decode cX5_drop 45 = .ok (.iastore, 1) := by decide +kernel
theorem dX5_drop_46 : decode cX5_drop 46 = .ok (.aload_n 0, 1) := by decide +kernel
theorem dX5_drop_47 : decode cX5_drop 47 = .ok (.getfield 18, 3) := by decide +kernel
theorem dX5_drop_50 : decode cX5_drop 50 = .ok (.iload_n 2, 1) := by decide +kernel
theorem dX5_drop_51 : decode cX5_drop 51 = .ok (.aload_n 0, 1) := by decide +kernel
theorem dX5_drop_52 : decode cX5_drop 52 = .ok (.getfield 18, 3) := by decide +kernel
theorem dX5_drop_55 : decode cX5_drop 55 = .ok (.iload_n 2, 1) := by decide +kernel
theorem dX5_drop_56 : decode cX5_drop 56 = .ok (.iconst 1, 1) := by decide +kernel
theorem dX5_drop_57 : decode cX5_drop 57 = .ok (.iadd, 1) := by decide +kernel
theorem dX5_drop_58 : decode cX5_drop 58 = .ok (.iaload, 1) := by decide +kernel
theorem dX5_drop_59 : decode cX5_drop 59 = .ok (.iastore, 1) := by decide +kernel
theorem dX5_drop_60 : decode cX5_drop 60 = .ok (.iconst 0, 1) := by decide +kernel
theorem dX5_drop_61 : decode cX5_drop 61 = .ok (.istore_n 3, 1) := by decide +kernel
theorem dX5_drop_62 : decode cX5_drop 62 = .ok (.iload_n 3, 1) := by decide +kernel
theorem dX5_drop_63 : decode cX5_drop 63 = .ok (.iconst 5, 1) := by decide +kernel
theorem dX5_drop_64 : decode cX5_drop 64 = .ok (.if_icmp .ge 31, 3) := by decide +kernel
theorem dX5_drop_67 : decode cX5_drop 67 = .ok (.aload_n 0, 1) := by decide +kernel
theorem dX5_drop_68 : decode cX5_drop 68 = .ok (.getfield 21, 3) := by decide +kernel
theorem dX5_drop_71 : decode cX5_drop 71 = .ok (.iload_n 2, 1) := by decide +kernel
theorem dX5_drop_72 : decode cX5_drop 72 = .ok (.iconst 5, 1) := by decide +kernel
theorem dX5_drop_73 : decode cX5_drop 73 = .ok (.imul, 1) := by decide +kernel
theorem dX5_drop_74 : decode cX5_drop 74 = .ok (.iload_n 3, 1) := by decide +kernel
theorem dX5_drop_75 : decode cX5_drop 75 = .ok (.iadd, 1) := by decide +kernel
theorem dX5_drop_76 : decode cX5_drop 76 = .ok (.aload_n 0, 1) := by decide +kernel
theorem dX5_drop_77 : decode cX5_drop 77 = .ok (.getfield 21, 3) := by decide +kernel
theorem dX5_drop_80 : decode cX5_drop 80 = .ok (.iload_n 2, 1) := by decide +kernel
theorem dX5_drop_81 : decode cX5_drop 81 = .ok (.iconst 1, 1) := by decide +kernel
theorem dX5_drop_82 : decode cX5_drop 82 = .ok (.iadd, 1) := by decide +kernel
theorem dX5_drop_83 : decode cX5_drop 83 = .ok (.iconst 5, 1) := by decide +kernel
theorem dX5_drop_84 : decode cX5_drop 84 = .ok (.imul, 1) := by decide +kernel
theorem dX5_drop_85 : decode cX5_drop 85 = .ok (.iload_n 3, 1) := by decide +kernel
theorem dX5_drop_86 : decode cX5_drop 86 = .ok (.iadd, 1) := by decide +kernel
theorem dX5_drop_87 : decode cX5_drop 87 = .ok (.iaload, 1) := by decide +kernel
theorem dX5_drop_88 : decode cX5_drop 88 = .ok (.iastore, 1) := by decide +kernel
theorem dX5_drop_89 : decode cX5_drop 89 = .ok (.iinc 3 1, 3) := by decide +kernel
theorem dX5_drop_92 : decode cX5_drop 92 = .ok (.goto (-30), 3) := by decide +kernel
theorem dX5_drop_95 : decode cX5_drop 95 = .ok (.iinc 2 1, 3) := by decide +kernel
theorem dX5_drop_98 : decode cX5_drop 98 = .ok (.goto (-83), 3) := by decide +kernel
theorem dX5_drop_101 : decode cX5_drop 101 = .ok (.aload_n 0, 1) := by decide +kernel
theorem dX5_drop_102 : decode cX5_drop 102 = .ok (.dup, 1) := by decide +kernel
theorem dX5_drop_103 : decode cX5_drop 103 = .ok (.getfield 24, 3) := by decide +kernel
theorem dX5_drop_106 : decode cX5_drop 106 = .ok (.iconst 1, 1) := by decide +kernel
theorem dX5_drop_107 : decode cX5_drop 107 = .ok (.isub, 1) := by decide +kernel
theorem dX5_drop_108 : decode cX5_drop 108 = .ok (.putfield 24, 3) := by decide +kernel
theorem dX5_drop_111 : decode cX5_drop 111 = .ok (.return_, 1) := by decide +kernel
theorem dX5_kindOf_0 : decode cX5_kindOf 0 = .ok (.iload_n 1, 1) := by decide +kernel
theorem dX5_kindOf_1 : decode cX5_kindOf 1 = .ok (.ifCond .lt 17, 3) := by decide +kernel
theorem dX5_kindOf_4 : decode cX5_kindOf 4 = .ok (.iload_n 1, 1) := by decide +kernel
theorem dX5_kindOf_5 : decode cX5_kindOf 5 = .ok (.iconst 5, 1) := by decide +kernel
theorem dX5_kindOf_6 : decode cX5_kindOf 6 = .ok (.if_icmp .ge 12, 3) := by decide +kernel
theorem dX5_kindOf_9 : decode cX5_kindOf 9 = .ok (.aload_n 0, 1) := by decide +kernel
theorem dX5_kindOf_10 : decode cX5_kindOf 10 = .ok (.getfield 15, 3) := by decide +kernel
theorem dX5_kindOf_13 : decode cX5_kindOf 13 = .ok (.iload_n 1, 1) := by decide +kernel
theorem dX5_kindOf_14 : decode cX5_kindOf 14 = .ok (.iaload, 1) := by decide +kernel
theorem dX5_kindOf_15 : decode cX5_kindOf 15 = .ok (.goto 4, 3) := by decide +kernel
theorem dX5_kindOf_18 : decode cX5_kindOf 18 = .ok (.iconst 0, 1) := by decide +kernel
theorem dX5_kindOf_19 : decode cX5_kindOf 19 = .ok (.ireturn, 1) := by decide +kernel
theorem dX5_sizeOf_0 : decode cX5_sizeOf 0 = .ok (.iload_n 1, 1) := by decide +kernel
theorem dX5_sizeOf_1 : decode cX5_sizeOf 1 = .ok (.ifCond .lt 17, 3) := by decide +kernel
theorem dX5_sizeOf_4 : decode cX5_sizeOf 4 = .ok (.iload_n 1, 1) := by decide +kernel
theorem dX5_sizeOf_5 : decode cX5_sizeOf 5 = .ok (.iconst 5, 1) := by decide +kernel
theorem dX5_sizeOf_6 : decode cX5_sizeOf 6 = .ok (.if_icmp .ge 12, 3) := by decide +kernel
theorem dX5_sizeOf_9 : decode cX5_sizeOf 9 = .ok (.aload_n 0, 1) := by decide +kernel
theorem dX5_sizeOf_10 : decode cX5_sizeOf 10 = .ok (.getfield 18, 3) := by decide +kernel
theorem dX5_sizeOf_13 : decode cX5_sizeOf 13 = .ok (.iload_n 1, 1) := by decide +kernel
theorem dX5_sizeOf_14 : decode cX5_sizeOf 14 = .ok (.iaload, 1) := by decide +kernel
theorem dX5_sizeOf_15 : decode cX5_sizeOf 15 = .ok (.goto 4, 3) := by decide +kernel
theorem dX5_sizeOf_18 : decode cX5_sizeOf 18 = .ok (.iconst 0, 1) := by decide +kernel
theorem dX5_sizeOf_19 : decode cX5_sizeOf 19 = .ok (.ireturn, 1) := by decide +kernel
theorem dX5_toldMark_0 : decode cX5_toldMark 0 = .ok (.iload_n 1, 1) := by decide +kernel
theorem dX5_toldMark_1 : decode cX5_toldMark 1 = .ok (.ifCond .lt 17, 3) := by decide +kernel
theorem dX5_toldMark_4 : decode cX5_toldMark 4 = .ok (.iload_n 1, 1) := by decide +kernel
theorem dX5_toldMark_5 : decode cX5_toldMark 5 = .ok (.iconst 5, 1) := by decide +kernel
theorem dX5_toldMark_6 : decode cX5_toldMark 6 = .ok (.if_icmp .ge 12, 3) := by decide +kernel
theorem dX5_toldMark_9 : decode cX5_toldMark 9 = .ok (.iload_n 2, 1) := by decide +kernel
theorem dX5_toldMark_10 : decode cX5_toldMark 10 = .ok (.ifCond .lt 8, 3) := by decide +kernel
theorem dX5_toldMark_13 : decode cX5_toldMark 13 = .ok (.iload_n 2, 1) := by decide +kernel
theorem dX5_toldMark_14 : decode cX5_toldMark 14 = .ok (.iconst 5, 1) := by decide +kernel
theorem dX5_toldMark_15 : decode cX5_toldMark 15 = .ok (.if_icmp .lt 6, 3) := by decide +kernel
theorem dX5_toldMark_18 : decode cX5_toldMark 18 = .ok (.bipush (-4), 2) := by decide +kernel
theorem dX5_toldMark_20 : decode cX5_toldMark 20 = .ok (.ireturn, 1) := by decide +kernel
theorem dX5_toldMark_21 : decode cX5_toldMark 21 = .ok (.aload_n 0, 1) := by decide +kernel
theorem dX5_toldMark_22 : decode cX5_toldMark 22 = .ok (.getfield 21, 3) := by decide +kernel
theorem dX5_toldMark_25 : decode cX5_toldMark 25 = .ok (.iload_n 1, 1) := by decide +kernel
theorem dX5_toldMark_26 : decode cX5_toldMark 26 = .ok (.iconst 5, 1) := by decide +kernel
theorem dX5_toldMark_27 : decode cX5_toldMark 27 = .ok (.imul, 1) := by decide +kernel
theorem dX5_toldMark_28 : decode cX5_toldMark 28 = .ok (.iload_n 2, 1) := by decide +kernel
theorem dX5_toldMark_29 : decode cX5_toldMark 29 = .ok (.iadd, 1) := by decide +kernel
theorem dX5_toldMark_30 : decode cX5_toldMark 30 = .ok (.iaload, 1) := by decide +kernel
theorem dX5_toldMark_31 : decode cX5_toldMark 31 = .ok (.ireturn, 1) := by decide +kernel
set_option maxRecDepth 20000 in
theorem ggX5_rowMark_X5_kindOf : GoodIn wsX5_rowMark wsX5_kindOf := goodIn_r _ [5, 6, 17, 18, 19, 20, 21] (by decide +kernel) (by decide +kernel)
set_option maxRecDepth 20000 in
theorem gX5_rowMark_X5_kindOf : GoodIn wsX5_rowMark (wsV RX5 34 RX5 yX5_kindOf wsX5_kindOf) := goodIn_app (goodIn_of _ (by decide +kernel)) ggX5_rowMark_X5_kindOf
set_option maxRecDepth 20000 in
theorem ggX5_rowMark_X5_sizeOf : GoodIn wsX5_rowMark wsX5_sizeOf := goodIn_r _ [10, 11, 17, 18, 19, 20, 21] (by decide +kernel) (by decide +kernel)
set_option maxRecDepth 20000 in
theorem gX5_rowMark_X5_sizeOf : GoodIn wsX5_rowMark (wsV RX5 38 RX5 yX5_sizeOf wsX5_sizeOf) := goodIn_app (goodIn_of _ (by decide +kernel)) ggX5_rowMark_X5_sizeOf
set_option maxRecDepth 20000 in
theorem ggX5_rowMark_X5_toldMark : GoodIn wsX5_rowMark wsX5_toldMark := goodIn_r _ [15, 16, 17, 18, 19, 20, 21] (by decide +kernel) (by decide +kernel)
set_option maxRecDepth 20000 in
theorem gX5_rowMark_X5_toldMark : GoodIn wsX5_rowMark (wsV RX5 41 RX5 yX5_toldMark wsX5_toldMark) := goodIn_app (goodIn_of _ (by decide +kernel)) ggX5_rowMark_X5_toldMark
theorem dX5_rowMark_0 : decode cX5_rowMark 0 = .ok (.aload_n 0, 1) := by decide +kernel
theorem dX5_rowMark_1 : decode cX5_rowMark 1 = .ok (.iload_n 1, 1) := by decide +kernel
theorem dX5_rowMark_2 : decode cX5_rowMark 2 = .ok (.invokevirtual 34, 3) := by decide +kernel
theorem dX5_rowMark_5 : decode cX5_rowMark 5 = .ok (.iconst 1, 1) := by decide +kernel
theorem dX5_rowMark_6 : decode cX5_rowMark 6 = .ok (.if_icmp .ne 20, 3) := by decide +kernel
theorem dX5_rowMark_9 : decode cX5_rowMark 9 = .ok (.aload_n 0, 1) := by decide +kernel
theorem dX5_rowMark_10 : decode cX5_rowMark 10 = .ok (.iload_n 1, 1) := by decide +kernel
theorem dX5_rowMark_11 : decode cX5_rowMark 11 = .ok (.aload_n 0, 1) := by decide +kernel
theorem dX5_rowMark_12 : decode cX5_rowMark 12 = .ok (.iload_n 1, 1) := by decide +kernel
theorem dX5_rowMark_13 : decode cX5_rowMark 13 = .ok (.invokevirtual 38, 3) := by decide +kernel
theorem dX5_rowMark_16 : decode cX5_rowMark 16 = .ok (.iconst 1, 1) := by decide +kernel
theorem dX5_rowMark_17 : decode cX5_rowMark 17 = .ok (.isub, 1) := by decide +kernel
theorem dX5_rowMark_18 : decode cX5_rowMark 18 = .ok (.iload_n 2, 1) := by decide +kernel
theorem dX5_rowMark_19 : decode cX5_rowMark 19 = .ok (.isub, 1) := by decide +kernel
theorem dX5_rowMark_20 : decode cX5_rowMark 20 = .ok (.invokevirtual 41, 3) := by decide +kernel
theorem dX5_rowMark_23 : decode cX5_rowMark 23 = .ok (.goto 9, 3) := by decide +kernel
theorem dX5_rowMark_26 : decode cX5_rowMark 26 = .ok (.aload_n 0, 1) := by decide +kernel
theorem dX5_rowMark_27 : decode cX5_rowMark 27 = .ok (.iload_n 1, 1) := by decide +kernel
theorem dX5_rowMark_28 : decode cX5_rowMark 28 = .ok (.iload_n 2, 1) := by decide +kernel
theorem dX5_rowMark_29 : decode cX5_rowMark 29 = .ok (.invokevirtual 41, 3) := by decide +kernel
theorem dX5_rowMark_32 : decode cX5_rowMark 32 = .ok (.ireturn, 1) := by decide +kernel
theorem dX6_init_0 : decode cX6_init 0 = .ok (.aload_n 0, 1) := by decide +kernel
theorem dX6_init_1 : decode cX6_init 1 = .ok (.invokespecial 3, 3) := by decide +kernel
theorem dX6_init_4 : decode cX6_init 4 = .ok (.aload_n 0, 1) := by decide +kernel
theorem dX6_init_5 : decode cX6_init 5 = .ok (.bipush 16, 2) := by decide +kernel
theorem dX6_init_7 : decode cX6_init 7 = .ok (.newarray .int, 2) := by decide +kernel
theorem dX6_init_9 : decode cX6_init 9 = .ok (.putfield 9, 3) := by decide +kernel
theorem dX6_init_12 : decode cX6_init 12 = .ok (.aload_n 0, 1) := by decide +kernel
theorem dX6_init_13 : decode cX6_init 13 = .ok (.bipush 16, 2) := by decide +kernel
theorem dX6_init_15 : decode cX6_init 15 = .ok (.newarray .int, 2) := by decide +kernel
theorem dX6_init_17 : decode cX6_init 17 = .ok (.putfield 15, 3) := by decide +kernel
theorem dX6_init_20 : decode cX6_init 20 = .ok (.aload_n 0, 1) := by decide +kernel
theorem dX6_init_21 : decode cX6_init 21 = .ok (.bipush 16, 2) := by decide +kernel
theorem dX6_init_23 : decode cX6_init 23 = .ok (.newarray .int, 2) := by decide +kernel
theorem dX6_init_25 : decode cX6_init 25 = .ok (.putfield 18, 3) := by decide +kernel
theorem dX6_init_28 : decode cX6_init 28 = .ok (.return_, 1) := by decide +kernel
set_option maxRecDepth 20000 in
theorem ggX6_measure_X1_places : GoodIn wsX6_measure wsX1_places := goodIn_r _ [7, 8, 9, 48, 49, 50, 51, 52, 53] (by decide +kernel) (by decide +kernel)
set_option maxRecDepth 20000 in
theorem gX6_measure_X1_places : GoodIn wsX6_measure (wsV RX6 22 RX1 yX1_places wsX1_places) := goodIn_app (goodIn_of _ (by decide +kernel)) ggX6_measure_X1_places
set_option maxRecDepth 20000 in
theorem ggX6_measure_X6_leastOn : GoodIn wsX6_measure wsX6_leastOn := goodIn_r _ [14, 2, 15, 16, 17, 18, 19, 20, 13, 21, 22, 23, 24, 6, 25, 26, 27, 28, 29, 9, 30, 31, 32, 33, 34, 35, 36, 1, 37, 38, 39, 40, 41, 42, 43, 44, 48, 49, 50, 51, 52, 53, 45, 46, 47] (by decide +kernel) (by decide +kernel)
set_option maxRecDepth 20000 in
theorem gX6_measure_X6_leastOn : GoodIn wsX6_measure (wsV RX6 28 RX6 yX6_leastOn wsX6_leastOn) := goodIn_app (goodIn_of _ (by decide +kernel)) ggX6_measure_X6_leastOn
theorem dX6_measure_0 : decode cX6_measure 0 = .ok (.iconst 0, 1) := by decide +kernel
theorem dX6_measure_1 : decode cX6_measure 1 = .ok (.istore 4, 2) := by decide +kernel
theorem dX6_measure_3 : decode cX6_measure 3 = .ok (.iload 4, 2) := by decide +kernel
theorem dX6_measure_5 : decode cX6_measure 5 = .ok (.bipush 16, 2) := by decide +kernel
theorem dX6_measure_7 : decode cX6_measure 7 = .ok (.if_icmp .ge 28, 3) := by decide +kernel
theorem dX6_measure_10 : decode cX6_measure 10 = .ok (.aload_n 0, 1) := by decide +kernel
theorem dX6_measure_11 : decode cX6_measure 11 = .ok (.getfield 9, 3) := by decide +kernel
theorem dX6_measure_14 : decode cX6_measure 14 = .ok (.iload 4, 2) := by decide +kernel
theorem dX6_measure_16 : decode cX6_measure 16 = .ok (.iload 4, 2) := by decide +kernel
theorem dX6_measure_18 : decode cX6_measure 18 = .ok (.iload_n 3, 1) := by decide +kernel
theorem dX6_measure_19 : decode cX6_measure 19 = .ok (.if_icmp .ne 7, 3) := by decide +kernel
theorem dX6_measure_22 : decode cX6_measure 22 = .ok (.iconst 0, 1) := by decide +kernel
theorem dX6_measure_23 : decode cX6_measure 23 = .ok (.goto 5, 3) := by decide +kernel
theorem dX6_measure_26 : decode cX6_measure 26 = .ok (.ldc 21, 2) := by decide +kernel
theorem dX6_measure_28 : decode cX6_measure 28 = .ok (.iastore, 1) := by decide +kernel
theorem dX6_measure_29 : decode cX6_measure 29 = .ok (.iinc 4 1, 3) := by decide +kernel
theorem dX6_measure_32 : decode cX6_measure 32 = .ok (.goto (-29), 3) := by decide +kernel
theorem dX6_measure_35 : decode cX6_measure 35 = .ok (.iconst 1, 1) := by decide +kernel
theorem dX6_measure_36 : decode cX6_measure 36 = .ok (.istore 4, 2) := by decide +kernel
theorem dX6_measure_38 : decode cX6_measure 38 = .ok (.iconst 0, 1) := by decide +kernel
theorem dX6_measure_39 : decode cX6_measure 39 = .ok (.istore 5, 2) := by decide +kernel
theorem dX6_measure_41 : decode cX6_measure 41 = .ok (.iload 5, 2) := by decide +kernel
theorem dX6_measure_43 : decode cX6_measure 43 = .ok (.bipush 16, 2) := by decide +kernel
theorem dX6_measure_45 : decode cX6_measure 45 = .ok (.if_icmp .ge 76, 3) := by decide +kernel
theorem dX6_measure_48 : decode cX6_measure 48 = .ok (.iload 4, 2) := by decide +kernel
theorem dX6_measure_50 : decode cX6_measure 50 = .ok (.ifCond .eq 71, 3) := by decide +kernel
theorem dX6_measure_53 : decode cX6_measure 53 = .ok (.iconst 0, 1) := by decide +kernel
theorem dX6_measure_54 : decode cX6_measure 54 = .ok (.istore 4, 2) := by decide +kernel
theorem dX6_measure_56 : decode cX6_measure 56 = .ok (.iconst 0, 1) := by decide +kernel
theorem dX6_measure_57 : decode cX6_measure 57 = .ok (.istore 6, 2) := by decide +kernel
theorem dX6_measure_59 : decode cX6_measure 59 = .ok (.iload 6, 2) := by decide +kernel
theorem dX6_measure_61 : decode cX6_measure 61 = .ok (.aload_n 1, 1) := by decide +kernel
theorem dX6_measure_62 : decode cX6_measure 62 = .ok (.invokevirtual 22, 3) := by decide +kernel
theorem dX6_measure_65 : decode cX6_measure 65 = .ok (.if_icmp .ge 50, 3) := by decide +kernel
theorem dX6_measure_68 : decode cX6_measure 68 = .ok (.iload 6, 2) := by decide +kernel
theorem dX6_measure_70 : decode cX6_measure 70 = .ok (.bipush 16, 2) := by decide +kernel
theorem dX6_measure_72 : decode cX6_measure 72 = .ok (.if_icmp .ge 43, 3) := by decide +kernel
theorem dX6_measure_75 : decode cX6_measure 75 = .ok (.aload_n 0, 1) := by decide +kernel
theorem dX6_measure_76 : decode cX6_measure 76 = .ok (.aload_n 1, 1) := by decide +kernel
theorem dX6_measure_77 : decode cX6_measure 77 = .ok (.aload_n 2, 1) := by decide +kernel
theorem dX6_measure_78 : decode cX6_measure 78 = .ok (.iload 6, 2) := by decide +kernel
theorem dX6_measure_80 : decode cX6_measure 80 = .ok (.invokevirtual 28, 3) := by decide +kernel
theorem dX6_measure_83 : decode cX6_measure 83 = .ok (.istore 7, 2) := by decide +kernel
theorem dX6_measure_85 : decode cX6_measure 85 = .ok (.iload 7, 2) := by decide +kernel
theorem dX6_measure_87 : decode cX6_measure 87 = .ok (.aload_n 0, 1) := by decide +kernel
theorem dX6_measure_88 : decode cX6_measure 88 = .ok (.getfield 9, 3) := by decide +kernel
theorem dX6_measure_91 : decode cX6_measure 91 = .ok (.iload 6, 2) := by decide +kernel
theorem dX6_measure_93 : decode cX6_measure 93 = .ok (.iaload, 1) := by decide +kernel
theorem dX6_measure_94 : decode cX6_measure 94 = .ok (.if_icmp .ge 15, 3) := by decide +kernel
theorem dX6_measure_97 : decode cX6_measure 97 = .ok (.aload_n 0, 1) := by decide +kernel
theorem dX6_measure_98 : decode cX6_measure 98 = .ok (.getfield 9, 3) := by decide +kernel
theorem dX6_measure_101 : decode cX6_measure 101 = .ok (.iload 6, 2) := by decide +kernel
theorem dX6_measure_103 : decode cX6_measure 103 = .ok (.iload 7, 2) := by decide +kernel
theorem dX6_measure_105 : decode cX6_measure 105 = .ok (.iastore, 1) := by decide +kernel
theorem dX6_measure_106 : decode cX6_measure 106 = .ok (.iconst 1, 1) := by decide +kernel
theorem dX6_measure_107 : decode cX6_measure 107 = .ok (.istore 4, 2) := by decide +kernel
theorem dX6_measure_109 : decode cX6_measure 109 = .ok (.iinc 6 1, 3) := by decide +kernel
theorem dX6_measure_112 : decode cX6_measure 112 = .ok (.goto (-53), 3) := by decide +kernel
theorem dX6_measure_115 : decode cX6_measure 115 = .ok (.iinc 5 1, 3) := by decide +kernel
theorem dX6_measure_118 : decode cX6_measure 118 = .ok (.goto (-77), 3) := by decide +kernel
theorem dX6_measure_121 : decode cX6_measure 121 = .ok (.return_, 1) := by decide +kernel
set_option maxRecDepth 20000 in
theorem ggX6_next_X6_isBeside : GoodIn wsX6_next wsX6_isBeside := goodIn_r _ [5, 6, 7, 8, 9, 10, 11, 12, 13, 14, 15, 16, 17, 18, 35, 36, 37, 38, 39, 40] (by decide +kernel) (by decide +kernel)
set_option maxRecDepth 20000 in
theorem gX6_next_X6_isBeside : GoodIn wsX6_next (va_wsS RX6 32 yX6_isBeside wsX6_isBeside) := goodIn_app (goodIn_of _ (by decide +kernel)) ggX6_next_X6_isBeside
set_option maxRecDepth 20000 in
theorem ggX6_next_X6_through : GoodIn wsX6_next wsX6_through := goodIn_r _ [22, 1, 23, 24, 25, 26, 9, 27, 28, 29, 30, 31, 32, 33, 34, 35, 36, 37, 38, 39, 40] (by decide +kernel) (by decide +kernel)
set_option maxRecDepth 20000 in
theorem gX6_next_X6_through : GoodIn wsX6_next (wsV RX6 36 RX6 yX6_through wsX6_through) := goodIn_app (goodIn_of _ (by decide +kernel)) ggX6_next_X6_through
theorem dX6_next_0 : decode cX6_next 0 = .ok (.iload_n 3, 1) := by decide +kernel
theorem dX6_next_1 : decode cX6_next 1 = .ok (.ifCond .lt 18, 3) := by decide +kernel
theorem dX6_next_4 : decode cX6_next 4 = .ok (.iload_n 3, 1) := by decide +kernel
theorem dX6_next_5 : decode cX6_next 5 = .ok (.bipush 16, 2) := by decide +kernel
theorem dX6_next_7 : decode cX6_next 7 = .ok (.if_icmp .ge 12, 3) := by decide +kernel
theorem dX6_next_10 : decode cX6_next 10 = .ok (.aload_n 0, 1) := by decide +kernel
theorem dX6_next_11 : decode cX6_next 11 = .ok (.getfield 9, 3) := by decide +kernel
theorem dX6_next_14 : decode cX6_next 14 = .ok (.iload_n 3, 1) := by decide +kernel
theorem dX6_next_15 : decode cX6_next 15 = .ok (.iaload, 1) := by decide +kernel
theorem dX6_next_16 : decode cX6_next 16 = .ok (.ifCond .ne 5, 3) := by decide +kernel
theorem dX6_next_19 : decode cX6_next 19 = .ok (.iload_n 3, 1) := by decide +kernel
theorem dX6_next_20 : decode cX6_next 20 = .ok (.ireturn, 1) := by decide +kernel
theorem dX6_next_21 : decode cX6_next 21 = .ok (.iconst 0, 1) := by decide +kernel
theorem dX6_next_22 : decode cX6_next 22 = .ok (.istore 4, 2) := by decide +kernel
theorem dX6_next_24 : decode cX6_next 24 = .ok (.iload 4, 2) := by decide +kernel
theorem dX6_next_26 : decode cX6_next 26 = .ok (.bipush 16, 2) := by decide +kernel
theorem dX6_next_28 : decode cX6_next 28 = .ok (.if_icmp .ge 39, 3) := by decide +kernel
theorem dX6_next_31 : decode cX6_next 31 = .ok (.aload_n 1, 1) := by decide +kernel
theorem dX6_next_32 : decode cX6_next 32 = .ok (.iload_n 3, 1) := by decide +kernel
theorem dX6_next_33 : decode cX6_next 33 = .ok (.iload 4, 2) := by decide +kernel
theorem dX6_next_35 : decode cX6_next 35 = .ok (.invokestatic 32, 3) := by decide +kernel
theorem dX6_next_38 : decode cX6_next 38 = .ok (.ifCond .eq 23, 3) := by decide +kernel
theorem dX6_next_41 : decode cX6_next 41 = .ok (.aload_n 0, 1) := by decide +kernel
theorem dX6_next_42 : decode cX6_next 42 = .ok (.aload_n 1, 1) := by decide +kernel
theorem dX6_next_43 : decode cX6_next 43 = .ok (.aload_n 2, 1) := by decide +kernel
theorem dX6_next_44 : decode cX6_next 44 = .ok (.iload 4, 2) := by decide +kernel
theorem dX6_next_46 : decode cX6_next 46 = .ok (.invokevirtual 36, 3) := by decide +kernel
theorem dX6_next_49 : decode cX6_next 49 = .ok (.aload_n 0, 1) := by decide +kernel
theorem dX6_next_50 : decode cX6_next 50 = .ok (.getfield 9, 3) := by decide +kernel
theorem dX6_next_53 : decode cX6_next 53 = .ok (.iload_n 3, 1) := by decide +kernel
theorem dX6_next_54 : decode cX6_next 54 = .ok (.iaload, 1) := by decide +kernel
theorem dX6_next_55 : decode cX6_next 55 = .ok (.if_icmp .ne 6, 3) := by decide +kernel
theorem dX6_next_58 : decode cX6_next 58 = .ok (.iload 4, 2) := by decide +kernel
theorem dX6_next_60 : decode cX6_next 60 = .ok (.ireturn, 1) := by decide +kernel
theorem dX6_next_61 : decode cX6_next 61 = .ok (.iinc 4 1, 3) := by decide +kernel
theorem dX6_next_64 : decode cX6_next 64 = .ok (.goto (-40), 3) := by decide +kernel
theorem dX6_next_67 : decode cX6_next 67 = .ok (.iload_n 3, 1) := by decide +kernel
theorem dX6_next_68 : decode cX6_next 68 = .ok (.ireturn, 1) := by decide +kernel
set_option maxRecDepth 20000 in
theorem ggX6_leastOn_X6_isBeside : GoodIn wsX6_leastOn wsX6_isBeside := goodIn_r _ [9, 10, 11, 12, 13, 14, 15, 16, 17, 18, 19, 20, 21, 22, 36, 37, 38, 39, 40, 41] (by decide +kernel) (by decide +kernel)
set_option maxRecDepth 20000 in
theorem gX6_leastOn_X6_isBeside : GoodIn wsX6_leastOn (va_wsS RX6 32 yX6_isBeside wsX6_isBeside) := goodIn_app (goodIn_of _ (by decide +kernel)) ggX6_leastOn_X6_isBeside
set_option maxRecDepth 20000 in
theorem ggX6_leastOn_X6_through : GoodIn wsX6_leastOn wsX6_through := goodIn_r _ [26, 27, 1, 28, 29, 30, 13, 31, 32, 33, 34, 35, 42, 43, 44, 36, 37, 38, 39, 40, 41] (by decide +kernel) (by decide +kernel)
set_option maxRecDepth 20000 in
theorem gX6_leastOn_X6_through : GoodIn wsX6_leastOn (wsV RX6 36 RX6 yX6_through wsX6_through) := goodIn_app (goodIn_of _ (by decide +kernel)) ggX6_leastOn_X6_through
theorem dX6_leastOn_0 : decode cX6_leastOn 0 = .ok (.ldc 21, 2) := by decide +kernel
theorem dX6_leastOn_2 : decode cX6_leastOn 2 = .ok (.istore 4, 2) := by decide +kernel
theorem dX6_leastOn_4 : decode cX6_leastOn 4 = .ok (.iconst 0, 1) := by decide +kernel
theorem dX6_leastOn_5 : decode cX6_leastOn 5 = .ok (.istore 5, 2) := by decide +kernel
theorem dX6_leastOn_7 : decode cX6_leastOn 7 = .ok (.iload 5, 2) := by decide +kernel
theorem dX6_leastOn_9 : decode cX6_leastOn 9 = .ok (.bipush 16, 2) := by decide +kernel
theorem dX6_leastOn_11 : decode cX6_leastOn 11 = .ok (.if_icmp .ge 34, 3) := by decide +kernel
theorem dX6_leastOn_14 : decode cX6_leastOn 14 = .ok (.aload_n 1, 1) := by decide +kernel
theorem dX6_leastOn_15 : decode cX6_leastOn 15 = .ok (.iload_n 3, 1) := by decide +kernel
theorem dX6_leastOn_16 : decode cX6_leastOn 16 = .ok (.iload 5, 2) := by decide +kernel
theorem dX6_leastOn_18 : decode cX6_leastOn 18 = .ok (.invokestatic 32, 3) := by decide +kernel
theorem dX6_leastOn_21 : decode cX6_leastOn 21 = .ok (.ifCond .eq 18, 3) := by decide +kernel
theorem dX6_leastOn_24 : decode cX6_leastOn 24 = .ok (.iload 4, 2) := by decide +kernel
theorem dX6_leastOn_26 : decode cX6_leastOn 26 = .ok (.aload_n 0, 1) := by decide +kernel
theorem dX6_leastOn_27 : decode cX6_leastOn 27 = .ok (.aload_n 1, 1) := by decide +kernel
theorem dX6_leastOn_28 : decode cX6_leastOn 28 = .ok (.aload_n 2, 1) := by decide +kernel
theorem dX6_leastOn_29 : decode cX6_leastOn 29 = .ok (.iload 5, 2) := by decide +kernel
theorem dX6_leastOn_31 : decode cX6_leastOn 31 = .ok (.invokevirtual 36, 3) := by decide +kernel
theorem dX6_leastOn_34 : decode cX6_leastOn 34 = .ok (.invokestatic 39, 3) := by decide +kernel
theorem dX6_leastOn_37 : decode cX6_leastOn 37 = .ok (.istore 4, 2) := by decide +kernel
theorem dX6_leastOn_39 : decode cX6_leastOn 39 = .ok (.iinc 5 1, 3) := by decide +kernel
theorem dX6_leastOn_42 : decode cX6_leastOn 42 = .ok (.goto (-35), 3) := by decide +kernel
theorem dX6_leastOn_45 : decode cX6_leastOn 45 = .ok (.iload 4, 2) := by decide +kernel
theorem dX6_leastOn_47 : decode cX6_leastOn 47 = .ok (.ireturn, 1) := by decide +kernel
set_option maxRecDepth 20000 in
theorem ggX6_through_X1_hungerOf : GoodIn wsX6_through wsX1_hungerOf := goodIn_r _ [7, 8, 9, 10, 11, 15, 16, 17, 18, 19, 20] (by decide +kernel) (by decide +kernel)
set_option maxRecDepth 20000 in
theorem gX6_through_X1_hungerOf : GoodIn wsX6_through (wsV RX6 45 RX1 yX1_hungerOf wsX1_hungerOf) := goodIn_app (goodIn_of _ (by decide +kernel)) ggX6_through_X1_hungerOf
theorem dX6_through_0 : decode cX6_through 0 = .ok (.iload_n 3, 1) := by decide +kernel
theorem dX6_through_1 : decode cX6_through 1 = .ok (.ifCond .lt 32, 3) := by decide +kernel
theorem dX6_through_4 : decode cX6_through 4 = .ok (.iload_n 3, 1) := by decide +kernel
theorem dX6_through_5 : decode cX6_through 5 = .ok (.aload_n 2, 1) := by decide +kernel
theorem dX6_through_6 : decode cX6_through 6 = .ok (.arraylength, 1) := by decide +kernel
theorem dX6_through_7 : decode cX6_through 7 = .ok (.if_icmp .ge 26, 3) := by decide +kernel
theorem dX6_through_10 : decode cX6_through 10 = .ok (.iload_n 3, 1) := by decide +kernel
theorem dX6_through_11 : decode cX6_through 11 = .ok (.bipush 16, 2) := by decide +kernel
theorem dX6_through_13 : decode cX6_through 13 = .ok (.if_icmp .ge 20, 3) := by decide +kernel
theorem dX6_through_16 : decode cX6_through 16 = .ok (.aload_n 1, 1) := by decide +kernel
theorem dX6_through_17 : decode cX6_through 17 = .ok (.aload_n 2, 1) := by decide +kernel
theorem dX6_through_18 : decode cX6_through 18 = .ok (.iload_n 3, 1) := by decide +kernel
theorem dX6_through_19 : decode cX6_through 19 = .ok (.iaload, 1) := by decide +kernel
theorem dX6_through_20 : decode cX6_through 20 = .ok (.invokevirtual 45, 3) := by decide +kernel
theorem dX6_through_23 : decode cX6_through 23 = .ok (.aload_n 0, 1) := by decide +kernel
theorem dX6_through_24 : decode cX6_through 24 = .ok (.getfield 9, 3) := by decide +kernel
theorem dX6_through_27 : decode cX6_through 27 = .ok (.iload_n 3, 1) := by decide +kernel
theorem dX6_through_28 : decode cX6_through 28 = .ok (.iaload, 1) := by decide +kernel
theorem dX6_through_29 : decode cX6_through 29 = .ok (.iadd, 1) := by decide +kernel
theorem dX6_through_30 : decode cX6_through 30 = .ok (.goto 5, 3) := by decide +kernel
theorem dX6_through_33 : decode cX6_through 33 = .ok (.ldc 21, 2) := by decide +kernel
theorem dX6_through_35 : decode cX6_through 35 = .ok (.ireturn, 1) := by decide +kernel
set_option maxRecDepth 20000 in
theorem ggX6_isBeside_X1_beside : GoodIn wsX6_isBeside wsX1_beside := goodIn_r _ [5, 6, 7, 8, 4, 9, 10, 11, 12, 13, 14, 15, 16, 17, 18, 19] (by decide +kernel) (by decide +kernel)
set_option maxRecDepth 20000 in
theorem gX6_isBeside_X1_beside : GoodIn wsX6_isBeside (wsV RX6 49 RX1 yX1_beside wsX1_beside) := goodIn_app (goodIn_of _ (by decide +kernel)) ggX6_isBeside_X1_beside
theorem dX6_isBeside_0 : decode cX6_isBeside 0 = .ok (.aload_n 0, 1) := by decide +kernel
theorem dX6_isBeside_1 : decode cX6_isBeside 1 = .ok (.iconst 1, 1) := by decide +kernel
theorem dX6_isBeside_2 : decode cX6_isBeside 2 = .ok (.iload_n 1, 1) := by decide +kernel
theorem dX6_isBeside_3 : decode cX6_isBeside 3 = .ok (.ishl, 1) := by decide +kernel
theorem dX6_isBeside_4 : decode cX6_isBeside 4 = .ok (.invokevirtual 49, 3) := by decide +kernel
theorem dX6_isBeside_7 : decode cX6_isBeside 7 = .ok (.iload_n 2, 1) := by decide +kernel
theorem dX6_isBeside_8 : decode cX6_isBeside 8 = .ok (.ishr, 1) := by decide +kernel
theorem dX6_isBeside_9 : decode cX6_isBeside 9 = .ok (.iconst 1, 1) := by decide +kernel
theorem dX6_isBeside_10 : decode cX6_isBeside 10 = .ok (.iand, 1) := by decide +kernel
theorem dX6_isBeside_11 : decode cX6_isBeside 11 = .ok (.iconst 1, 1) := by decide +kernel
theorem dX6_isBeside_12 : decode cX6_isBeside 12 = .ok (.if_icmp .ne 7, 3) := by decide +kernel
theorem dX6_isBeside_15 : decode cX6_isBeside 15 = .ok (.iconst 1, 1) := by decide +kernel
theorem dX6_isBeside_16 : decode cX6_isBeside 16 = .ok (.goto 4, 3) := by decide +kernel
theorem dX6_isBeside_19 : decode cX6_isBeside 19 = .ok (.iconst 0, 1) := by decide +kernel
theorem dX6_isBeside_20 : decode cX6_isBeside 20 = .ok (.ireturn, 1) := by decide +kernel
set_option maxRecDepth 20000 in
theorem ggX6_chance_X5_toldMark : GoodIn wsX6_chance wsX5_toldMark := goodIn_r _ [9, 10, 64, 65, 66, 67, 68] (by decide +kernel) (by decide +kernel)
set_option maxRecDepth 20000 in
theorem gX6_chance_X5_toldMark : GoodIn wsX6_chance (wsV RX6 52 RX5 yX5_toldMark wsX5_toldMark) := goodIn_app (goodIn_of _ (by decide +kernel)) ggX6_chance_X5_toldMark
set_option maxRecDepth 20000 in
theorem ggX6_chance_X0_placesOf : GoodIn wsX6_chance wsX0_placesOf := goodIn_r _ [15, 16, 17, 18, 19, 58, 59, 60, 61, 62, 63] (by decide +kernel) (by decide +kernel)
set_option maxRecDepth 20000 in
theorem gX6_chance_X0_placesOf : GoodIn wsX6_chance (wsV RX6 57 RX0 yX0_placesOf wsX0_placesOf) := goodIn_app (goodIn_of _ (by decide +kernel)) ggX6_chance_X0_placesOf
set_option maxRecDepth 20000 in
theorem ggX6_chance_X1_places : GoodIn wsX6_chance wsX1_places := goodIn_r _ [24, 25, 26, 69, 70, 71, 72, 73, 74] (by decide +kernel) (by decide +kernel)
set_option maxRecDepth 20000 in
theorem gX6_chance_X1_places : GoodIn wsX6_chance (wsV RX6 22 RX1 yX1_places wsX1_places) := goodIn_app (goodIn_of _ (by decide +kernel)) ggX6_chance_X1_places
set_option maxRecDepth 20000 in
theorem ggX6_chance_X6_goOn : GoodIn wsX6_chance wsX6_goOn := goodIn_r _ [31, 32, 1, 33, 34, 35, 36, 20, 21, 22, 23, 24, 25, 26, 37, 38, 39, 40, 41, 42, 43, 44, 45, 46, 47, 48, 49, 50, 51, 52, 53, 54, 55, 56, 57, 69, 70, 71, 72, 73, 74] (by decide +kernel) (by decide +kernel)
set_option maxRecDepth 20000 in
theorem gX6_chance_X6_goOn : GoodIn wsX6_chance (wsV RX6 66 RX6 yX6_goOn wsX6_goOn) := goodIn_app (goodIn_of _ (by decide +kernel)) ggX6_chance_X6_goOn
theorem dX6_chance_0 : decode cX6_chance 0 = .ok (.aload_n 1, 1) := by decide +kernel
theorem dX6_chance_1 : decode cX6_chance 1 = .ok (.aload_n 2, 1) := by decide +kernel
theorem dX6_chance_2 : decode cX6_chance 2 = .ok (.iload_n 3, 1) := by decide +kernel
theorem dX6_chance_3 : decode cX6_chance 3 = .ok (.iconst 0, 1) := by decide +kernel
theorem dX6_chance_4 : decode cX6_chance 4 = .ok (.invokevirtual 52, 3) := by decide +kernel
theorem dX6_chance_7 : decode cX6_chance 7 = .ok (.invokevirtual 57, 3) := by decide +kernel
theorem dX6_chance_10 : decode cX6_chance 10 = .ok (.istore 5, 2) := by decide +kernel
theorem dX6_chance_12 : decode cX6_chance 12 = .ok (.iconst 0, 1) := by decide +kernel
theorem dX6_chance_13 : decode cX6_chance 13 = .ok (.istore 6, 2) := by decide +kernel
theorem dX6_chance_15 : decode cX6_chance 15 = .ok (.iload 6, 2) := by decide +kernel
theorem dX6_chance_17 : decode cX6_chance 17 = .ok (.bipush 16, 2) := by decide +kernel
theorem dX6_chance_19 : decode cX6_chance 19 = .ok (.if_icmp .ge 23, 3) := by decide +kernel
theorem dX6_chance_22 : decode cX6_chance 22 = .ok (.aload_n 0, 1) := by decide +kernel
theorem dX6_chance_23 : decode cX6_chance 23 = .ok (.getfield 15, 3) := by decide +kernel
theorem dX6_chance_26 : decode cX6_chance 26 = .ok (.iload 6, 2) := by decide +kernel
theorem dX6_chance_28 : decode cX6_chance 28 = .ok (.iload 5, 2) := by decide +kernel
theorem dX6_chance_30 : decode cX6_chance 30 = .ok (.iload 6, 2) := by decide +kernel
theorem dX6_chance_32 : decode cX6_chance 32 = .ok (.ishr, 1) := by decide +kernel
theorem dX6_chance_33 : decode cX6_chance 33 = .ok (.iconst 1, 1) := by decide +kernel
theorem dX6_chance_34 : decode cX6_chance 34 = .ok (.iand, 1) := by decide +kernel
theorem dX6_chance_35 : decode cX6_chance 35 = .ok (.iastore, 1) := by decide +kernel
theorem dX6_chance_36 : decode cX6_chance 36 = .ok (.iinc 6 1, 3) := by decide +kernel
theorem dX6_chance_39 : decode cX6_chance 39 = .ok (.goto (-24), 3) := by decide +kernel
theorem dX6_chance_42 : decode cX6_chance 42 = .ok (.aload_n 1, 1) := by decide +kernel
theorem dX6_chance_43 : decode cX6_chance 43 = .ok (.getfield 62, 3) := by decide +kernel
theorem dX6_chance_46 : decode cX6_chance 46 = .ok (.invokevirtual 22, 3) := by decide +kernel
theorem dX6_chance_49 : decode cX6_chance 49 = .ok (.i2l, 1) := by decide +kernel
theorem dX6_chance_50 : decode cX6_chance 50 = .ok (.lstore 6, 2) := by decide +kernel
theorem dX6_chance_52 : decode cX6_chance 52 = .ok (.iconst 1, 1) := by decide +kernel
theorem dX6_chance_53 : decode cX6_chance 53 = .ok (.istore 8, 2) := by decide +kernel
theorem dX6_chance_55 : decode cX6_chance 55 = .ok (.iload 8, 2) := by decide +kernel
theorem dX6_chance_57 : decode cX6_chance 57 = .ok (.iload 4, 2) := by decide +kernel
theorem dX6_chance_59 : decode cX6_chance 59 = .ok (.if_icmp .gt 36, 3) := by decide +kernel
theorem dX6_chance_62 : decode cX6_chance 62 = .ok (.aload_n 0, 1) := by decide +kernel
theorem dX6_chance_63 : decode cX6_chance 63 = .ok (.aload_n 1, 1) := by decide +kernel
theorem dX6_chance_64 : decode cX6_chance 64 = .ok (.getfield 62, 3) := by decide +kernel
theorem dX6_chance_67 : decode cX6_chance 67 = .ok (.aload_n 1, 1) := by decide +kernel
theorem dX6_chance_68 : decode cX6_chance 68 = .ok (.aload_n 2, 1) := by decide +kernel
theorem dX6_chance_69 : decode cX6_chance 69 = .ok (.iload_n 3, 1) := by decide +kernel
theorem dX6_chance_70 : decode cX6_chance 70 = .ok (.iload 8, 2) := by decide +kernel
theorem dX6_chance_72 : decode cX6_chance 72 = .ok (.invokevirtual 52, 3) := by decide +kernel
theorem dX6_chance_75 : decode cX6_chance 75 = .ok (.invokevirtual 57, 3) := by decide +kernel
theorem dX6_chance_78 : decode cX6_chance 78 = .ok (.invokevirtual 66, 3) := by decide +kernel
theorem dX6_chance_81 : decode cX6_chance 81 = .ok (.lload 6, 2) := by decide +kernel
theorem dX6_chance_83 : decode cX6_chance 83 = .ok (.ldc2_w 70, 3) := by decide +kernel
theorem dX6_chance_86 : decode cX6_chance 86 = .ok (.lmul, 1) := by decide +kernel
theorem dX6_chance_87 : decode cX6_chance 87 = .ok (.lstore 6, 2) := by decide +kernel
theorem dX6_chance_89 : decode cX6_chance 89 = .ok (.iinc 8 1, 3) := by decide +kernel
theorem dX6_chance_92 : decode cX6_chance 92 = .ok (.goto (-37), 3) := by decide +kernel
theorem dX6_chance_95 : decode cX6_chance 95 = .ok (.lconst 0, 1) := by decide +kernel
theorem dX6_chance_96 : decode cX6_chance 96 = .ok (.lstore 8, 2) := by decide +kernel
theorem dX6_chance_98 : decode cX6_chance 98 = .ok (.iconst 0, 1) := by decide +kernel
theorem dX6_chance_99 : decode cX6_chance 99 = .ok (.istore 10, 2) := by decide +kernel
theorem dX6_chance_101 : decode cX6_chance 101 = .ok (.iload 10, 2) := by decide +kernel
theorem dX6_chance_103 : decode cX6_chance 103 = .ok (.bipush 16, 2) := by decide +kernel
theorem dX6_chance_105 : decode cX6_chance 105 = .ok (.if_icmp .ge 22, 3) := by decide +kernel
theorem dX6_chance_108 : decode cX6_chance 108 = .ok (.lload 8, 2) := by decide +kernel
theorem dX6_chance_110 : decode cX6_chance 110 = .ok (.aload_n 0, 1) := by decide +kernel
theorem dX6_chance_111 : decode cX6_chance 111 = .ok (.getfield 15, 3) := by decide +kernel
theorem dX6_chance_114 : decode cX6_chance 114 = .ok (.iload 10, 2) := by decide +kernel
theorem dX6_chance_116 : decode cX6_chance 116 = .ok (.iaload, 1) := by decide +kernel
theorem dX6_chance_117 : decode cX6_chance 117 = .ok (.i2l, 1) := by decide +kernel
theorem dX6_chance_118 : decode cX6_chance 118 = .ok (.ladd, 1) := by decide +kernel
theorem dX6_chance_119 : decode cX6_chance 119 = .ok (.lstore 8, 2) := by decide +kernel
theorem dX6_chance_121 : decode cX6_chance 121 = .ok (.iinc 10 1, 3) := by decide +kernel
theorem dX6_chance_124 : decode cX6_chance 124 = .ok (.goto (-23), 3) := by decide +kernel
theorem dX6_chance_127 : decode cX6_chance 127 = .ok (.lload 6, 2) := by decide +kernel
theorem dX6_chance_129 : decode cX6_chance 129 = .ok (.lconst 0, 1) := by decide +kernel
theorem dX6_chance_130 : decode cX6_chance 130 = .ok (.lcmp, 1) := by decide +kernel
theorem dX6_chance_131 : decode cX6_chance 131 = .ok (.ifCond .gt 7, 3) := by decide +kernel
theorem dX6_chance_134 : decode cX6_chance 134 = .ok (.iconst 0, 1) := by decide +kernel
theorem dX6_chance_135 : decode cX6_chance 135 = .ok (.goto 13, 3) := by decide +kernel
theorem dX6_chance_138 : decode cX6_chance 138 = .ok (.ldc2_w 72, 3) := by decide +kernel
theorem dX6_chance_141 : decode cX6_chance 141 = .ok (.lload 8, 2) := by decide +kernel
theorem dX6_chance_143 : decode cX6_chance 143 = .ok (.lmul, 1) := by decide +kernel
theorem dX6_chance_144 : decode cX6_chance 144 = .ok (.lload 6, 2) := by decide +kernel
theorem dX6_chance_146 : decode cX6_chance 146 = .ok (.ldiv, 1) := by decide +kernel
theorem dX6_chance_147 : decode cX6_chance 147 = .ok (.l2i, 1) := by decide +kernel
theorem dX6_chance_148 : decode cX6_chance 148 = .ok (.ireturn, 1) := by decide +kernel
set_option maxRecDepth 20000 in
theorem ggX6_goOn_X1_places : GoodIn wsX6_goOn wsX1_places := goodIn_r _ [11, 12, 13, 35, 36, 37, 38, 39, 40] (by decide +kernel) (by decide +kernel)
set_option maxRecDepth 20000 in
theorem gX6_goOn_X1_places : GoodIn wsX6_goOn (wsV RX6 22 RX1 yX1_places wsX1_places) := goodIn_app (goodIn_of _ (by decide +kernel)) ggX6_goOn_X1_places
set_option maxRecDepth 20000 in
theorem ggX6_goOn_X1_beside : GoodIn wsX6_goOn wsX1_beside := goodIn_r _ [17, 18, 19, 20, 10, 21, 13, 22, 23, 24, 35, 36, 37, 38, 39, 40] (by decide +kernel) (by decide +kernel)
set_option maxRecDepth 20000 in
theorem gX6_goOn_X1_beside : GoodIn wsX6_goOn (wsV RX6 49 RX1 yX1_beside wsX1_beside) := goodIn_app (goodIn_of _ (by decide +kernel)) ggX6_goOn_X1_beside
set_option maxRecDepth 20000 in
theorem ggX6_goOn_J6_bitCount_0f7a4 : GoodIn wsX6_goOn wsJ6_bitCount_0f7a4 := goodIn_r _ [28, 29, 30, 31] (by decide +kernel) (by decide +kernel)
set_option maxRecDepth 20000 in
theorem gX6_goOn_J6_bitCount_0f7a4 : GoodIn wsX6_goOn (va_wsS RX6 74 yJ6_bitCount_0f7a4 wsJ6_bitCount_0f7a4) := goodIn_app (goodIn_of _ (by decide +kernel)) ggX6_goOn_J6_bitCount_0f7a4
theorem dX6_goOn_0 : decode cX6_goOn 0 = .ok (.iconst 0, 1) := by decide +kernel
theorem dX6_goOn_1 : decode cX6_goOn 1 = .ok (.istore_n 3, 1) := by decide +kernel
theorem dX6_goOn_2 : decode cX6_goOn 2 = .ok (.iload_n 3, 1) := by decide +kernel
theorem dX6_goOn_3 : decode cX6_goOn 3 = .ok (.bipush 16, 2) := by decide +kernel
theorem dX6_goOn_5 : decode cX6_goOn 5 = .ok (.if_icmp .ge 16, 3) := by decide +kernel
theorem dX6_goOn_8 : decode cX6_goOn 8 = .ok (.aload_n 0, 1) := by decide +kernel
theorem dX6_goOn_9 : decode cX6_goOn 9 = .ok (.getfield 18, 3) := by decide +kernel
theorem dX6_goOn_12 : decode cX6_goOn 12 = .ok (.iload_n 3, 1) := by decide +kernel
theorem dX6_goOn_13 : decode cX6_goOn 13 = .ok (.iconst 0, 1) := by decide +kernel
theorem dX6_goOn_14 : decode cX6_goOn 14 = .ok (.iastore, 1) := by decide +kernel
theorem dX6_goOn_15 : decode cX6_goOn 15 = .ok (.iinc 3 1, 3) := by decide +kernel
theorem dX6_goOn_18 : decode cX6_goOn 18 = .ok (.goto (-16), 3) := by decide +kernel
theorem dX6_goOn_21 : decode cX6_goOn 21 = .ok (.iconst 0, 1) := by decide +kernel
theorem dX6_goOn_22 : decode cX6_goOn 22 = .ok (.istore_n 3, 1) := by decide +kernel
theorem dX6_goOn_23 : decode cX6_goOn 23 = .ok (.iload_n 3, 1) := by decide +kernel
theorem dX6_goOn_24 : decode cX6_goOn 24 = .ok (.aload_n 1, 1) := by decide +kernel
theorem dX6_goOn_25 : decode cX6_goOn 25 = .ok (.invokevirtual 22, 3) := by decide +kernel
theorem dX6_goOn_28 : decode cX6_goOn 28 = .ok (.if_icmp .ge 94, 3) := by decide +kernel
theorem dX6_goOn_31 : decode cX6_goOn 31 = .ok (.iload_n 3, 1) := by decide +kernel
theorem dX6_goOn_32 : decode cX6_goOn 32 = .ok (.bipush 16, 2) := by decide +kernel
theorem dX6_goOn_34 : decode cX6_goOn 34 = .ok (.if_icmp .ge 88, 3) := by decide +kernel
theorem dX6_goOn_37 : decode cX6_goOn 37 = .ok (.aload_n 1, 1) := by decide +kernel
theorem dX6_goOn_38 : decode cX6_goOn 38 = .ok (.iconst 1, 1) := by decide +kernel
theorem dX6_goOn_39 : decode cX6_goOn 39 = .ok (.iload_n 3, 1) := by decide +kernel
theorem dX6_goOn_40 : decode cX6_goOn 40 = .ok (.ishl, 1) := by decide +kernel
theorem dX6_goOn_41 : decode cX6_goOn 41 = .ok (.invokevirtual 49, 3) := by decide +kernel
theorem dX6_goOn_44 : decode cX6_goOn 44 = .ok (.istore 4, 2) := by decide +kernel
theorem dX6_goOn_46 : decode cX6_goOn 46 = .ok (.iload 4, 2) := by decide +kernel
theorem dX6_goOn_48 : decode cX6_goOn 48 = .ok (.invokestatic 74, 3) := by decide +kernel
theorem dX6_goOn_51 : decode cX6_goOn 51 = .ok (.istore 5, 2) := by decide +kernel
theorem dX6_goOn_53 : decode cX6_goOn 53 = .ok (.iload 5, 2) := by decide +kernel
theorem dX6_goOn_55 : decode cX6_goOn 55 = .ok (.ifCond .ne 7, 3) := by decide +kernel
theorem dX6_goOn_58 : decode cX6_goOn 58 = .ok (.iconst 0, 1) := by decide +kernel
theorem dX6_goOn_59 : decode cX6_goOn 59 = .ok (.goto 15, 3) := by decide +kernel
theorem dX6_goOn_62 : decode cX6_goOn 62 = .ok (.aload_n 0, 1) := by decide +kernel
theorem dX6_goOn_63 : decode cX6_goOn 63 = .ok (.getfield 15, 3) := by decide +kernel
theorem dX6_goOn_66 : decode cX6_goOn 66 = .ok (.iload_n 3, 1) := by decide +kernel
theorem dX6_goOn_67 : decode cX6_goOn 67 = .ok (.iaload, 1) := by decide +kernel
theorem dX6_goOn_68 : decode cX6_goOn 68 = .ok (.bipush 12, 2) := by decide +kernel
theorem dX6_goOn_70 : decode cX6_goOn 70 = .ok (.iload 5, 2) := by decide +kernel
theorem dX6_goOn_72 : decode cX6_goOn 72 = .ok (.idiv, 1) := by decide +kernel
theorem dX6_goOn_73 : decode cX6_goOn 73 = .ok (.imul, 1) := by decide +kernel
theorem dX6_goOn_74 : decode cX6_goOn 74 = .ok (.istore 6, 2) := by decide +kernel
theorem dX6_goOn_76 : decode cX6_goOn 76 = .ok (.iconst 0, 1) := by decide +kernel
theorem dX6_goOn_77 : decode cX6_goOn 77 = .ok (.istore 7, 2) := by decide +kernel
theorem dX6_goOn_79 : decode cX6_goOn 79 = .ok (.iload 7, 2) := by decide +kernel
theorem dX6_goOn_81 : decode cX6_goOn 81 = .ok (.bipush 16, 2) := by decide +kernel
theorem dX6_goOn_83 : decode cX6_goOn 83 = .ok (.if_icmp .ge 33, 3) := by decide +kernel
theorem dX6_goOn_86 : decode cX6_goOn 86 = .ok (.iload 4, 2) := by decide +kernel
theorem dX6_goOn_88 : decode cX6_goOn 88 = .ok (.iload_n 2, 1) := by decide +kernel
theorem dX6_goOn_89 : decode cX6_goOn 89 = .ok (.iand, 1) := by decide +kernel
theorem dX6_goOn_90 : decode cX6_goOn 90 = .ok (.iconst 1, 1) := by decide +kernel
theorem dX6_goOn_91 : decode cX6_goOn 91 = .ok (.iload 7, 2) := by decide +kernel
theorem dX6_goOn_93 : decode cX6_goOn 93 = .ok (.ishl, 1) := by decide +kernel
theorem dX6_goOn_94 : decode cX6_goOn 94 = .ok (.iand, 1) := by decide +kernel
theorem dX6_goOn_95 : decode cX6_goOn 95 = .ok (.ifCond .eq 15, 3) := by decide +kernel
theorem dX6_goOn_98 : decode cX6_goOn 98 = .ok (.aload_n 0, 1) := by decide +kernel
theorem dX6_goOn_99 : decode cX6_goOn 99 = .ok (.getfield 18, 3) := by decide +kernel
theorem dX6_goOn_102 : decode cX6_goOn 102 = .ok (.iload 7, 2) := by decide +kernel
theorem dX6_goOn_104 : decode cX6_goOn 104 = .ok (.dup2, 1) := by decide +kernel
theorem dX6_goOn_105 : decode cX6_goOn 105 = .ok (.iaload, 1) := by decide +kernel
theorem dX6_goOn_106 : decode cX6_goOn 106 = .ok (.iload 6, 2) := by decide +kernel
theorem dX6_goOn_108 : decode cX6_goOn 108 = .ok (.iadd, 1) := by decide +kernel
theorem dX6_goOn_109 : decode cX6_goOn 109 = .ok (.iastore, 1) := by decide +kernel
theorem dX6_goOn_110 : decode cX6_goOn 110 = .ok (.iinc 7 1, 3) := by decide +kernel
theorem dX6_goOn_113 : decode cX6_goOn 113 = .ok (.goto (-34), 3) := by decide +kernel
theorem dX6_goOn_116 : decode cX6_goOn 116 = .ok (.iinc 3 1, 3) := by decide +kernel
theorem dX6_goOn_119 : decode cX6_goOn 119 = .ok (.goto (-96), 3) := by decide +kernel
theorem dX6_goOn_122 : decode cX6_goOn 122 = .ok (.aload_n 0, 1) := by decide +kernel
theorem dX6_goOn_123 : decode cX6_goOn 123 = .ok (.getfield 18, 3) := by decide +kernel
theorem dX6_goOn_126 : decode cX6_goOn 126 = .ok (.iconst 0, 1) := by decide +kernel
theorem dX6_goOn_127 : decode cX6_goOn 127 = .ok (.aload_n 0, 1) := by decide +kernel
theorem dX6_goOn_128 : decode cX6_goOn 128 = .ok (.getfield 15, 3) := by decide +kernel
theorem dX6_goOn_131 : decode cX6_goOn 131 = .ok (.iconst 0, 1) := by decide +kernel
theorem dX6_goOn_132 : decode cX6_goOn 132 = .ok (.bipush 16, 2) := by decide +kernel
theorem dX6_goOn_134 : decode cX6_goOn 134 = .ok (.invokestatic 79, 3) := by decide +kernel
theorem dX6_goOn_137 : decode cX6_goOn 137 = .ok (.return_, 1) := by decide +kernel
set_option maxRecDepth 20000 in
theorem ggX7_init_X3_init : GoodIn wsX7_init wsX3_init := goodIn_r _ [33, 34, 2, 3, 35, 36, 37, 38, 39, 40, 41, 15, 16, 42, 43, 44, 45, 46, 47, 48, 49, 50, 51, 52, 53, 54, 245, 246, 247, 248, 249, 250, 251, 252, 280, 281, 282, 283, 284, 285, 268, 269, 270, 271, 272] (by decide +kernel) (by decide +kernel)
set_option maxRecDepth 20000 in
theorem gX7_init_X3_init_n9 : GoodIn wsX7_init (wsX3_init) := ggX7_init_X3_init
set_option maxRecDepth 20000 in
theorem ggX7_init_X0_init : GoodIn wsX7_init wsX0_init := goodIn_r _ [56, 57, 2, 3, 58, 38, 39, 59, 46, 60, 61, 62, 63, 64, 43, 44, 45, 47, 280, 281, 282, 283, 284, 285, 262, 263, 264, 265, 266, 267] (by decide +kernel) (by decide +kernel)
set_option maxRecDepth 20000 in
theorem gX7_init_X0_init_n18 : GoodIn wsX7_init (wsX0_init) := ggX7_init_X0_init
set_option maxRecDepth 20000 in
theorem ggX7_init_X5_init : GoodIn wsX7_init wsX5_init := goodIn_r _ [49, 50, 2, 3, 46, 51, 52, 53, 54, 268, 269, 270, 271, 272] (by decide +kernel) (by decide +kernel)
set_option maxRecDepth 20000 in
theorem gX7_init_X5_init_n30 : GoodIn wsX7_init (wsX5_init) := ggX7_init_X5_init
set_option maxRecDepth 20000 in
theorem ggX7_init_X2_init : GoodIn wsX7_init wsX2_init := goodIn_r _ [67, 68, 2, 3, 69, 70, 71, 72, 73, 74, 15, 16, 48, 49, 50, 46, 51, 52, 53, 54, 273, 274, 268, 269, 270, 271, 272] (by decide +kernel) (by decide +kernel)
set_option maxRecDepth 20000 in
theorem gX7_init_X2_init : GoodIn wsX7_init (wsX2_init) := ggX7_init_X2_init
set_option maxRecDepth 20000 in
theorem ggX7_init_X6_init : GoodIn wsX7_init wsX6_init := goodIn_r _ [76, 77, 2, 3, 46, 78, 79, 80, 275, 276, 277] (by decide +kernel) (by decide +kernel)
set_option maxRecDepth 20000 in
theorem gX7_init_X6_init_n52 : GoodIn wsX7_init (wsX6_init) := ggX7_init_X6_init
set_option maxRecDepth 20000 in
theorem ggX7_init_X4_init : GoodIn wsX7_init wsX4_init := goodIn_r _ [82, 83, 2, 3, 46, 84, 85, 278, 279] (by decide +kernel) (by decide +kernel)
set_option maxRecDepth 20000 in
theorem gX7_init_X4_init_n59 : GoodIn wsX7_init (wsX4_init) := ggX7_init_X4_init
set_option maxRecDepth 20000 in
theorem ggX7_init_J0_length_8abf5 : GoodIn wsX7_init wsJ0_length_8abf5 := goodIn_r _ [90, 91, 92, 93, 94, 89, 95, 96, 97] (by decide +kernel) (by decide +kernel)
set_option maxRecDepth 20000 in
theorem gX7_init_J0_length_8abf5 : GoodIn wsX7_init (wsV RX7 66 RJ0 yJ0_length_8abf5 wsJ0_length_8abf5) := goodIn_app (goodIn_of _ (by decide +kernel)) ggX7_init_J0_length_8abf5
set_option maxRecDepth 20000 in
theorem ggX7_init_J0_charAt_5068e : GoodIn wsX7_init wsJ0_charAt_5068e := goodIn_r _ [101, 91, 102, 103, 104, 89, 105, 96, 97, 106, 107, 108, 109, 110, 111, 112, 113, 114, 115, 116, 117, 118, 119, 120, 121, 122, 123, 124, 125, 126, 127, 128, 129, 130, 131, 132, 133, 134] (by decide +kernel) (by decide +kernel)
set_option maxRecDepth 20000 in
theorem gX7_init_J0_charAt_5068e : GoodIn wsX7_init (wsV RX7 72 RJ0 yJ0_charAt_5068e wsJ0_charAt_5068e) := goodIn_app (goodIn_of _ (by decide +kernel)) ggX7_init_J0_charAt_5068e
set_option maxRecDepth 20000 in
theorem ggX7_init_X3_put : GoodIn wsX7_init wsX3_put := goodIn_r _ [138, 139, 36, 245, 246, 247, 248, 249, 250, 251, 252] (by decide +kernel) (by decide +kernel)
set_option maxRecDepth 20000 in
theorem gX7_init_X3_put : GoodIn wsX7_init (wsV RX7 76 RX3 yX3_put wsX3_put) := goodIn_app (goodIn_of _ (by decide +kernel)) ggX7_init_X3_put
set_option maxRecDepth 20000 in
theorem ggX7_init_X7_takeOver : GoodIn wsX7_init wsX7_takeOver := goodIn_r _ [144, 7, 145, 146, 13, 147, 17, 148, 149, 150, 6, 151, 152, 153, 40, 154, 42, 139, 155, 156, 157, 39, 158, 159, 160, 161, 162, 163, 164, 165, 166, 16, 167, 51, 168, 169, 170, 171, 172, 173, 174, 175, 176, 177, 178, 179, 180, 36, 181, 182, 183, 184, 185, 186, 187, 188, 189, 190, 191, 192, 193, 194, 195, 196, 197, 198, 199, 200, 201, 202, 203, 204, 205, 206, 207, 143, 208, 209, 210, 211, 212, 213, 214, 215, 216, 217, 218, 219, 220, 221, 222, 52, 53, 223, 224, 225, 226, 54, 227, 228, 229, 230, 47, 231, 232, 233, 234, 235, 236, 237, 238, 239, 240, 253, 254, 255, 256, 257, 258, 259, 260, 261, 245, 246, 247, 248, 249, 250, 251, 252, 268, 269, 270, 271, 272, 280, 281, 282, 283, 284, 285] (by decide +kernel) (by decide +kernel)
set_option maxRecDepth 20000 in
theorem gX7_init_X7_takeOver : GoodIn wsX7_init (wsV RX7 80 RX7 yX7_takeOver wsX7_takeOver) := goodIn_app (goodIn_of _ (by decide +kernel)) ggX7_init_X7_takeOver
set_option maxRecDepth 20000 in
theorem ggX7_init_X3_clear : GoodIn wsX7_init wsX3_clear := goodIn_r _ [244, 139, 245, 246, 247, 248, 249, 250, 251, 252] (by decide +kernel) (by decide +kernel)
set_option maxRecDepth 20000 in
theorem gX7_init_X3_clear : GoodIn wsX7_init (wsV RX7 84 RX3 yX3_clear wsX3_clear) := goodIn_app (goodIn_of _ (by decide +kernel)) ggX7_init_X3_clear
theorem dX7_init_0 : decode cX7_init 0 = .ok (.aload_n 0, 1) := by decide +kernel
theorem dX7_init_1 : decode cX7_init 1 = .ok (.invokespecial 1, 3) := by decide +kernel
theorem dX7_init_4 : decode cX7_init 4 = .ok (.aload_n 0, 1) := by decide +kernel
theorem dX7_init_5 : decode cX7_init 5 = .ok (.new 7, 3) := by decide +kernel
theorem dX7_init_8 : decode cX7_init 8 = .ok (.dup, 1) := by decide +kernel
theorem dX7_init_9 : decode cX7_init 9 = .ok (.invokespecial 9, 3) := by decide +kernel
theorem dX7_init_12 : decode cX7_init 12 = .ok (.putfield 10, 3) := by decide +kernel
theorem dX7_init_15 : decode cX7_init 15 = .ok (.aload_n 0, 1) := by decide +kernel
theorem dX7_init_16 : decode cX7_init 16 = .ok (.new 16, 3) := by decide +kernel
theorem dX7_init_19 : decode cX7_init 19 = .ok (.dup, 1) := by decide +kernel
theorem dX7_init_20 : decode cX7_init 20 = .ok (.invokespecial 18, 3) := by decide +kernel
theorem dX7_init_23 : decode cX7_init 23 = .ok (.putfield 19, 3) := by decide +kernel
theorem dX7_init_26 : decode cX7_init 26 = .ok (.aload_n 0, 1) := by decide +kernel
theorem dX7_init_27 : decode cX7_init 27 = .ok (.aload_n 0, 1) := by decide +kernel
theorem dX7_init_28 : decode cX7_init 28 = .ok (.getfield 19, 3) := by decide +kernel
theorem dX7_init_31 : decode cX7_init 31 = .ok (.getfield 23, 3) := by decide +kernel
theorem dX7_init_34 : decode cX7_init 34 = .ok (.putfield 27, 3) := by decide +kernel
theorem dX7_init_37 : decode cX7_init 37 = .ok (.aload_n 0, 1) := by decide +kernel
theorem dX7_init_38 : decode cX7_init 38 = .ok (.new 28, 3) := by decide +kernel
theorem dX7_init_41 : decode cX7_init 41 = .ok (.dup, 1) := by decide +kernel
theorem dX7_init_42 : decode cX7_init 42 = .ok (.invokespecial 30, 3) := by decide +kernel
theorem dX7_init_45 : decode cX7_init 45 = .ok (.putfield 31, 3) := by decide +kernel
theorem dX7_init_48 : decode cX7_init 48 = .ok (.aload_n 0, 1) := by decide +kernel
theorem dX7_init_49 : decode cX7_init 49 = .ok (.new 28, 3) := by decide +kernel
theorem dX7_init_52 : decode cX7_init 52 = .ok (.dup, 1) := by decide +kernel
theorem dX7_init_53 : decode cX7_init 53 = .ok (.invokespecial 30, 3) := by decide +kernel
theorem dX7_init_56 : decode cX7_init 56 = .ok (.putfield 35, 3) := by decide +kernel
theorem dX7_init_59 : decode cX7_init 59 = .ok (.aload_n 0, 1) := by decide +kernel
theorem dX7_init_60 : decode cX7_init 60 = .ok (.new 38, 3) := by decide +kernel
theorem dX7_init_63 : decode cX7_init 63 = .ok (.dup, 1) := by decide +kernel
theorem dX7_init_64 : decode cX7_init 64 = .ok (.bipush 8, 2) := by decide +kernel
theorem dX7_init_66 : decode cX7_init 66 = .ok (.invokespecial 40, 3) := by decide +kernel
theorem dX7_init_69 : decode cX7_init 69 = .ok (.putfield 43, 3) := by decide +kernel
theorem dX7_init_72 : decode cX7_init 72 = .ok (.aload_n 0, 1) := by decide +kernel
theorem dX7_init_73 : decode cX7_init 73 = .ok (.new 38, 3) := by decide +kernel
theorem dX7_init_76 : decode cX7_init 76 = .ok (.dup, 1) := by decide +kernel
theorem dX7_init_77 : decode cX7_init 77 = .ok (.iconst 2, 1) := by decide +kernel
theorem dX7_init_78 : decode cX7_init 78 = .ok (.invokespecial 40, 3) := by decide +kernel
theorem dX7_init_81 : decode cX7_init 81 = .ok (.putfield 47, 3) := by decide +kernel
theorem dX7_init_84 : decode cX7_init 84 = .ok (.aload_n 0, 1) := by decide +kernel
theorem dX7_init_85 : decode cX7_init 85 = .ok (.new 50, 3) := by decide +kernel
theorem dX7_init_88 : decode cX7_init 88 = .ok (.dup, 1) := by decide +kernel
theorem dX7_init_89 : decode cX7_init 89 = .ok (.invokespecial 52, 3) := by decide +kernel
theorem dX7_init_92 : decode cX7_init 92 = .ok (.putfield 53, 3) := by decide +kernel
theorem dX7_init_95 : decode cX7_init 95 = .ok (.aload_n 0, 1) := by decide +kernel
theorem dX7_init_96 : decode cX7_init 96 = .ok (.new 57, 3) := by decide +kernel
theorem dX7_init_99 : decode cX7_init 99 = .ok (.dup, 1) := by decide +kernel
theorem dX7_init_100 : decode cX7_init 100 = .ok (.invokespecial 59, 3) := by decide +kernel
theorem dX7_init_103 : decode cX7_init 103 = .ok (.putfield 60, 3) := by decide +kernel
theorem dX7_init_106 : decode cX7_init 106 = .ok (.iconst 0, 1) := by decide +kernel
theorem dX7_init_107 : decode cX7_init 107 = .ok (.istore_n 1, 1) := by decide +kernel
theorem dX7_init_108 : decode cX7_init 108 = .ok (.iload_n 1, 1) := by decide +kernel
theorem dX7_init_109 : decode cX7_init 109 = .ok (.ldc 64, 2) := by decide +kernel
theorem dX7_init_111 : decode cX7_init 111 = .ok (.invokevirtual 66, 3) := by decide +kernel
theorem dX7_init_114 : decode cX7_init 114 = .ok (.if_icmp .ge 23, 3) := by decide +kernel
theorem dX7_init_117 : decode cX7_init 117 = .ok (.aload_n 0, 1) := by decide +kernel
theorem dX7_init_118 : decode cX7_init 118 = .ok (.getfield 10, 3) := by decide +kernel
theorem dX7_init_121 : decode cX7_init 121 = .ok (.ldc 64, 2) := by decide +kernel
theorem dX7_init_123 : decode cX7_init 123 = .ok (.iload_n 1, 1) := by decide +kernel
theorem dX7_init_124 : decode cX7_init 124 = .ok (.invokevirtual 72, 3) := by decide +kernel
theorem dX7_init_127 : decode cX7_init 127 = .ok (.invokevirtual 76, 3) := by decide +kernel
theorem dX7_init_130 : decode cX7_init 130 = .ok (.pop, 1) := by decide +kernel
theorem dX7_init_131 : decode cX7_init 131 = .ok (.iinc 1 1, 3) := by decide +kernel
theorem dX7_init_134 : decode cX7_init 134 = .ok (.goto (-26), 3) := by decide +kernel
theorem dX7_init_137 : decode cX7_init 137 = .ok (.aload_n 0, 1) := by decide +kernel
theorem dX7_init_138 : decode cX7_init 138 = .ok (.invokevirtual 80, 3) := by decide +kernel
theorem dX7_init_141 : decode cX7_init 141 = .ok (.pop, 1) := by decide +kernel
theorem dX7_init_142 : decode cX7_init 142 = .ok (.aload_n 0, 1) := by decide +kernel
theorem dX7_init_143 : decode cX7_init 143 = .ok (.getfield 10, 3) := by decide +kernel
theorem dX7_init_146 : decode cX7_init 146 = .ok (.invokevirtual 84, 3) := by decide +kernel
theorem dX7_init_149 : decode cX7_init 149 = .ok (.return_, 1) := by decide +kernel
set_option maxRecDepth 20000 in
theorem ggX7_write_X3_put : GoodIn wsX7_write wsX3_put := goodIn_r _ [7, 8, 9, 19, 20, 21, 22, 23, 24, 25, 26] (by decide +kernel) (by decide +kernel)
set_option maxRecDepth 20000 in
theorem gX7_write_X3_put : GoodIn wsX7_write (wsV RX7 76 RX3 yX3_put wsX3_put) := goodIn_app (goodIn_of _ (by decide +kernel)) ggX7_write_X3_put
theorem dX7_write_0 : decode cX7_write 0 = .ok (.iload_n 1, 1) := by decide +kernel
theorem dX7_write_1 : decode cX7_write 1 = .ok (.bipush 32, 2) := by decide +kernel
theorem dX7_write_3 : decode cX7_write 3 = .ok (.if_icmp .lt 9, 3) := by decide +kernel
theorem dX7_write_6 : decode cX7_write 6 = .ok (.iload_n 1, 1) := by decide +kernel
theorem dX7_write_7 : decode cX7_write 7 = .ok (.bipush 126, 2) := by decide +kernel
theorem dX7_write_9 : decode cX7_write 9 = .ok (.if_icmp .le 5, 3) := by decide +kernel
theorem dX7_write_12 : decode cX7_write 12 = .ok (.iconst (-1), 1) := by decide +kernel
theorem dX7_write_13 : decode cX7_write 13 = .ok (.ireturn, 1) := by decide +kernel
theorem dX7_write_14 : decode cX7_write 14 = .ok (.aload_n 0, 1) := by decide +kernel
theorem dX7_write_15 : decode cX7_write 15 = .ok (.getfield 10, 3) := by decide +kernel
theorem dX7_write_18 : decode cX7_write 18 = .ok (.iload_n 1, 1) := by decide +kernel
theorem dX7_write_19 : decode cX7_write 19 = .ok (.i2c, 1) := by decide +kernel
theorem dX7_write_20 : decode cX7_write 20 = .ok (.invokevirtual 76, 3) := by decide +kernel
theorem dX7_write_23 : decode cX7_write 23 = .ok (.ifCond .eq 13, 3) := by decide +kernel
theorem dX7_write_26 : decode cX7_write 26 = .ok (.aload_n 0, 1) := by decide +kernel
theorem dX7_write_27 : decode cX7_write 27 = .ok (.getfield 10, 3) := by decide +kernel
theorem dX7_write_30 : decode cX7_write 30 = .ok (.getfield 87, 3) := by decide +kernel
theorem dX7_write_33 : decode cX7_write 33 = .ok (.goto 5, 3) := by decide +kernel
theorem dX7_write_36 : decode cX7_write 36 = .ok (.bipush (-3), 2) := by decide +kernel
theorem dX7_write_38 : decode cX7_write 38 = .ok (.ireturn, 1) := by decide +kernel
set_option maxRecDepth 20000 in
theorem ggX7_wipe_X3_clear : GoodIn wsX7_wipe wsX3_clear := goodIn_r _ [7, 8, 18, 19, 20, 21, 22, 23, 24, 25] (by decide +kernel) (by decide +kernel)
set_option maxRecDepth 20000 in
theorem gX7_wipe_X3_clear : GoodIn wsX7_wipe (wsV RX7 84 RX3 yX3_clear wsX3_clear) := goodIn_app (goodIn_of _ (by decide +kernel)) ggX7_wipe_X3_clear
theorem dX7_wipe_0 : decode cX7_wipe 0 = .ok (.aload_n 0, 1) := by decide +kernel
theorem dX7_wipe_1 : decode cX7_wipe 1 = .ok (.getfield 10, 3) := by decide +kernel
theorem dX7_wipe_4 : decode cX7_wipe 4 = .ok (.getfield 87, 3) := by decide +kernel
theorem dX7_wipe_7 : decode cX7_wipe 7 = .ok (.istore_n 1, 1) := by decide +kernel
theorem dX7_wipe_8 : decode cX7_wipe 8 = .ok (.aload_n 0, 1) := by decide +kernel
theorem dX7_wipe_9 : decode cX7_wipe 9 = .ok (.getfield 10, 3) := by decide +kernel
theorem dX7_wipe_12 : decode cX7_wipe 12 = .ok (.invokevirtual 84, 3) := by decide +kernel
theorem dX7_wipe_15 : decode cX7_wipe 15 = .ok (.iload_n 1, 1) := by decide +kernel
theorem dX7_wipe_16 : decode cX7_wipe 16 = .ok (.ireturn, 1) := by decide +kernel
set_option maxRecDepth 20000 in
theorem ggX7_fault_X3_read : GoodIn wsX7_fault wsX3_read := goodIn_r _ [6, 7, 8, 9, 10, 11, 12, 13, 14, 15, 16, 17, 18, 19, 20, 21, 22, 23, 24, 25, 26, 27, 28, 29, 30, 31, 32, 5, 33, 34, 35, 36, 37, 38, 39, 40, 41, 42, 43, 44, 45, 46, 47, 48, 49, 50, 51, 52, 53, 54, 55, 56, 57, 58, 59, 60, 61, 62, 63, 64, 65, 66, 67, 68, 69, 70, 71, 72, 73, 74, 75, 76, 77, 78, 79, 80, 81, 82, 83, 84, 85, 86, 87, 88, 89, 90, 91, 92, 102, 103, 104, 105, 106, 107, 108, 109, 110, 111, 112, 113, 114, 115, 116, 117, 118, 119, 120] (by decide +kernel) (by decide +kernel)
set_option maxRecDepth 20000 in
theorem gX7_fault_X3_read : GoodIn wsX7_fault (wsV RX7 90 RX3 yX3_read wsX3_read) := goodIn_app (goodIn_of _ (by decide +kernel)) ggX7_fault_X3_read
theorem dX7_fault_0 : decode cX7_fault 0 = .ok (.aload_n 0, 1) := by decide +kernel
theorem dX7_fault_1 : decode cX7_fault 1 = .ok (.getfield 10, 3) := by decide +kernel
theorem dX7_fault_4 : decode cX7_fault 4 = .ok (.invokevirtual 90, 3) := by decide +kernel
theorem dX7_fault_7 : decode cX7_fault 7 = .ok (.ireturn, 1) := by decide +kernel
set_option maxRecDepth 20000 in
theorem ggX7_lay_X7_takeOver : GoodIn wsX7_lay wsX7_takeOver := goodIn_r _ [8, 9, 10, 11, 3, 12, 13, 14, 15, 16, 17, 18, 19, 20, 21, 22, 23, 24, 25, 26, 27, 28, 29, 30, 31, 32, 33, 34, 35, 36, 37, 38, 39, 40, 41, 42, 43, 44, 45, 46, 47, 48, 49, 50, 51, 52, 53, 54, 55, 56, 57, 58, 59, 60, 61, 62, 63, 64, 65, 66, 67, 68, 69, 70, 71, 72, 73, 74, 75, 76, 77, 78, 79, 80, 81, 7, 82, 83, 84, 85, 86, 87, 88, 89, 90, 91, 92, 93, 94, 95, 96, 97, 98, 99, 100, 101, 102, 103, 104, 105, 106, 107, 108, 109, 110, 111, 112, 113, 114, 115, 116, 117, 118, 126, 127, 128, 129, 130, 131, 132, 133, 134, 135, 136, 137, 138, 139, 140, 141, 142, 143, 144, 145, 146, 147, 148, 149, 150, 151, 152, 153] (by decide +kernel) (by decide +kernel)
set_option maxRecDepth 20000 in
theorem gX7_lay_X7_takeOver : GoodIn wsX7_lay (wsV RX7 80 RX7 yX7_takeOver wsX7_takeOver) := goodIn_app (goodIn_of _ (by decide +kernel)) ggX7_lay_X7_takeOver
set_option maxRecDepth 20000 in
theorem ggX7_lay_X2_clear : GoodIn wsX7_lay wsX2_clear := goodIn_r _ [123, 124, 154, 155] (by decide +kernel) (by decide +kernel)
set_option maxRecDepth 20000 in
theorem gX7_lay_X2_clear : GoodIn wsX7_lay (wsV RX7 93 RX2 yX2_clear wsX2_clear) := goodIn_app (goodIn_of _ (by decide +kernel)) ggX7_lay_X2_clear
set_option maxRecDepth 20000 in
theorem ggX7_lay_X1_places : GoodIn wsX7_lay wsX1_places := goodIn_r _ [80, 30, 31, 148, 149, 150, 151, 152, 153] (by decide +kernel) (by decide +kernel)
set_option maxRecDepth 20000 in
theorem gX7_lay_X1_places : GoodIn wsX7_lay (wsV RX7 94 RX1 yX1_places wsX1_places) := goodIn_app (goodIn_of _ (by decide +kernel)) ggX7_lay_X1_places
theorem dX7_lay_0 : decode cX7_lay 0 = .ok (.aload_n 0, 1) := by decide +kernel
theorem dX7_lay_1 : decode cX7_lay 1 = .ok (.invokevirtual 80, 3) := by decide +kernel
theorem dX7_lay_4 : decode cX7_lay 4 = .ok (.ifCond .ne 6, 3) := by decide +kernel
theorem dX7_lay_7 : decode cX7_lay 7 = .ok (.bipush (-2), 2) := by decide +kernel
theorem dX7_lay_9 : decode cX7_lay 9 = .ok (.ireturn, 1) := by decide +kernel
theorem dX7_lay_10 : decode cX7_lay 10 = .ok (.aload_n 0, 1) := by decide +kernel
theorem dX7_lay_11 : decode cX7_lay 11 = .ok (.getfield 43, 3) := by decide +kernel
theorem dX7_lay_14 : decode cX7_lay 14 = .ok (.invokevirtual 93, 3) := by decide +kernel
theorem dX7_lay_17 : decode cX7_lay 17 = .ok (.aload_n 0, 1) := by decide +kernel
theorem dX7_lay_18 : decode cX7_lay 18 = .ok (.getfield 47, 3) := by decide +kernel
theorem dX7_lay_21 : decode cX7_lay 21 = .ok (.invokevirtual 93, 3) := by decide +kernel
theorem dX7_lay_24 : decode cX7_lay 24 = .ok (.aload_n 0, 1) := by decide +kernel
theorem dX7_lay_25 : decode cX7_lay 25 = .ok (.getfield 27, 3) := by decide +kernel
theorem dX7_lay_28 : decode cX7_lay 28 = .ok (.invokevirtual 94, 3) := by decide +kernel
theorem dX7_lay_31 : decode cX7_lay 31 = .ok (.ireturn, 1) := by decide +kernel
set_option maxRecDepth 20000 in
theorem ggX7_place_X7_isPlace : GoodIn wsX7_place wsX7_isPlace := goodIn_r _ [7, 8, 9, 10, 11, 12, 13, 14, 15, 49, 50, 51, 52, 53, 54, 55, 56, 57, 63, 64, 65, 66, 67, 68] (by decide +kernel) (by decide +kernel)
set_option maxRecDepth 20000 in
theorem gX7_place_X7_isPlace : GoodIn wsX7_place (wsV RX7 99 RX7 yX7_isPlace wsX7_isPlace) := goodIn_app (goodIn_of _ (by decide +kernel)) ggX7_place_X7_isPlace
set_option maxRecDepth 20000 in
theorem ggX7_place_X7_isChoice : GoodIn wsX7_place wsX7_isChoice := goodIn_r _ [18] (by decide +kernel) (by decide +kernel)
set_option maxRecDepth 20000 in
theorem gX7_place_X7_isChoice : GoodIn wsX7_place (va_wsS RX7 103 yX7_isChoice wsX7_isChoice) := goodIn_app (goodIn_of _ (by decide +kernel)) ggX7_place_X7_isChoice
set_option maxRecDepth 20000 in
theorem ggX7_place_X7_present : GoodIn wsX7_place wsX7_present := goodIn_r _ [22, 23, 1, 2, 24, 25, 26, 27, 28, 29, 30, 31, 10, 11, 12, 13, 14, 15, 32, 6, 33, 49, 50, 51, 52, 53, 54, 55, 56, 57, 58, 59, 60, 61, 62, 69, 70, 71, 72, 73, 74, 63, 64, 65, 66, 67, 68] (by decide +kernel) (by decide +kernel)
set_option maxRecDepth 20000 in
theorem gX7_place_X7_present : GoodIn wsX7_place (wsV RX7 110 RX7 yX7_present wsX7_present) := goodIn_app (goodIn_of _ (by decide +kernel)) ggX7_place_X7_present
set_option maxRecDepth 20000 in
theorem ggX7_place_X0_seen : GoodIn wsX7_place wsX0_seen := goodIn_r _ [37, 30, 38, 39, 40, 12, 41, 15, 42, 43, 44, 45, 46, 47, 27, 48, 29, 32, 6, 33, 69, 70, 71, 72, 73, 74, 63, 64, 65, 66, 67, 68] (by decide +kernel) (by decide +kernel)
set_option maxRecDepth 20000 in
theorem gX7_place_X0_seen : GoodIn wsX7_place (wsV RX7 114 RX0 yX0_seen wsX0_seen) := goodIn_app (goodIn_of _ (by decide +kernel)) ggX7_place_X0_seen
theorem dX7_place_0 : decode cX7_place 0 = .ok (.aload_n 0, 1) := by decide +kernel
theorem dX7_place_1 : decode cX7_place 1 = .ok (.iload_n 1, 1) := by decide +kernel
theorem dX7_place_2 : decode cX7_place 2 = .ok (.invokevirtual 99, 3) := by decide +kernel
theorem dX7_place_5 : decode cX7_place 5 = .ok (.ifCond .eq 10, 3) := by decide +kernel
theorem dX7_place_8 : decode cX7_place 8 = .ok (.iload_n 2, 1) := by decide +kernel
theorem dX7_place_9 : decode cX7_place 9 = .ok (.invokestatic 103, 3) := by decide +kernel
theorem dX7_place_12 : decode cX7_place 12 = .ok (.ifCond .ne 5, 3) := by decide +kernel
theorem dX7_place_15 : decode cX7_place 15 = .ok (.iconst (-1), 1) := by decide +kernel
theorem dX7_place_16 : decode cX7_place 16 = .ok (.ireturn, 1) := by decide +kernel
theorem dX7_place_17 : decode cX7_place 17 = .ok (.iload_n 2, 1) := by decide +kernel
theorem dX7_place_18 : decode cX7_place 18 = .ok (.ifCond .ne 15, 3) := by decide +kernel
theorem dX7_place_21 : decode cX7_place 21 = .ok (.aload_n 0, 1) := by decide +kernel
theorem dX7_place_22 : decode cX7_place 22 = .ok (.getfield 31, 3) := by decide +kernel
theorem dX7_place_25 : decode cX7_place 25 = .ok (.getfield 106, 3) := by decide +kernel
theorem dX7_place_28 : decode cX7_place 28 = .ok (.iload_n 1, 1) := by decide +kernel
theorem dX7_place_29 : decode cX7_place 29 = .ok (.iaload, 1) := by decide +kernel
theorem dX7_place_30 : decode cX7_place 30 = .ok (.goto 11, 3) := by decide +kernel
theorem dX7_place_33 : decode cX7_place 33 = .ok (.aload_n 0, 1) := by decide +kernel
theorem dX7_place_34 : decode cX7_place 34 = .ok (.invokevirtual 110, 3) := by decide +kernel
theorem dX7_place_37 : decode cX7_place 37 = .ok (.iload_n 1, 1) := by decide +kernel
theorem dX7_place_38 : decode cX7_place 38 = .ok (.invokevirtual 114, 3) := by decide +kernel
theorem dX7_place_41 : decode cX7_place 41 = .ok (.ireturn, 1) := by decide +kernel
set_option maxRecDepth 20000 in
theorem ggX7_walk_X7_isWalk : GoodIn wsX7_walk wsX7_isWalk := goodIn_r _ [6, 1, 7, 24, 25, 26, 27, 28, 29, 30, 31, 32, 33, 34, 35, 36, 37] (by decide +kernel) (by decide +kernel)
set_option maxRecDepth 20000 in
theorem gX7_walk_X7_isWalk : GoodIn wsX7_walk (wsV RX7 118 RX7 yX7_isWalk wsX7_isWalk) := goodIn_app (goodIn_of _ (by decide +kernel)) ggX7_walk_X7_isWalk
set_option maxRecDepth 20000 in
theorem ggX7_walk_X5_kindOf : GoodIn wsX7_walk wsX5_kindOf := goodIn_r _ [12, 13, 33, 34, 35, 36, 37] (by decide +kernel) (by decide +kernel)
set_option maxRecDepth 20000 in
theorem gX7_walk_X5_kindOf : GoodIn wsX7_walk (wsV RX7 121 RX5 yX5_kindOf wsX5_kindOf) := goodIn_app (goodIn_of _ (by decide +kernel)) ggX7_walk_X5_kindOf
set_option maxRecDepth 20000 in
theorem ggX7_walk_X5_sizeOf : GoodIn wsX7_walk wsX5_sizeOf := goodIn_r _ [17, 18, 33, 34, 35, 36, 37] (by decide +kernel) (by decide +kernel)
set_option maxRecDepth 20000 in
theorem gX7_walk_X5_sizeOf : GoodIn wsX7_walk (wsV RX7 124 RX5 yX5_sizeOf wsX5_sizeOf) := goodIn_app (goodIn_of _ (by decide +kernel)) ggX7_walk_X5_sizeOf
set_option maxRecDepth 20000 in
theorem ggX7_walk_X5_toldMark : GoodIn wsX7_walk wsX5_toldMark := goodIn_r _ [22, 23, 33, 34, 35, 36, 37] (by decide +kernel) (by decide +kernel)
set_option maxRecDepth 20000 in
theorem gX7_walk_X5_toldMark : GoodIn wsX7_walk (wsV RX7 127 RX5 yX5_toldMark wsX5_toldMark) := goodIn_app (goodIn_of _ (by decide +kernel)) ggX7_walk_X5_toldMark
theorem dX7_walk_0 : decode cX7_walk 0 = .ok (.aload_n 0, 1) := by decide +kernel
theorem dX7_walk_1 : decode cX7_walk 1 = .ok (.iload_n 1, 1) := by decide +kernel
theorem dX7_walk_2 : decode cX7_walk 2 = .ok (.invokevirtual 118, 3) := by decide +kernel
theorem dX7_walk_5 : decode cX7_walk 5 = .ok (.ifCond .eq 9, 3) := by decide +kernel
theorem dX7_walk_8 : decode cX7_walk 8 = .ok (.iload_n 2, 1) := by decide +kernel
theorem dX7_walk_9 : decode cX7_walk 9 = .ok (.bipush (-2), 2) := by decide +kernel
theorem dX7_walk_11 : decode cX7_walk 11 = .ok (.if_icmp .ge 5, 3) := by decide +kernel
theorem dX7_walk_14 : decode cX7_walk 14 = .ok (.iconst (-1), 1) := by decide +kernel
theorem dX7_walk_15 : decode cX7_walk 15 = .ok (.ireturn, 1) := by decide +kernel
theorem dX7_walk_16 : decode cX7_walk 16 = .ok (.iload_n 2, 1) := by decide +kernel
theorem dX7_walk_17 : decode cX7_walk 17 = .ok (.bipush (-2), 2) := by decide +kernel
theorem dX7_walk_19 : decode cX7_walk 19 = .ok (.if_icmp .ne 12, 3) := by decide +kernel
theorem dX7_walk_22 : decode cX7_walk 22 = .ok (.aload_n 0, 1) := by decide +kernel
theorem dX7_walk_23 : decode cX7_walk 23 = .ok (.getfield 31, 3) := by decide +kernel
theorem dX7_walk_26 : decode cX7_walk 26 = .ok (.iload_n 1, 1) := by decide +kernel
theorem dX7_walk_27 : decode cX7_walk 27 = .ok (.invokevirtual 121, 3) := by decide +kernel
theorem dX7_walk_30 : decode cX7_walk 30 = .ok (.ireturn, 1) := by decide +kernel
theorem dX7_walk_31 : decode cX7_walk 31 = .ok (.iload_n 2, 1) := by decide +kernel
theorem dX7_walk_32 : decode cX7_walk 32 = .ok (.iconst (-1), 1) := by decide +kernel
theorem dX7_walk_33 : decode cX7_walk 33 = .ok (.if_icmp .ne 12, 3) := by decide +kernel
theorem dX7_walk_36 : decode cX7_walk 36 = .ok (.aload_n 0, 1) := by decide +kernel
theorem dX7_walk_37 : decode cX7_walk 37 = .ok (.getfield 31, 3) := by decide +kernel
theorem dX7_walk_40 : decode cX7_walk 40 = .ok (.iload_n 1, 1) := by decide +kernel
theorem dX7_walk_41 : decode cX7_walk 41 = .ok (.invokevirtual 124, 3) := by decide +kernel
theorem dX7_walk_44 : decode cX7_walk 44 = .ok (.ireturn, 1) := by decide +kernel
theorem dX7_walk_45 : decode cX7_walk 45 = .ok (.iload_n 2, 1) := by decide +kernel
theorem dX7_walk_46 : decode cX7_walk 46 = .ok (.aload_n 0, 1) := by decide +kernel
theorem dX7_walk_47 : decode cX7_walk 47 = .ok (.getfield 31, 3) := by decide +kernel
theorem dX7_walk_50 : decode cX7_walk 50 = .ok (.iload_n 1, 1) := by decide +kernel
theorem dX7_walk_51 : decode cX7_walk 51 = .ok (.invokevirtual 124, 3) := by decide +kernel
theorem dX7_walk_54 : decode cX7_walk 54 = .ok (.if_icmp .ge 15, 3) := by decide +kernel
theorem dX7_walk_57 : decode cX7_walk 57 = .ok (.aload_n 0, 1) := by decide +kernel
theorem dX7_walk_58 : decode cX7_walk 58 = .ok (.getfield 31, 3) := by decide +kernel
theorem dX7_walk_61 : decode cX7_walk 61 = .ok (.iload_n 1, 1) := by decide +kernel
theorem dX7_walk_62 : decode cX7_walk 62 = .ok (.iload_n 2, 1) := by decide +kernel
theorem dX7_walk_63 : decode cX7_walk 63 = .ok (.invokevirtual 127, 3) := by decide +kernel
theorem dX7_walk_66 : decode cX7_walk 66 = .ok (.goto 5, 3) := by decide +kernel
theorem dX7_walk_69 : decode cX7_walk 69 = .ok (.bipush (-4), 2) := by decide +kernel
theorem dX7_walk_71 : decode cX7_walk 71 = .ok (.ireturn, 1) := by decide +kernel
set_option maxRecDepth 20000 in
theorem ggX7_swap_X7_isPlace : GoodIn wsX7_swap wsX7_isPlace := goodIn_r _ [8, 9, 10, 11, 12, 13, 14, 15, 16, 46, 47, 48, 49, 50, 51, 52, 53, 54, 60, 61, 62, 63, 64, 65] (by decide +kernel) (by decide +kernel)
set_option maxRecDepth 20000 in
theorem gX7_swap_X7_isPlace : GoodIn wsX7_swap (wsV RX7 99 RX7 yX7_isPlace wsX7_isPlace) := goodIn_app (goodIn_of _ (by decide +kernel)) ggX7_swap_X7_isPlace
set_option maxRecDepth 20000 in
theorem ggX7_swap_X2_push : GoodIn wsX7_swap wsX2_push := goodIn_r _ [21, 22, 23, 24, 25, 26, 20, 27, 28, 29, 30, 31, 32, 33, 34, 35, 36, 37, 38, 39, 40, 41, 66, 67, 55, 56, 57, 58, 59] (by decide +kernel) (by decide +kernel)
set_option maxRecDepth 20000 in
theorem gX7_swap_X2_push : GoodIn wsX7_swap (wsV RX7 131 RX2 yX2_push wsX2_push) := goodIn_app (goodIn_of _ (by decide +kernel)) ggX7_swap_X2_push
set_option maxRecDepth 20000 in
theorem ggX7_swap_X5_trade : GoodIn wsX7_swap wsX5_trade := goodIn_r _ [45, 33, 55, 56, 57, 58, 59] (by decide +kernel) (by decide +kernel)
set_option maxRecDepth 20000 in
theorem gX7_swap_X5_trade : GoodIn wsX7_swap (wsV RX7 135 RX5 yX5_trade wsX5_trade) := goodIn_app (goodIn_of _ (by decide +kernel)) ggX7_swap_X5_trade
theorem dX7_swap_0 : decode cX7_swap 0 = .ok (.aload_n 0, 1) := by decide +kernel
theorem dX7_swap_1 : decode cX7_swap 1 = .ok (.iload_n 1, 1) := by decide +kernel
theorem dX7_swap_2 : decode cX7_swap 2 = .ok (.invokevirtual 99, 3) := by decide +kernel
theorem dX7_swap_5 : decode cX7_swap 5 = .ok (.ifCond .eq 16, 3) := by decide +kernel
theorem dX7_swap_8 : decode cX7_swap 8 = .ok (.aload_n 0, 1) := by decide +kernel
theorem dX7_swap_9 : decode cX7_swap 9 = .ok (.iload_n 2, 1) := by decide +kernel
theorem dX7_swap_10 : decode cX7_swap 10 = .ok (.invokevirtual 99, 3) := by decide +kernel
theorem dX7_swap_13 : decode cX7_swap 13 = .ok (.ifCond .eq 8, 3) := by decide +kernel
theorem dX7_swap_16 : decode cX7_swap 16 = .ok (.iload_n 1, 1) := by decide +kernel
theorem dX7_swap_17 : decode cX7_swap 17 = .ok (.iload_n 2, 1) := by decide +kernel
theorem dX7_swap_18 : decode cX7_swap 18 = .ok (.if_icmp .ne 5, 3) := by decide +kernel
theorem dX7_swap_21 : decode cX7_swap 21 = .ok (.iconst (-1), 1) := by decide +kernel
theorem dX7_swap_22 : decode cX7_swap 22 = .ok (.ireturn, 1) := by decide +kernel
theorem dX7_swap_23 : decode cX7_swap 23 = .ok (.aload_n 0, 1) := by decide +kernel
theorem dX7_swap_24 : decode cX7_swap 24 = .ok (.getfield 43, 3) := by decide +kernel
theorem dX7_swap_27 : decode cX7_swap 27 = .ok (.aload_n 0, 1) := by decide +kernel
theorem dX7_swap_28 : decode cX7_swap 28 = .ok (.getfield 31, 3) := by decide +kernel
theorem dX7_swap_31 : decode cX7_swap 31 = .ok (.invokevirtual 131, 3) := by decide +kernel
theorem dX7_swap_34 : decode cX7_swap 34 = .ok (.aload_n 0, 1) := by decide +kernel
theorem dX7_swap_35 : decode cX7_swap 35 = .ok (.getfield 31, 3) := by decide +kernel
theorem dX7_swap_38 : decode cX7_swap 38 = .ok (.iload_n 1, 1) := by decide +kernel
theorem dX7_swap_39 : decode cX7_swap 39 = .ok (.iload_n 2, 1) := by decide +kernel
theorem dX7_swap_40 : decode cX7_swap 40 = .ok (.invokevirtual 135, 3) := by decide +kernel
theorem dX7_swap_43 : decode cX7_swap 43 = .ok (.aload_n 0, 1) := by decide +kernel
theorem dX7_swap_44 : decode cX7_swap 44 = .ok (.getfield 31, 3) := by decide +kernel
theorem dX7_swap_47 : decode cX7_swap 47 = .ok (.getfield 106, 3) := by decide +kernel
theorem dX7_swap_50 : decode cX7_swap 50 = .ok (.iload_n 1, 1) := by decide +kernel
theorem dX7_swap_51 : decode cX7_swap 51 = .ok (.iaload, 1) := by decide +kernel
theorem dX7_swap_52 : decode cX7_swap 52 = .ok (.ireturn, 1) := by decide +kernel
set_option maxRecDepth 20000 in
theorem ggX7_alter_X7_isPlace : GoodIn wsX7_alter wsX7_isPlace := goodIn_r _ [8, 9, 10, 11, 12, 13, 14, 15, 16, 45, 46, 47, 48, 49, 50, 51, 52, 53, 59, 60, 61, 62, 63, 64] (by decide +kernel) (by decide +kernel)
set_option maxRecDepth 20000 in
theorem gX7_alter_X7_isPlace : GoodIn wsX7_alter (wsV RX7 99 RX7 yX7_isPlace wsX7_isPlace) := goodIn_app (goodIn_of _ (by decide +kernel)) ggX7_alter_X7_isPlace
set_option maxRecDepth 20000 in
theorem ggX7_alter_X7_isMark : GoodIn wsX7_alter wsX7_isMark := goodIn_r _ [19] (by decide +kernel) (by decide +kernel)
set_option maxRecDepth 20000 in
theorem gX7_alter_X7_isMark : GoodIn wsX7_alter (va_wsS RX7 139 yX7_isMark wsX7_isMark) := goodIn_app (goodIn_of _ (by decide +kernel)) ggX7_alter_X7_isMark
set_option maxRecDepth 20000 in
theorem ggX7_alter_X2_push : GoodIn wsX7_alter wsX2_push := goodIn_r _ [24, 25, 26, 27, 28, 29, 23, 30, 31, 32, 33, 34, 35, 36, 37, 38, 39, 40, 41, 42, 43, 44, 65, 66, 54, 55, 56, 57, 58] (by decide +kernel) (by decide +kernel)
set_option maxRecDepth 20000 in
theorem gX7_alter_X2_push : GoodIn wsX7_alter (wsV RX7 131 RX2 yX2_push wsX2_push) := goodIn_app (goodIn_of _ (by decide +kernel)) ggX7_alter_X2_push
theorem dX7_alter_0 : decode cX7_alter 0 = .ok (.aload_n 0, 1) := by decide +kernel
theorem dX7_alter_1 : decode cX7_alter 1 = .ok (.iload_n 1, 1) := by decide +kernel
theorem dX7_alter_2 : decode cX7_alter 2 = .ok (.invokevirtual 99, 3) := by decide +kernel
theorem dX7_alter_5 : decode cX7_alter 5 = .ok (.ifCond .eq 10, 3) := by decide +kernel
theorem dX7_alter_8 : decode cX7_alter 8 = .ok (.iload_n 2, 1) := by decide +kernel
theorem dX7_alter_9 : decode cX7_alter 9 = .ok (.invokestatic 139, 3) := by decide +kernel
theorem dX7_alter_12 : decode cX7_alter 12 = .ok (.ifCond .ne 5, 3) := by decide +kernel
theorem dX7_alter_15 : decode cX7_alter 15 = .ok (.iconst (-1), 1) := by decide +kernel
theorem dX7_alter_16 : decode cX7_alter 16 = .ok (.ireturn, 1) := by decide +kernel
theorem dX7_alter_17 : decode cX7_alter 17 = .ok (.aload_n 0, 1) := by decide +kernel
theorem dX7_alter_18 : decode cX7_alter 18 = .ok (.getfield 43, 3) := by decide +kernel
theorem dX7_alter_21 : decode cX7_alter 21 = .ok (.aload_n 0, 1) := by decide +kernel
theorem dX7_alter_22 : decode cX7_alter 22 = .ok (.getfield 31, 3) := by decide +kernel
theorem dX7_alter_25 : decode cX7_alter 25 = .ok (.invokevirtual 131, 3) := by decide +kernel
theorem dX7_alter_28 : decode cX7_alter 28 = .ok (.aload_n 0, 1) := by decide +kernel
theorem dX7_alter_29 : decode cX7_alter 29 = .ok (.getfield 31, 3) := by decide +kernel
theorem dX7_alter_32 : decode cX7_alter 32 = .ok (.getfield 106, 3) := by decide +kernel
theorem dX7_alter_35 : decode cX7_alter 35 = .ok (.iload_n 1, 1) := by decide +kernel
theorem dX7_alter_36 : decode cX7_alter 36 = .ok (.iaload, 1) := by decide +kernel
theorem dX7_alter_37 : decode cX7_alter 37 = .ok (.istore_n 3, 1) := by decide +kernel
theorem dX7_alter_38 : decode cX7_alter 38 = .ok (.aload_n 0, 1) := by decide +kernel
theorem dX7_alter_39 : decode cX7_alter 39 = .ok (.getfield 31, 3) := by decide +kernel
theorem dX7_alter_42 : decode cX7_alter 42 = .ok (.getfield 106, 3) := by decide +kernel
theorem dX7_alter_45 : decode cX7_alter 45 = .ok (.iload_n 1, 1) := by decide +kernel
theorem dX7_alter_46 : decode cX7_alter 46 = .ok (.iload_n 2, 1) := by decide +kernel
theorem dX7_alter_47 : decode cX7_alter 47 = .ok (.iastore, 1) := by decide +kernel
theorem dX7_alter_48 : decode cX7_alter 48 = .ok (.iload_n 3, 1) := by decide +kernel
theorem dX7_alter_49 : decode cX7_alter 49 = .ok (.ireturn, 1) := by decide +kernel
set_option maxRecDepth 20000 in
theorem ggX7_tell_X7_isKind : GoodIn wsX7_tell wsX7_isKind := goodIn_r _ [7] (by decide +kernel) (by decide +kernel)
set_option maxRecDepth 20000 in
theorem gX7_tell_X7_isKind : GoodIn wsX7_tell (va_wsS RX7 142 yX7_isKind wsX7_isKind) := goodIn_app (goodIn_of _ (by decide +kernel)) ggX7_tell_X7_isKind
set_option maxRecDepth 20000 in
theorem ggX7_tell_X7_areFigures : GoodIn wsX7_tell wsX7_areFigures := goodIn_r _ [10, 11] (by decide +kernel) (by decide +kernel)
set_option maxRecDepth 20000 in
theorem gX7_tell_X7_areFigures : GoodIn wsX7_tell (va_wsS RX7 145 yX7_areFigures wsX7_areFigures) := goodIn_app (goodIn_of _ (by decide +kernel)) ggX7_tell_X7_areFigures
set_option maxRecDepth 20000 in
theorem ggX7_tell_X2_push : GoodIn wsX7_tell wsX2_push := goodIn_r _ [16, 17, 18, 19, 20, 21, 15, 22, 23, 24, 25, 26, 27, 28, 29, 30, 31, 32, 33, 34, 35, 36, 59, 60, 54, 55, 56, 57, 58] (by decide +kernel) (by decide +kernel)
set_option maxRecDepth 20000 in
theorem gX7_tell_X2_push : GoodIn wsX7_tell (wsV RX7 131 RX2 yX2_push wsX2_push) := goodIn_app (goodIn_of _ (by decide +kernel)) ggX7_tell_X2_push
set_option maxRecDepth 20000 in
theorem ggX7_tell_X5_begin : GoodIn wsX7_tell wsX5_begin := goodIn_r _ [40, 36, 33, 34, 54, 55, 56, 57, 58] (by decide +kernel) (by decide +kernel)
set_option maxRecDepth 20000 in
theorem gX7_tell_X5_begin : GoodIn wsX7_tell (wsV RX7 151 RX5 yX5_begin wsX5_begin) := goodIn_app (goodIn_of _ (by decide +kernel)) ggX7_tell_X5_begin
set_option maxRecDepth 20000 in
theorem ggX7_tell_X5_append : GoodIn wsX7_tell wsX5_append := goodIn_r _ [44, 36, 34, 35, 54, 55, 56, 57, 58] (by decide +kernel) (by decide +kernel)
set_option maxRecDepth 20000 in
theorem gX7_tell_X5_append : GoodIn wsX7_tell (wsV RX7 154 RX5 yX5_append wsX5_append) := goodIn_app (goodIn_of _ (by decide +kernel)) ggX7_tell_X5_append
theorem dX7_tell_0 : decode cX7_tell 0 = .ok (.iload_n 1, 1) := by decide +kernel
theorem dX7_tell_1 : decode cX7_tell 1 = .ok (.invokestatic 142, 3) := by decide +kernel
theorem dX7_tell_4 : decode cX7_tell 4 = .ok (.ifCond .eq 10, 3) := by decide +kernel
theorem dX7_tell_7 : decode cX7_tell 7 = .ok (.iload_n 2, 1) := by decide +kernel
theorem dX7_tell_8 : decode cX7_tell 8 = .ok (.invokestatic 145, 3) := by decide +kernel
theorem dX7_tell_11 : decode cX7_tell 11 = .ok (.ifCond .ne 5, 3) := by decide +kernel
theorem dX7_tell_14 : decode cX7_tell 14 = .ok (.iconst (-1), 1) := by decide +kernel
theorem dX7_tell_15 : decode cX7_tell 15 = .ok (.ireturn, 1) := by decide +kernel
theorem dX7_tell_16 : decode cX7_tell 16 = .ok (.aload_n 0, 1) := by decide +kernel
theorem dX7_tell_17 : decode cX7_tell 17 = .ok (.getfield 31, 3) := by decide +kernel
theorem dX7_tell_20 : decode cX7_tell 20 = .ok (.getfield 148, 3) := by decide +kernel
theorem dX7_tell_23 : decode cX7_tell 23 = .ok (.iconst 5, 1) := by decide +kernel
theorem dX7_tell_24 : decode cX7_tell 24 = .ok (.if_icmp .lt 6, 3) := by decide +kernel
theorem dX7_tell_27 : decode cX7_tell 27 = .ok (.bipush (-3), 2) := by decide +kernel
theorem dX7_tell_29 : decode cX7_tell 29 = .ok (.ireturn, 1) := by decide +kernel
theorem dX7_tell_30 : decode cX7_tell 30 = .ok (.aload_n 0, 1) := by decide +kernel
theorem dX7_tell_31 : decode cX7_tell 31 = .ok (.getfield 43, 3) := by decide +kernel
theorem dX7_tell_34 : decode cX7_tell 34 = .ok (.aload_n 0, 1) := by decide +kernel
theorem dX7_tell_35 : decode cX7_tell 35 = .ok (.getfield 31, 3) := by decide +kernel
theorem dX7_tell_38 : decode cX7_tell 38 = .ok (.invokevirtual 131, 3) := by decide +kernel
theorem dX7_tell_41 : decode cX7_tell 41 = .ok (.aload_n 0, 1) := by decide +kernel
theorem dX7_tell_42 : decode cX7_tell 42 = .ok (.getfield 31, 3) := by decide +kernel
theorem dX7_tell_45 : decode cX7_tell 45 = .ok (.iload_n 1, 1) := by decide +kernel
theorem dX7_tell_46 : decode cX7_tell 46 = .ok (.invokevirtual 151, 3) := by decide +kernel
theorem dX7_tell_49 : decode cX7_tell 49 = .ok (.pop, 1) := by decide +kernel
theorem dX7_tell_50 : decode cX7_tell 50 = .ok (.sipush 10000, 3) := by decide +kernel
theorem dX7_tell_53 : decode cX7_tell 53 = .ok (.istore_n 3, 1) := by decide +kernel
theorem dX7_tell_54 : decode cX7_tell 54 = .ok (.iload_n 3, 1) := by decide +kernel
theorem dX7_tell_55 : decode cX7_tell 55 = .ok (.ifCond .le 32, 3) := by decide +kernel
theorem dX7_tell_58 : decode cX7_tell 58 = .ok (.iload_n 2, 1) := by decide +kernel
theorem dX7_tell_59 : decode cX7_tell 59 = .ok (.iload_n 3, 1) := by decide +kernel
theorem dX7_tell_60 : decode cX7_tell 60 = .ok (.if_icmp .lt 19, 3) := by decide +kernel
theorem dX7_tell_63 : decode cX7_tell 63 = .ok (.aload_n 0, 1) := by decide +kernel
theorem dX7_tell_64 : decode cX7_tell 64 = .ok (.getfield 31, 3) := by decide +kernel
theorem dX7_tell_67 : decode cX7_tell 67 = .ok (.iload_n 2, 1) := by decide +kernel
theorem dX7_tell_68 : decode cX7_tell 68 = .ok (.iload_n 3, 1) := by decide +kernel
theorem dX7_tell_69 : decode cX7_tell 69 = .ok (.idiv, 1) := by decide +kernel
theorem dX7_tell_70 : decode cX7_tell 70 = .ok (.bipush 10, 2) := by decide +kernel
theorem dX7_tell_72 : decode cX7_tell 72 = .ok (.irem, 1) := by decide +kernel
theorem dX7_tell_73 : decode cX7_tell 73 = .ok (.iconst 1, 1) := by decide +kernel
theorem dX7_tell_74 : decode cX7_tell 74 = .ok (.isub, 1) := by decide +kernel
theorem dX7_tell_75 : decode cX7_tell 75 = .ok (.invokevirtual 154, 3) := by decide +kernel
theorem dX7_tell_78 : decode cX7_tell 78 = .ok (.pop, 1) := by decide +kernel
theorem dX7_tell_79 : decode cX7_tell 79 = .ok (.iload_n 3, 1) := by decide +kernel
theorem dX7_tell_80 : decode cX7_tell 80 = .ok (.bipush 10, 2) := by decide +kernel
theorem dX7_tell_82 : decode cX7_tell 82 = .ok (.idiv, 1) := by decide +kernel
theorem dX7_tell_83 : decode cX7_tell 83 = .ok (.istore_n 3, 1) := by decide +kernel
theorem dX7_tell_84 : decode cX7_tell 84 = .ok (.goto (-30), 3) := by decide +kernel
theorem dX7_tell_87 : decode cX7_tell 87 = .ok (.aload_n 0, 1) := by decide +kernel
theorem dX7_tell_88 : decode cX7_tell 88 = .ok (.getfield 31, 3) := by decide +kernel
theorem dX7_tell_91 : decode cX7_tell 91 = .ok (.getfield 148, 3) := by decide +kernel
theorem dX7_tell_94 : decode cX7_tell 94 = .ok (.ireturn, 1) := by decide +kernel
set_option maxRecDepth 20000 in
theorem ggX7_strike_X7_isWalk : GoodIn wsX7_strike wsX7_isWalk := goodIn_r _ [8, 2, 3, 38, 39, 40, 41, 42, 43, 44, 45, 46, 47, 48, 49, 50, 51] (by decide +kernel) (by decide +kernel)
set_option maxRecDepth 20000 in
theorem gX7_strike_X7_isWalk : GoodIn wsX7_strike (wsV RX7 118 RX7 yX7_isWalk wsX7_isWalk) := goodIn_app (goodIn_of _ (by decide +kernel)) ggX7_strike_X7_isWalk
set_option maxRecDepth 20000 in
theorem ggX7_strike_X2_push : GoodIn wsX7_strike wsX2_push := goodIn_r _ [13, 14, 15, 16, 17, 18, 12, 19, 20, 21, 22, 23, 24, 25, 26, 27, 28, 29, 30, 31, 32, 33, 52, 53, 47, 48, 49, 50, 51] (by decide +kernel) (by decide +kernel)
set_option maxRecDepth 20000 in
theorem gX7_strike_X2_push : GoodIn wsX7_strike (wsV RX7 131 RX2 yX2_push wsX2_push) := goodIn_app (goodIn_of _ (by decide +kernel)) ggX7_strike_X2_push
set_option maxRecDepth 20000 in
theorem ggX7_strike_X5_drop : GoodIn wsX7_strike wsX5_drop := goodIn_r _ [37, 33, 30, 31, 32, 47, 48, 49, 50, 51] (by decide +kernel) (by decide +kernel)
set_option maxRecDepth 20000 in
theorem gX7_strike_X5_drop : GoodIn wsX7_strike (wsV RX7 157 RX5 yX5_drop wsX5_drop) := goodIn_app (goodIn_of _ (by decide +kernel)) ggX7_strike_X5_drop
theorem dX7_strike_0 : decode cX7_strike 0 = .ok (.aload_n 0, 1) := by decide +kernel
theorem dX7_strike_1 : decode cX7_strike 1 = .ok (.iload_n 1, 1) := by decide +kernel
theorem dX7_strike_2 : decode cX7_strike 2 = .ok (.invokevirtual 118, 3) := by decide +kernel
theorem dX7_strike_5 : decode cX7_strike 5 = .ok (.ifCond .ne 5, 3) := by decide +kernel
theorem dX7_strike_8 : decode cX7_strike 8 = .ok (.iconst (-1), 1) := by decide +kernel
theorem dX7_strike_9 : decode cX7_strike 9 = .ok (.ireturn, 1) := by decide +kernel
theorem dX7_strike_10 : decode cX7_strike 10 = .ok (.aload_n 0, 1) := by decide +kernel
theorem dX7_strike_11 : decode cX7_strike 11 = .ok (.getfield 43, 3) := by decide +kernel
theorem dX7_strike_14 : decode cX7_strike 14 = .ok (.aload_n 0, 1) := by decide +kernel
theorem dX7_strike_15 : decode cX7_strike 15 = .ok (.getfield 31, 3) := by decide +kernel
theorem dX7_strike_18 : decode cX7_strike 18 = .ok (.invokevirtual 131, 3) := by decide +kernel
theorem dX7_strike_21 : decode cX7_strike 21 = .ok (.aload_n 0, 1) := by decide +kernel
theorem dX7_strike_22 : decode cX7_strike 22 = .ok (.getfield 31, 3) := by decide +kernel
theorem dX7_strike_25 : decode cX7_strike 25 = .ok (.iload_n 1, 1) := by decide +kernel
theorem dX7_strike_26 : decode cX7_strike 26 = .ok (.invokevirtual 157, 3) := by decide +kernel
theorem dX7_strike_29 : decode cX7_strike 29 = .ok (.aload_n 0, 1) := by decide +kernel
theorem dX7_strike_30 : decode cX7_strike 30 = .ok (.getfield 31, 3) := by decide +kernel
theorem dX7_strike_33 : decode cX7_strike 33 = .ok (.getfield 148, 3) := by decide +kernel
theorem dX7_strike_36 : decode cX7_strike 36 = .ok (.ireturn, 1) := by decide +kernel
set_option maxRecDepth 20000 in
theorem ggX7_undo_X2_pop : GoodIn wsX7_undo wsX2_pop := goodIn_r _ [8, 9, 10, 11, 12, 13, 14, 15, 16, 17, 18, 19, 20, 21, 22, 23, 24, 34, 35, 36, 37, 38, 39, 40] (by decide +kernel) (by decide +kernel)
set_option maxRecDepth 20000 in
theorem gX7_undo_X2_pop : GoodIn wsX7_undo (wsV RX7 160 RX2 yX2_pop wsX2_pop) := goodIn_app (goodIn_of _ (by decide +kernel)) ggX7_undo_X2_pop
theorem dX7_undo_0 : decode cX7_undo 0 = .ok (.aload_n 0, 1) := by decide +kernel
theorem dX7_undo_1 : decode cX7_undo 1 = .ok (.getfield 43, 3) := by decide +kernel
theorem dX7_undo_4 : decode cX7_undo 4 = .ok (.aload_n 0, 1) := by decide +kernel
theorem dX7_undo_5 : decode cX7_undo 5 = .ok (.getfield 31, 3) := by decide +kernel
theorem dX7_undo_8 : decode cX7_undo 8 = .ok (.invokevirtual 160, 3) := by decide +kernel
theorem dX7_undo_11 : decode cX7_undo 11 = .ok (.ifCond .eq 13, 3) := by decide +kernel
theorem dX7_undo_14 : decode cX7_undo 14 = .ok (.aload_n 0, 1) := by decide +kernel
theorem dX7_undo_15 : decode cX7_undo 15 = .ok (.getfield 43, 3) := by decide +kernel
theorem dX7_undo_18 : decode cX7_undo 18 = .ok (.getfield 164, 3) := by decide +kernel
theorem dX7_undo_21 : decode cX7_undo 21 = .ok (.goto 5, 3) := by decide +kernel
theorem dX7_undo_24 : decode cX7_undo 24 = .ok (.bipush (-2), 2) := by decide +kernel
theorem dX7_undo_26 : decode cX7_undo 26 = .ok (.ireturn, 1) := by decide +kernel
set_option maxRecDepth 20000 in
theorem ggX7_ways_X7_isWalk : GoodIn wsX7_ways wsX7_isWalk := goodIn_r _ [6, 1, 7, 100, 101, 102, 103, 104, 105, 106, 107, 108, 109, 110, 111, 112, 113] (by decide +kernel) (by decide +kernel)
set_option maxRecDepth 20000 in
theorem gX7_ways_X7_isWalk : GoodIn wsX7_ways (wsV RX7 118 RX7 yX7_isWalk wsX7_isWalk) := goodIn_app (goodIn_of _ (by decide +kernel)) ggX7_ways_X7_isWalk
set_option maxRecDepth 20000 in
theorem ggX7_ways_X7_present : GoodIn wsX7_ways wsX7_present := goodIn_r _ [11, 12, 1, 13, 14, 15, 16, 17, 18, 19, 20, 21, 22, 23, 24, 25, 26, 27, 28, 5, 29, 100, 101, 102, 103, 104, 105, 106, 107, 108, 109, 110, 111, 112, 113, 114, 115, 116, 117, 118, 119, 120, 121, 122, 123, 124, 125] (by decide +kernel) (by decide +kernel)
set_option maxRecDepth 20000 in
theorem gX7_ways_X7_present : GoodIn wsX7_ways (wsV RX7 110 RX7 yX7_present wsX7_present) := goodIn_app (goodIn_of _ (by decide +kernel)) ggX7_ways_X7_present
set_option maxRecDepth 20000 in
theorem ggX7_ways_X0_rowsOf : GoodIn wsX7_ways wsX0_rowsOf := goodIn_r _ [33, 34, 35, 36, 37, 38, 39, 40, 41, 42, 43, 44, 45, 46, 47, 48, 49, 50, 51, 52, 53, 54, 55, 56, 57, 58, 17, 59, 19, 28, 5, 29, 60, 61, 62, 63, 64, 65, 20, 66, 67, 68, 69, 70, 71, 72, 24, 73, 74, 75, 76, 77, 78, 79, 80, 81, 27, 82, 83, 84, 85, 86, 87, 88, 89, 90, 91, 92, 93, 94, 95, 96, 97, 98, 99, 114, 115, 116, 117, 118, 119, 109, 110, 111, 112, 113, 120, 121, 122, 123, 124, 125] (by decide +kernel) (by decide +kernel)
set_option maxRecDepth 20000 in
theorem gX7_ways_X0_rowsOf : GoodIn wsX7_ways (wsV RX7 167 RX0 yX0_rowsOf wsX0_rowsOf) := goodIn_app (goodIn_of _ (by decide +kernel)) ggX7_ways_X0_rowsOf
theorem dX7_ways_0 : decode cX7_ways 0 = .ok (.aload_n 0, 1) := by decide +kernel
theorem dX7_ways_1 : decode cX7_ways 1 = .ok (.iload_n 1, 1) := by decide +kernel
theorem dX7_ways_2 : decode cX7_ways 2 = .ok (.invokevirtual 118, 3) := by decide +kernel
theorem dX7_ways_5 : decode cX7_ways 5 = .ok (.ifCond .eq 18, 3) := by decide +kernel
theorem dX7_ways_8 : decode cX7_ways 8 = .ok (.aload_n 0, 1) := by decide +kernel
theorem dX7_ways_9 : decode cX7_ways 9 = .ok (.invokevirtual 110, 3) := by decide +kernel
theorem dX7_ways_12 : decode cX7_ways 12 = .ok (.aload_n 0, 1) := by decide +kernel
theorem dX7_ways_13 : decode cX7_ways 13 = .ok (.getfield 31, 3) := by decide +kernel
theorem dX7_ways_16 : decode cX7_ways 16 = .ok (.iload_n 1, 1) := by decide +kernel
theorem dX7_ways_17 : decode cX7_ways 17 = .ok (.invokevirtual 167, 3) := by decide +kernel
theorem dX7_ways_20 : decode cX7_ways 20 = .ok (.goto 4, 3) := by decide +kernel
theorem dX7_ways_23 : decode cX7_ways 23 = .ok (.iconst (-1), 1) := by decide +kernel
theorem dX7_ways_24 : decode cX7_ways 24 = .ok (.ireturn, 1) := by decide +kernel
set_option maxRecDepth 20000 in
theorem ggX7_first_X7_isWalk : GoodIn wsX7_first wsX7_isWalk := goodIn_r _ [6, 1, 7, 104, 105, 106, 107, 108, 109, 110, 111, 112, 113, 114, 115, 116, 117] (by decide +kernel) (by decide +kernel)
set_option maxRecDepth 20000 in
theorem gX7_first_X7_isWalk : GoodIn wsX7_first (wsV RX7 118 RX7 yX7_isWalk wsX7_isWalk) := goodIn_app (goodIn_of _ (by decide +kernel)) ggX7_first_X7_isWalk
set_option maxRecDepth 20000 in
theorem ggX7_first_X5_sizeOf : GoodIn wsX7_first wsX5_sizeOf := goodIn_r _ [12, 13, 113, 114, 115, 116, 117] (by decide +kernel) (by decide +kernel)
set_option maxRecDepth 20000 in
theorem gX7_first_X5_sizeOf : GoodIn wsX7_first (wsV RX7 124 RX5 yX5_sizeOf wsX5_sizeOf) := goodIn_app (goodIn_of _ (by decide +kernel)) ggX7_first_X5_sizeOf
set_option maxRecDepth 20000 in
theorem ggX7_first_X7_present : GoodIn wsX7_first wsX7_present := goodIn_r _ [17, 18, 1, 19, 20, 21, 22, 23, 24, 25, 26, 27, 28, 29, 30, 31, 32, 33, 34, 5, 35, 104, 105, 106, 107, 108, 109, 110, 111, 112, 113, 114, 115, 116, 117, 118, 119, 120, 121, 122, 123, 124, 125, 126, 127, 128, 129] (by decide +kernel) (by decide +kernel)
set_option maxRecDepth 20000 in
theorem gX7_first_X7_present : GoodIn wsX7_first (wsV RX7 110 RX7 yX7_present wsX7_present) := goodIn_app (goodIn_of _ (by decide +kernel)) ggX7_first_X7_present
set_option maxRecDepth 20000 in
theorem ggX7_first_X0_onFirstRow : GoodIn wsX7_first wsX0_onFirstRow := goodIn_r _ [39, 40, 26, 41, 42, 43, 23, 44, 45, 46, 47, 48, 49, 50, 9, 10, 11, 12, 13, 51, 52, 53, 54, 55, 56, 57, 58, 30, 59, 60, 61, 62, 63, 64, 65, 66, 67, 33, 68, 69, 70, 71, 72, 73, 74, 75, 76, 77, 78, 79, 80, 81, 82, 83, 84, 85, 86, 87, 88, 89, 90, 91, 92, 93, 94, 95, 96, 97, 98, 99, 100, 25, 34, 5, 35, 101, 102, 103, 118, 119, 120, 121, 122, 123, 124, 125, 126, 127, 128, 129, 113, 114, 115, 116, 117] (by decide +kernel) (by decide +kernel)
set_option maxRecDepth 20000 in
theorem gX7_first_X0_onFirstRow : GoodIn wsX7_first (wsV RX7 171 RX0 yX0_onFirstRow wsX0_onFirstRow) := goodIn_app (goodIn_of _ (by decide +kernel)) ggX7_first_X0_onFirstRow
theorem dX7_first_0 : decode cX7_first 0 = .ok (.aload_n 0, 1) := by decide +kernel
theorem dX7_first_1 : decode cX7_first 1 = .ok (.iload_n 1, 1) := by decide +kernel
theorem dX7_first_2 : decode cX7_first 2 = .ok (.invokevirtual 118, 3) := by decide +kernel
theorem dX7_first_5 : decode cX7_first 5 = .ok (.ifCond .eq 7, 3) := by decide +kernel
theorem dX7_first_8 : decode cX7_first 8 = .ok (.iload_n 2, 1) := by decide +kernel
theorem dX7_first_9 : decode cX7_first 9 = .ok (.ifCond .ge 5, 3) := by decide +kernel
theorem dX7_first_12 : decode cX7_first 12 = .ok (.iconst (-1), 1) := by decide +kernel
theorem dX7_first_13 : decode cX7_first 13 = .ok (.ireturn, 1) := by decide +kernel
theorem dX7_first_14 : decode cX7_first 14 = .ok (.iload_n 2, 1) := by decide +kernel
theorem dX7_first_15 : decode cX7_first 15 = .ok (.aload_n 0, 1) := by decide +kernel
theorem dX7_first_16 : decode cX7_first 16 = .ok (.getfield 31, 3) := by decide +kernel
theorem dX7_first_19 : decode cX7_first 19 = .ok (.iload_n 1, 1) := by decide +kernel
theorem dX7_first_20 : decode cX7_first 20 = .ok (.invokevirtual 124, 3) := by decide +kernel
theorem dX7_first_23 : decode cX7_first 23 = .ok (.if_icmp .ge 19, 3) := by decide +kernel
theorem dX7_first_26 : decode cX7_first 26 = .ok (.aload_n 0, 1) := by decide +kernel
theorem dX7_first_27 : decode cX7_first 27 = .ok (.invokevirtual 110, 3) := by decide +kernel
theorem dX7_first_30 : decode cX7_first 30 = .ok (.aload_n 0, 1) := by decide +kernel
theorem dX7_first_31 : decode cX7_first 31 = .ok (.getfield 31, 3) := by decide +kernel
theorem dX7_first_34 : decode cX7_first 34 = .ok (.iload_n 1, 1) := by decide +kernel
theorem dX7_first_35 : decode cX7_first 35 = .ok (.iload_n 2, 1) := by decide +kernel
theorem dX7_first_36 : decode cX7_first 36 = .ok (.invokevirtual 171, 3) := by decide +kernel
theorem dX7_first_39 : decode cX7_first 39 = .ok (.goto 5, 3) := by decide +kernel
theorem dX7_first_42 : decode cX7_first 42 = .ok (.bipush (-4), 2) := by decide +kernel
theorem dX7_first_44 : decode cX7_first 44 = .ok (.ireturn, 1) := by decide +kernel
set_option maxRecDepth 20000 in
theorem ggX7_ends_X7_isWalk : GoodIn wsX7_ends wsX7_isWalk := goodIn_r _ [6, 1, 7, 96, 97, 98, 99, 100, 101, 102, 103, 104, 105, 106, 107, 108, 109] (by decide +kernel) (by decide +kernel)
set_option maxRecDepth 20000 in
theorem gX7_ends_X7_isWalk : GoodIn wsX7_ends (wsV RX7 118 RX7 yX7_isWalk wsX7_isWalk) := goodIn_app (goodIn_of _ (by decide +kernel)) ggX7_ends_X7_isWalk
set_option maxRecDepth 20000 in
theorem ggX7_ends_X7_present : GoodIn wsX7_ends wsX7_present := goodIn_r _ [11, 12, 1, 13, 14, 15, 16, 17, 18, 19, 20, 21, 22, 23, 24, 25, 26, 27, 28, 5, 29, 96, 97, 98, 99, 100, 101, 102, 103, 104, 105, 106, 107, 108, 109, 110, 111, 112, 113, 114, 115, 116, 117, 118, 119, 120, 121] (by decide +kernel) (by decide +kernel)
set_option maxRecDepth 20000 in
theorem gX7_ends_X7_present : GoodIn wsX7_ends (wsV RX7 110 RX7 yX7_present wsX7_present) := goodIn_app (goodIn_of _ (by decide +kernel)) ggX7_ends_X7_present
set_option maxRecDepth 20000 in
theorem ggX7_ends_X0_endsOf : GoodIn wsX7_ends wsX0_endsOf := goodIn_r _ [33, 20, 34, 35, 36, 37, 17, 38, 39, 40, 41, 42, 43, 44, 45, 46, 47, 48, 49, 50, 51, 52, 53, 54, 55, 56, 57, 58, 59, 60, 61, 62, 63, 19, 28, 5, 29, 64, 65, 66, 67, 68, 24, 69, 70, 71, 72, 73, 74, 75, 76, 77, 27, 78, 79, 80, 81, 82, 83, 84, 85, 86, 87, 88, 89, 90, 91, 92, 93, 94, 95, 110, 111, 112, 113, 114, 115, 116, 117, 118, 119, 120, 121, 105, 106, 107, 108, 109] (by decide +kernel) (by decide +kernel)
set_option maxRecDepth 20000 in
theorem gX7_ends_X0_endsOf : GoodIn wsX7_ends (wsV RX7 175 RX0 yX0_endsOf wsX0_endsOf) := goodIn_app (goodIn_of _ (by decide +kernel)) ggX7_ends_X0_endsOf
theorem dX7_ends_0 : decode cX7_ends 0 = .ok (.aload_n 0, 1) := by decide +kernel
theorem dX7_ends_1 : decode cX7_ends 1 = .ok (.iload_n 1, 1) := by decide +kernel
theorem dX7_ends_2 : decode cX7_ends 2 = .ok (.invokevirtual 118, 3) := by decide +kernel
theorem dX7_ends_5 : decode cX7_ends 5 = .ok (.ifCond .eq 18, 3) := by decide +kernel
theorem dX7_ends_8 : decode cX7_ends 8 = .ok (.aload_n 0, 1) := by decide +kernel
theorem dX7_ends_9 : decode cX7_ends 9 = .ok (.invokevirtual 110, 3) := by decide +kernel
theorem dX7_ends_12 : decode cX7_ends 12 = .ok (.aload_n 0, 1) := by decide +kernel
theorem dX7_ends_13 : decode cX7_ends 13 = .ok (.getfield 31, 3) := by decide +kernel
theorem dX7_ends_16 : decode cX7_ends 16 = .ok (.iload_n 1, 1) := by decide +kernel
theorem dX7_ends_17 : decode cX7_ends 17 = .ok (.invokevirtual 175, 3) := by decide +kernel
theorem dX7_ends_20 : decode cX7_ends 20 = .ok (.goto 4, 3) := by decide +kernel
theorem dX7_ends_23 : decode cX7_ends 23 = .ok (.iconst (-1), 1) := by decide +kernel
theorem dX7_ends_24 : decode cX7_ends 24 = .ok (.ireturn, 1) := by decide +kernel
set_option maxRecDepth 20000 in
theorem ggX7_lied_X7_present : GoodIn wsX7_lied wsX7_present := goodIn_r _ [6, 7, 1, 8, 9, 10, 11, 12, 13, 14, 15, 16, 17, 18, 19, 20, 21, 22, 23, 5, 24, 92, 93, 94, 95, 96, 97, 98, 99, 100, 101, 102, 103, 104, 105, 106, 107, 108, 109, 110, 111, 112, 113, 114, 115, 116, 117] (by decide +kernel) (by decide +kernel)
set_option maxRecDepth 20000 in
theorem gX7_lied_X7_present : GoodIn wsX7_lied (wsV RX7 110 RX7 yX7_present wsX7_present) := goodIn_app (goodIn_of _ (by decide +kernel)) ggX7_lied_X7_present
set_option maxRecDepth 20000 in
theorem ggX7_lied_X0_liars : GoodIn wsX7_lied wsX0_liars := goodIn_r _ [28, 29, 15, 30, 31, 32, 33, 12, 34, 35, 36, 37, 38, 39, 40, 41, 42, 43, 44, 45, 46, 47, 48, 49, 50, 51, 52, 53, 54, 55, 56, 57, 58, 59, 14, 23, 5, 24, 60, 61, 62, 63, 64, 19, 65, 66, 67, 68, 69, 70, 71, 72, 73, 22, 74, 75, 76, 77, 78, 79, 80, 81, 82, 83, 84, 85, 86, 87, 88, 89, 90, 91, 101, 102, 103, 104, 105, 106, 107, 108, 109, 110, 111, 112, 113, 114, 115, 116, 117] (by decide +kernel) (by decide +kernel)
set_option maxRecDepth 20000 in
theorem gX7_lied_X0_liars : GoodIn wsX7_lied (wsV RX7 178 RX0 yX0_liars wsX0_liars) := goodIn_app (goodIn_of _ (by decide +kernel)) ggX7_lied_X0_liars
theorem dX7_lied_0 : decode cX7_lied 0 = .ok (.aload_n 0, 1) := by decide +kernel
theorem dX7_lied_1 : decode cX7_lied 1 = .ok (.invokevirtual 110, 3) := by decide +kernel
theorem dX7_lied_4 : decode cX7_lied 4 = .ok (.aload_n 0, 1) := by decide +kernel
theorem dX7_lied_5 : decode cX7_lied 5 = .ok (.getfield 31, 3) := by decide +kernel
theorem dX7_lied_8 : decode cX7_lied 8 = .ok (.invokevirtual 178, 3) := by decide +kernel
theorem dX7_lied_11 : decode cX7_lied 11 = .ok (.ireturn, 1) := by decide +kernel
set_option maxRecDepth 20000 in
theorem ggX7_nobody_X7_present : GoodIn wsX7_nobody wsX7_present := goodIn_r _ [8, 9, 3, 10, 11, 12, 13, 14, 15, 16, 17, 18, 19, 20, 21, 22, 23, 24, 25, 7, 26, 103, 104, 105, 106, 107, 108, 109, 110, 111, 118, 119, 120, 121, 122, 123, 124, 125, 126, 127, 128, 112, 113, 114, 115, 116, 117] (by decide +kernel) (by decide +kernel)
set_option maxRecDepth 20000 in
theorem gX7_nobody_X7_present : GoodIn wsX7_nobody (wsV RX7 110 RX7 yX7_present wsX7_present) := goodIn_app (goodIn_of _ (by decide +kernel)) ggX7_nobody_X7_present
set_option maxRecDepth 20000 in
theorem ggX7_nobody_X0_passed : GoodIn wsX7_nobody wsX0_passed := goodIn_r _ [30, 31, 17, 32, 33, 34, 35, 36, 37, 14, 38, 39, 40, 41, 42, 43, 44, 45, 46, 47, 48, 49, 50, 51, 52, 53, 54, 55, 56, 57, 58, 59, 60, 61, 62, 16, 25, 7, 26, 63, 64, 65, 66, 67, 21, 68, 69, 70, 71, 72, 73, 74, 75, 76, 24, 77, 78, 79, 80, 81, 82, 83, 84, 85, 86, 87, 88, 89, 90, 91, 92, 93, 94, 95, 96, 97, 98, 99, 100, 101, 102, 118, 119, 120, 121, 122, 123, 124, 125, 126, 127, 128, 112, 113, 114, 115, 116, 117] (by decide +kernel) (by decide +kernel)
set_option maxRecDepth 20000 in
theorem gX7_nobody_X0_passed : GoodIn wsX7_nobody (wsV RX7 185 RX0 yX0_passed wsX0_passed) := goodIn_app (goodIn_of _ (by decide +kernel)) ggX7_nobody_X0_passed
theorem dX7_nobody_0 : decode cX7_nobody 0 = .ok (.aload_n 0, 1) := by decide +kernel
theorem dX7_nobody_1 : decode cX7_nobody 1 = .ok (.getfield 27, 3) := by decide +kernel
theorem dX7_nobody_4 : decode cX7_nobody 4 = .ok (.getfield 182, 3) := by decide +kernel
theorem dX7_nobody_7 : decode cX7_nobody 7 = .ok (.aload_n 0, 1) := by decide +kernel
theorem dX7_nobody_8 : decode cX7_nobody 8 = .ok (.invokevirtual 110, 3) := by decide +kernel
theorem dX7_nobody_11 : decode cX7_nobody 11 = .ok (.aload_n 0, 1) := by decide +kernel
theorem dX7_nobody_12 : decode cX7_nobody 12 = .ok (.getfield 31, 3) := by decide +kernel
theorem dX7_nobody_15 : decode cX7_nobody 15 = .ok (.invokevirtual 185, 3) := by decide +kernel
theorem dX7_nobody_18 : decode cX7_nobody 18 = .ok (.iconst (-1), 1) := by decide +kernel
theorem dX7_nobody_19 : decode cX7_nobody 19 = .ok (.ixor, 1) := by decide +kernel
theorem dX7_nobody_20 : decode cX7_nobody 20 = .ok (.iand, 1) := by decide +kernel
theorem dX7_nobody_21 : decode cX7_nobody 21 = .ok (.ireturn, 1) := by decide +kernel
set_option maxRecDepth 20000 in
theorem ggX7_may_X7_isPlace : GoodIn wsX7_may wsX7_isPlace := goodIn_r _ [8, 9, 10, 11, 12, 13, 14, 15, 16, 105, 106, 107, 108, 109, 110, 111, 112, 113, 119, 120, 121, 122, 123, 124] (by decide +kernel) (by decide +kernel)
set_option maxRecDepth 20000 in
theorem gX7_may_X7_isPlace : GoodIn wsX7_may (wsV RX7 99 RX7 yX7_isPlace wsX7_isPlace) := goodIn_app (goodIn_of _ (by decide +kernel)) ggX7_may_X7_isPlace
set_option maxRecDepth 20000 in
theorem ggX7_may_X5_copy : GoodIn wsX7_may wsX5_copy := goodIn_r _ [21, 22, 23, 24, 25, 26, 27, 28, 29, 30, 114, 115, 116, 117, 118] (by decide +kernel) (by decide +kernel)
set_option maxRecDepth 20000 in
theorem gX7_may_X5_copy : GoodIn wsX7_may (wsV RX7 188 RX5 yX5_copy wsX5_copy) := goodIn_app (goodIn_of _ (by decide +kernel)) ggX7_may_X5_copy
set_option maxRecDepth 20000 in
theorem ggX7_may_X7_allCanLie : GoodIn wsX7_may wsX7_allCanLie := goodIn_r _ [34, 35, 3, 36, 9, 37, 38, 39, 40, 41, 42, 43, 44, 45, 11, 12, 13, 14, 15, 16, 46, 7, 47, 48, 49, 50, 51, 52, 53, 54, 55, 20, 56, 57, 58, 59, 60, 27, 61, 62, 63, 64, 28, 65, 66, 67, 68, 29, 69, 70, 71, 72, 73, 74, 75, 76, 77, 78, 79, 80, 81, 82, 83, 84, 85, 86, 87, 88, 89, 90, 91, 92, 93, 94, 95, 96, 97, 98, 99, 100, 101, 102, 103, 104, 105, 106, 107, 108, 109, 110, 111, 112, 113, 114, 115, 116, 117, 118, 119, 120, 121, 122, 123, 124, 125, 126, 127, 128, 129, 130] (by decide +kernel) (by decide +kernel)
set_option maxRecDepth 20000 in
theorem gX7_may_X7_allCanLie : GoodIn wsX7_may (wsV RX7 191 RX7 yX7_allCanLie wsX7_allCanLie) := goodIn_app (goodIn_of _ (by decide +kernel)) ggX7_may_X7_allCanLie
theorem dX7_may_0 : decode cX7_may 0 = .ok (.aload_n 0, 1) := by decide +kernel
theorem dX7_may_1 : decode cX7_may 1 = .ok (.iload_n 1, 1) := by decide +kernel
theorem dX7_may_2 : decode cX7_may 2 = .ok (.invokevirtual 99, 3) := by decide +kernel
theorem dX7_may_5 : decode cX7_may 5 = .ok (.ifCond .ne 5, 3) := by decide +kernel
theorem dX7_may_8 : decode cX7_may 8 = .ok (.iconst (-1), 1) := by decide +kernel
theorem dX7_may_9 : decode cX7_may 9 = .ok (.ireturn, 1) := by decide +kernel
theorem dX7_may_10 : decode cX7_may 10 = .ok (.aload_n 0, 1) := by decide +kernel
theorem dX7_may_11 : decode cX7_may 11 = .ok (.getfield 35, 3) := by decide +kernel
theorem dX7_may_14 : decode cX7_may 14 = .ok (.aload_n 0, 1) := by decide +kernel
theorem dX7_may_15 : decode cX7_may 15 = .ok (.getfield 31, 3) := by decide +kernel
theorem dX7_may_18 : decode cX7_may 18 = .ok (.invokevirtual 188, 3) := by decide +kernel
theorem dX7_may_21 : decode cX7_may 21 = .ok (.iconst 0, 1) := by decide +kernel
theorem dX7_may_22 : decode cX7_may 22 = .ok (.istore_n 2, 1) := by decide +kernel
theorem dX7_may_23 : decode cX7_may 23 = .ok (.iconst 0, 1) := by decide +kernel
theorem dX7_may_24 : decode cX7_may 24 = .ok (.istore_n 3, 1) := by decide +kernel
theorem dX7_may_25 : decode cX7_may 25 = .ok (.iload_n 3, 1) := by decide +kernel
theorem dX7_may_26 : decode cX7_may 26 = .ok (.bipush 6, 2) := by decide +kernel
theorem dX7_may_28 : decode cX7_may 28 = .ok (.if_icmp .ge 36, 3) := by decide +kernel
theorem dX7_may_31 : decode cX7_may 31 = .ok (.aload_n 0, 1) := by decide +kernel
theorem dX7_may_32 : decode cX7_may 32 = .ok (.getfield 35, 3) := by decide +kernel
theorem dX7_may_35 : decode cX7_may 35 = .ok (.getfield 106, 3) := by decide +kernel
theorem dX7_may_38 : decode cX7_may 38 = .ok (.iload_n 1, 1) := by decide +kernel
theorem dX7_may_39 : decode cX7_may 39 = .ok (.iload_n 3, 1) := by decide +kernel
theorem dX7_may_40 : decode cX7_may 40 = .ok (.iastore, 1) := by decide +kernel
theorem dX7_may_41 : decode cX7_may 41 = .ok (.aload_n 0, 1) := by decide +kernel
theorem dX7_may_42 : decode cX7_may 42 = .ok (.aload_n 0, 1) := by decide +kernel
theorem dX7_may_43 : decode cX7_may 43 = .ok (.getfield 35, 3) := by decide +kernel
theorem dX7_may_46 : decode cX7_may 46 = .ok (.invokevirtual 191, 3) := by decide +kernel
theorem dX7_may_49 : decode cX7_may 49 = .ok (.ifCond .eq 9, 3) := by decide +kernel
theorem dX7_may_52 : decode cX7_may 52 = .ok (.iload_n 2, 1) := by decide +kernel
theorem dX7_may_53 : decode cX7_may 53 = .ok (.iconst 1, 1) := by decide +kernel
theorem dX7_may_54 : decode cX7_may 54 = .ok (.iload_n 3, 1) := by decide +kernel
theorem dX7_may_55 : decode cX7_may 55 = .ok (.ishl, 1) := by decide +kernel
theorem dX7_may_56 : decode cX7_may 56 = .ok (.ior, 1) := by decide +kernel
theorem dX7_may_57 : decode cX7_may 57 = .ok (.istore_n 2, 1) := by decide +kernel
theorem dX7_may_58 : decode cX7_may 58 = .ok (.iinc 3 1, 3) := by decide +kernel
theorem dX7_may_61 : decode cX7_may 61 = .ok (.goto (-36), 3) := by decide +kernel
theorem dX7_may_64 : decode cX7_may 64 = .ok (.iload_n 2, 1) := by decide +kernel
theorem dX7_may_65 : decode cX7_may 65 = .ok (.ireturn, 1) := by decide +kernel
set_option maxRecDepth 20000 in
theorem ggX7_moved_X7_isChoice : GoodIn wsX7_moved wsX7_isChoice := goodIn_r _ [7] (by decide +kernel) (by decide +kernel)
set_option maxRecDepth 20000 in
theorem gX7_moved_X7_isChoice : GoodIn wsX7_moved (va_wsS RX7 103 yX7_isChoice wsX7_isChoice) := goodIn_app (goodIn_of _ (by decide +kernel)) ggX7_moved_X7_isChoice
set_option maxRecDepth 20000 in
theorem ggX7_moved_X5_copy : GoodIn wsX7_moved wsX5_copy := goodIn_r _ [12, 13, 14, 15, 16, 17, 18, 19, 20, 21, 125, 126, 127, 128, 129] (by decide +kernel) (by decide +kernel)
set_option maxRecDepth 20000 in
theorem gX7_moved_X5_copy : GoodIn wsX7_moved (wsV RX7 188 RX5 yX5_copy wsX5_copy) := goodIn_app (goodIn_of _ (by decide +kernel)) ggX7_moved_X5_copy
set_option maxRecDepth 20000 in
theorem ggX7_moved_X1_places : GoodIn wsX7_moved wsX1_places := goodIn_r _ [26, 27, 28, 130, 131, 132, 133, 134, 135] (by decide +kernel) (by decide +kernel)
set_option maxRecDepth 20000 in
theorem gX7_moved_X1_places : GoodIn wsX7_moved (wsV RX7 94 RX1 yX1_places wsX1_places) := goodIn_app (goodIn_of _ (by decide +kernel)) ggX7_moved_X1_places
set_option maxRecDepth 20000 in
theorem ggX7_moved_X7_wouldMend : GoodIn wsX7_moved wsX7_wouldMend := goodIn_r _ [32, 1, 33, 34, 35, 36, 6, 37, 3, 22, 23, 24, 25, 26, 27, 28, 38, 39, 40, 11, 41, 13, 42, 43, 44, 45, 46, 47, 48, 49, 50, 51, 52, 53, 54, 55, 56, 57, 58, 59, 60, 61, 62, 63, 64, 65, 66, 67, 68, 69, 70, 71, 18, 72, 73, 74, 75, 19, 76, 77, 78, 79, 20, 80, 81, 82, 83, 84, 85, 86, 87, 88, 89, 90, 91, 92, 93, 94, 95, 96, 97, 98, 99, 100, 101, 102, 103, 104, 105, 106, 107, 108, 109, 110, 111, 112, 113, 114, 115, 116, 117, 118, 119, 120, 121, 122, 123, 124, 125, 126, 127, 128, 129, 130, 131, 132, 133, 134, 135, 136, 137, 138, 139, 140, 141] (by decide +kernel) (by decide +kernel)
set_option maxRecDepth 20000 in
theorem gX7_moved_X7_wouldMend : GoodIn wsX7_moved (wsV RX7 194 RX7 yX7_wouldMend wsX7_wouldMend) := goodIn_app (goodIn_of _ (by decide +kernel)) ggX7_moved_X7_wouldMend
theorem dX7_moved_0 : decode cX7_moved 0 = .ok (.iload_n 1, 1) := by decide +kernel
theorem dX7_moved_1 : decode cX7_moved 1 = .ok (.invokestatic 103, 3) := by decide +kernel
theorem dX7_moved_4 : decode cX7_moved 4 = .ok (.ifCond .ne 5, 3) := by decide +kernel
theorem dX7_moved_7 : decode cX7_moved 7 = .ok (.iconst (-1), 1) := by decide +kernel
theorem dX7_moved_8 : decode cX7_moved 8 = .ok (.ireturn, 1) := by decide +kernel
theorem dX7_moved_9 : decode cX7_moved 9 = .ok (.aload_n 0, 1) := by decide +kernel
theorem dX7_moved_10 : decode cX7_moved 10 = .ok (.getfield 35, 3) := by decide +kernel
theorem dX7_moved_13 : decode cX7_moved 13 = .ok (.aload_n 0, 1) := by decide +kernel
theorem dX7_moved_14 : decode cX7_moved 14 = .ok (.getfield 31, 3) := by decide +kernel
theorem dX7_moved_17 : decode cX7_moved 17 = .ok (.invokevirtual 188, 3) := by decide +kernel
theorem dX7_moved_20 : decode cX7_moved 20 = .ok (.iconst 0, 1) := by decide +kernel
theorem dX7_moved_21 : decode cX7_moved 21 = .ok (.istore_n 2, 1) := by decide +kernel
theorem dX7_moved_22 : decode cX7_moved 22 = .ok (.iconst 0, 1) := by decide +kernel
theorem dX7_moved_23 : decode cX7_moved 23 = .ok (.istore_n 3, 1) := by decide +kernel
theorem dX7_moved_24 : decode cX7_moved 24 = .ok (.iload_n 3, 1) := by decide +kernel
theorem dX7_moved_25 : decode cX7_moved 25 = .ok (.aload_n 0, 1) := by decide +kernel
theorem dX7_moved_26 : decode cX7_moved 26 = .ok (.getfield 27, 3) := by decide +kernel
theorem dX7_moved_29 : decode cX7_moved 29 = .ok (.invokevirtual 94, 3) := by decide +kernel
theorem dX7_moved_32 : decode cX7_moved 32 = .ok (.if_icmp .ge 61, 3) := by decide +kernel
theorem dX7_moved_35 : decode cX7_moved 35 = .ok (.iload_n 3, 1) := by decide +kernel
theorem dX7_moved_36 : decode cX7_moved 36 = .ok (.iconst 1, 1) := by decide +kernel
theorem dX7_moved_37 : decode cX7_moved 37 = .ok (.iadd, 1) := by decide +kernel
theorem dX7_moved_38 : decode cX7_moved 38 = .ok (.istore 4, 2) := by decide +kernel
theorem dX7_moved_40 : decode cX7_moved 40 = .ok (.iload 4, 2) := by decide +kernel
theorem dX7_moved_42 : decode cX7_moved 42 = .ok (.aload_n 0, 1) := by decide +kernel
theorem dX7_moved_43 : decode cX7_moved 43 = .ok (.getfield 27, 3) := by decide +kernel
theorem dX7_moved_46 : decode cX7_moved 46 = .ok (.invokevirtual 94, 3) := by decide +kernel
theorem dX7_moved_49 : decode cX7_moved 49 = .ok (.if_icmp .ge 38, 3) := by decide +kernel
theorem dX7_moved_52 : decode cX7_moved 52 = .ok (.aload_n 0, 1) := by decide +kernel
theorem dX7_moved_53 : decode cX7_moved 53 = .ok (.iload_n 3, 1) := by decide +kernel
theorem dX7_moved_54 : decode cX7_moved 54 = .ok (.iload 4, 2) := by decide +kernel
theorem dX7_moved_56 : decode cX7_moved 56 = .ok (.invokevirtual 194, 3) := by decide +kernel
theorem dX7_moved_59 : decode cX7_moved 59 = .ok (.ifCond .ne 6, 3) := by decide +kernel
theorem dX7_moved_62 : decode cX7_moved 62 = .ok (.goto 19, 3) := by decide +kernel
theorem dX7_moved_65 : decode cX7_moved 65 = .ok (.iload_n 1, 1) := by decide +kernel
theorem dX7_moved_66 : decode cX7_moved 66 = .ok (.iconst 1, 1) := by decide +kernel
theorem dX7_moved_67 : decode cX7_moved 67 = .ok (.if_icmp .ne 11, 3) := by decide +kernel
theorem dX7_moved_70 : decode cX7_moved 70 = .ok (.bipush 16, 2) := by decide +kernel
theorem dX7_moved_72 : decode cX7_moved 72 = .ok (.iload_n 3, 1) := by decide +kernel
theorem dX7_moved_73 : decode cX7_moved 73 = .ok (.imul, 1) := by decide +kernel
theorem dX7_moved_74 : decode cX7_moved 74 = .ok (.iload 4, 2) := by decide +kernel
theorem dX7_moved_76 : decode cX7_moved 76 = .ok (.iadd, 1) := by decide +kernel
theorem dX7_moved_77 : decode cX7_moved 77 = .ok (.ireturn, 1) := by decide +kernel
theorem dX7_moved_78 : decode cX7_moved 78 = .ok (.iinc 2 1, 3) := by decide +kernel
theorem dX7_moved_81 : decode cX7_moved 81 = .ok (.iinc 4 1, 3) := by decide +kernel
theorem dX7_moved_84 : decode cX7_moved 84 = .ok (.goto (-44), 3) := by decide +kernel
theorem dX7_moved_87 : decode cX7_moved 87 = .ok (.iinc 3 1, 3) := by decide +kernel
theorem dX7_moved_90 : decode cX7_moved 90 = .ok (.goto (-66), 3) := by decide +kernel
theorem dX7_moved_93 : decode cX7_moved 93 = .ok (.iload_n 1, 1) := by decide +kernel
theorem dX7_moved_94 : decode cX7_moved 94 = .ok (.iconst 1, 1) := by decide +kernel
theorem dX7_moved_95 : decode cX7_moved 95 = .ok (.if_icmp .ne 8, 3) := by decide +kernel
theorem dX7_moved_98 : decode cX7_moved 98 = .ok (.bipush (-4), 2) := by decide +kernel
theorem dX7_moved_100 : decode cX7_moved 100 = .ok (.goto 4, 3) := by decide +kernel
theorem dX7_moved_103 : decode cX7_moved 103 = .ok (.iload_n 2, 1) := by decide +kernel
theorem dX7_moved_104 : decode cX7_moved 104 = .ok (.ireturn, 1) := by decide +kernel
set_option maxRecDepth 20000 in
theorem ggX7_known_X7_isPlace : GoodIn wsX7_known wsX7_isPlace := goodIn_r _ [7, 8, 9, 10, 11, 12, 13, 14, 15, 76, 77, 78, 79, 80, 81, 82, 83, 84, 87, 88, 89, 90, 91, 92] (by decide +kernel) (by decide +kernel)
set_option maxRecDepth 20000 in
theorem gX7_known_X7_isPlace : GoodIn wsX7_known (wsV RX7 99 RX7 yX7_isPlace wsX7_isPlace) := goodIn_app (goodIn_of _ (by decide +kernel)) ggX7_known_X7_isPlace
set_option maxRecDepth 20000 in
theorem ggX7_known_X7_present : GoodIn wsX7_known wsX7_present := goodIn_r _ [19, 20, 21, 22, 23, 24, 25, 26, 27, 28, 29, 30, 10, 11, 12, 13, 14, 15, 31, 6, 32, 76, 77, 78, 79, 80, 81, 82, 83, 84, 93, 94, 95, 96, 97, 98, 99, 100, 101, 102, 103, 87, 88, 89, 90, 91, 92] (by decide +kernel) (by decide +kernel)
set_option maxRecDepth 20000 in
theorem gX7_known_X7_present : GoodIn wsX7_known (wsV RX7 110 RX7 yX7_present wsX7_present) := goodIn_app (goodIn_of _ (by decide +kernel)) ggX7_known_X7_present
set_option maxRecDepth 20000 in
theorem ggX7_known_X4_spell : GoodIn wsX7_known wsX4_spell := goodIn_r _ [37, 38, 39, 40, 36, 41, 42, 43, 44, 45, 46, 47, 48, 49, 50, 51, 52, 53, 54, 55, 56, 12, 57, 58, 59, 60, 61, 15, 62, 63, 64, 65, 66, 67, 26, 68, 28, 31, 6, 32, 69, 70, 71, 72, 73, 74, 75, 85, 86, 98, 99, 100, 101, 102, 103, 87, 88, 89, 90, 91, 92] (by decide +kernel) (by decide +kernel)
set_option maxRecDepth 20000 in
theorem gX7_known_X4_spell : GoodIn wsX7_known (wsV RX7 198 RX4 yX4_spell wsX4_spell) := goodIn_app (goodIn_of _ (by decide +kernel)) ggX7_known_X4_spell
theorem dX7_known_0 : decode cX7_known 0 = .ok (.aload_n 0, 1) := by decide +kernel
theorem dX7_known_1 : decode cX7_known 1 = .ok (.iload_n 1, 1) := by decide +kernel
theorem dX7_known_2 : decode cX7_known 2 = .ok (.invokevirtual 99, 3) := by decide +kernel
theorem dX7_known_5 : decode cX7_known 5 = .ok (.ifCond .eq 13, 3) := by decide +kernel
theorem dX7_known_8 : decode cX7_known 8 = .ok (.iload_n 2, 1) := by decide +kernel
theorem dX7_known_9 : decode cX7_known 9 = .ok (.iconst (-1), 1) := by decide +kernel
theorem dX7_known_10 : decode cX7_known 10 = .ok (.if_icmp .lt 8, 3) := by decide +kernel
theorem dX7_known_13 : decode cX7_known 13 = .ok (.iload_n 2, 1) := by decide +kernel
theorem dX7_known_14 : decode cX7_known 14 = .ok (.iconst 4, 1) := by decide +kernel
theorem dX7_known_15 : decode cX7_known 15 = .ok (.if_icmp .lt 5, 3) := by decide +kernel
theorem dX7_known_18 : decode cX7_known 18 = .ok (.iconst (-1), 1) := by decide +kernel
theorem dX7_known_19 : decode cX7_known 19 = .ok (.ireturn, 1) := by decide +kernel
theorem dX7_known_20 : decode cX7_known 20 = .ok (.aload_n 0, 1) := by decide +kernel
theorem dX7_known_21 : decode cX7_known 21 = .ok (.getfield 60, 3) := by decide +kernel
theorem dX7_known_24 : decode cX7_known 24 = .ok (.aload_n 0, 1) := by decide +kernel
theorem dX7_known_25 : decode cX7_known 25 = .ok (.invokevirtual 110, 3) := by decide +kernel
theorem dX7_known_28 : decode cX7_known 28 = .ok (.iconst 1, 1) := by decide +kernel
theorem dX7_known_29 : decode cX7_known 29 = .ok (.iload_n 1, 1) := by decide +kernel
theorem dX7_known_30 : decode cX7_known 30 = .ok (.ishl, 1) := by decide +kernel
theorem dX7_known_31 : decode cX7_known 31 = .ok (.invokevirtual 198, 3) := by decide +kernel
theorem dX7_known_34 : decode cX7_known 34 = .ok (.istore_n 3, 1) := by decide +kernel
theorem dX7_known_35 : decode cX7_known 35 = .ok (.iload_n 3, 1) := by decide +kernel
theorem dX7_known_36 : decode cX7_known 36 = .ok (.ifCond .eq 8, 3) := by decide +kernel
theorem dX7_known_39 : decode cX7_known 39 = .ok (.iload_n 2, 1) := by decide +kernel
theorem dX7_known_40 : decode cX7_known 40 = .ok (.iload_n 3, 1) := by decide +kernel
theorem dX7_known_41 : decode cX7_known 41 = .ok (.if_icmp .lt 6, 3) := by decide +kernel
theorem dX7_known_44 : decode cX7_known 44 = .ok (.bipush (-4), 2) := by decide +kernel
theorem dX7_known_46 : decode cX7_known 46 = .ok (.ireturn, 1) := by decide +kernel
theorem dX7_known_47 : decode cX7_known 47 = .ok (.iload_n 2, 1) := by decide +kernel
theorem dX7_known_48 : decode cX7_known 48 = .ok (.iconst (-1), 1) := by decide +kernel
theorem dX7_known_49 : decode cX7_known 49 = .ok (.if_icmp .ne 7, 3) := by decide +kernel
theorem dX7_known_52 : decode cX7_known 52 = .ok (.iload_n 3, 1) := by decide +kernel
theorem dX7_known_53 : decode cX7_known 53 = .ok (.goto 12, 3) := by decide +kernel
theorem dX7_known_56 : decode cX7_known 56 = .ok (.aload_n 0, 1) := by decide +kernel
theorem dX7_known_57 : decode cX7_known 57 = .ok (.getfield 60, 3) := by decide +kernel
theorem dX7_known_60 : decode cX7_known 60 = .ok (.getfield 202, 3) := by decide +kernel
theorem dX7_known_63 : decode cX7_known 63 = .ok (.iload_n 2, 1) := by decide +kernel
theorem dX7_known_64 : decode cX7_known 64 = .ok (.iaload, 1) := by decide +kernel
theorem dX7_known_65 : decode cX7_known 65 = .ok (.ireturn, 1) := by decide +kernel
set_option maxRecDepth 20000 in
theorem ggX7_round_X7_isWalk : GoodIn wsX7_round wsX7_isWalk := goodIn_r _ [6, 1, 7, 95, 96, 97, 98, 99, 100, 101, 102, 103, 104, 105, 106, 107, 108] (by decide +kernel) (by decide +kernel)
set_option maxRecDepth 20000 in
theorem gX7_round_X7_isWalk : GoodIn wsX7_round (wsV RX7 118 RX7 yX7_isWalk wsX7_isWalk) := goodIn_app (goodIn_of _ (by decide +kernel)) ggX7_round_X7_isWalk
set_option maxRecDepth 20000 in
theorem ggX7_round_X7_present : GoodIn wsX7_round wsX7_present := goodIn_r _ [11, 12, 1, 13, 14, 15, 16, 17, 18, 19, 20, 21, 22, 23, 24, 25, 26, 27, 28, 5, 29, 95, 96, 97, 98, 99, 100, 101, 102, 103, 104, 105, 106, 107, 108, 109, 110, 111, 112, 113, 114, 115, 116, 117, 118, 119, 120] (by decide +kernel) (by decide +kernel)
set_option maxRecDepth 20000 in
theorem gX7_round_X7_present : GoodIn wsX7_round (wsV RX7 110 RX7 yX7_present wsX7_present) := goodIn_app (goodIn_of _ (by decide +kernel)) ggX7_round_X7_present
set_option maxRecDepth 20000 in
theorem ggX7_round_X0_comesBack : GoodIn wsX7_round wsX0_comesBack := goodIn_r _ [33, 20, 21, 22, 23, 24, 25, 26, 27, 34, 35, 36, 17, 37, 38, 39, 40, 41, 42, 43, 44, 45, 46, 47, 48, 49, 50, 51, 52, 53, 54, 55, 56, 57, 58, 59, 60, 61, 62, 19, 28, 5, 29, 63, 64, 65, 66, 67, 68, 69, 70, 71, 72, 73, 74, 75, 76, 77, 78, 79, 80, 81, 82, 83, 84, 85, 86, 87, 88, 89, 90, 91, 92, 93, 94, 109, 110, 111, 112, 113, 114, 115, 116, 117, 118, 119, 120, 104, 105, 106, 107, 108] (by decide +kernel) (by decide +kernel)
set_option maxRecDepth 20000 in
theorem gX7_round_X0_comesBack : GoodIn wsX7_round (wsV RX7 205 RX0 yX0_comesBack wsX0_comesBack) := goodIn_app (goodIn_of _ (by decide +kernel)) ggX7_round_X0_comesBack
theorem dX7_round_0 : decode cX7_round 0 = .ok (.aload_n 0, 1) := by decide +kernel

theorem dX8_seesBy_35 : decode cX8_seesBy 35 = .ok (.iload 5, 2) := by decide +kernel
theorem dX8_seesBy_37 : decode cX8_seesBy 37 = .ok (.i2l, 1) := by decide +kernel
theorem dX8_seesBy_38 : decode cX8_seesBy 38 = .ok (.lconst 0, 1) := by decide +kernel
theorem dX8_seesBy_39 : decode cX8_seesBy 39 = .ok (.aload_n 0, 1) := by decide +kernel
theorem dX8_seesBy_40 : decode cX8_seesBy 40 = .ok (.getfield 13, 3) := by decide +kernel
theorem dX8_seesBy_43 : decode cX8_seesBy 43 = .ok (.iconst 0, 1) := by decide +kernel
theorem dX8_seesBy_44 : decode cX8_seesBy 44 = .ok (.iaload, 1) := by decide +kernel
theorem dX8_seesBy_45 : decode cX8_seesBy 45 = .ok (.iconst 1, 1) := by decide +kernel
theorem dX8_seesBy_46 : decode cX8_seesBy 46 = .ok (.isub, 1) := by decide +kernel
theorem dX8_seesBy_47 : decode cX8_seesBy 47 = .ok (.i2l, 1) := by decide +kernel
theorem dX8_seesBy_48 : decode cX8_seesBy 48 = .ok (.invokestatic 70, 3) := by decide +kernel
theorem dX8_seesBy_51 : decode cX8_seesBy 51 = .ok (.ifCond .eq 68, 3) := by decide +kernel
theorem dX8_seesBy_54 : decode cX8_seesBy 54 = .ok (.iload 6, 2) := by decide +kernel
theorem dX8_seesBy_56 : decode cX8_seesBy 56 = .ok (.i2l, 1) := by decide +kernel
theorem dX8_seesBy_57 : decode cX8_seesBy 57 = .ok (.lconst 0, 1) := by decide +kernel
theorem dX8_seesBy_58 : decode cX8_seesBy 58 = .ok (.aload_n 0, 1) := by decide +kernel
theorem dX8_seesBy_59 : decode cX8_seesBy 59 = .ok (.getfield 13, 3) := by decide +kernel
theorem dX8_seesBy_62 : decode cX8_seesBy 62 = .ok (.iconst 1, 1) := by decide +kernel
theorem dX8_seesBy_63 : decode cX8_seesBy 63 = .ok (.iaload, 1) := by decide +kernel
theorem dX8_seesBy_64 : decode cX8_seesBy 64 = .ok (.iconst 1, 1) := by decide +kernel
theorem dX8_seesBy_65 : decode cX8_seesBy 65 = .ok (.isub, 1) := by decide +kernel
theorem dX8_seesBy_66 : decode cX8_seesBy 66 = .ok (.i2l, 1) := by decide +kernel
theorem dX8_seesBy_67 : decode cX8_seesBy 67 = .ok (.invokestatic 70, 3) := by decide +kernel
theorem dX8_seesBy_70 : decode cX8_seesBy 70 = .ok (.ifCond .eq 49, 3) := by decide +kernel
theorem dX8_seesBy_73 : decode cX8_seesBy 73 = .ok (.iinc 4 1, 3) := by decide +kernel
theorem dX8_seesBy_76 : decode cX8_seesBy 76 = .ok (.aload_n 0, 1) := by decide +kernel
theorem dX8_seesBy_77 : decode cX8_seesBy 77 = .ok (.getfield 19, 3) := by decide +kernel
theorem dX8_seesBy_80 : decode cX8_seesBy 80 = .ok (.iload 5, 2) := by decide +kernel
theorem dX8_seesBy_82 : decode cX8_seesBy 82 = .ok (.aload_n 0, 1) := by decide +kernel
theorem dX8_seesBy_83 : decode cX8_seesBy 83 = .ok (.getfield 13, 3) := by decide +kernel
theorem dX8_seesBy_86 : decode cX8_seesBy 86 = .ok (.iconst 1, 1) := by decide +kernel
theorem dX8_seesBy_87 : decode cX8_seesBy 87 = .ok (.iaload, 1) := by decide +kernel
theorem dX8_seesBy_88 : decode cX8_seesBy 88 = .ok (.imul, 1) := by decide +kernel
theorem dX8_seesBy_89 : decode cX8_seesBy 89 = .ok (.iload 6, 2) := by decide +kernel
theorem dX8_seesBy_91 : decode cX8_seesBy 91 = .ok (.iadd, 1) := by decide +kernel
theorem dX8_seesBy_92 : decode cX8_seesBy 92 = .ok (.iaload, 1) := by decide +kernel
theorem dX8_seesBy_93 : decode cX8_seesBy 93 = .ok (.iconst 1, 1) := by decide +kernel
theorem dX8_seesBy_94 : decode cX8_seesBy 94 = .ok (.if_icmp .eq 7, 3) := by decide +kernel
theorem dX8_seesBy_97 : decode cX8_seesBy 97 = .ok (.iconst 1, 1) := by decide +kernel
theorem dX8_seesBy_98 : decode cX8_seesBy 98 = .ok (.goto 4, 3) := by decide +kernel
theorem dX8_seesBy_101 : decode cX8_seesBy 101 = .ok (.iconst 0, 1) := by decide +kernel
theorem dX8_seesBy_102 : decode cX8_seesBy 102 = .ok (.istore 7, 2) := by decide +kernel
theorem dX8_seesBy_104 : decode cX8_seesBy 104 = .ok (.iload 5, 2) := by decide +kernel
theorem dX8_seesBy_106 : decode cX8_seesBy 106 = .ok (.iload_n 2, 1) := by decide +kernel
theorem dX8_seesBy_107 : decode cX8_seesBy 107 = .ok (.iadd, 1) := by decide +kernel
theorem dX8_seesBy_108 : decode cX8_seesBy 108 = .ok (.istore 5, 2) := by decide +kernel
theorem dX8_seesBy_110 : decode cX8_seesBy 110 = .ok (.iload 6, 2) := by decide +kernel
theorem dX8_seesBy_112 : decode cX8_seesBy 112 = .ok (.iload_n 3, 1) := by decide +kernel
theorem dX8_seesBy_113 : decode cX8_seesBy 113 = .ok (.iadd, 1) := by decide +kernel
theorem dX8_seesBy_114 : decode cX8_seesBy 114 = .ok (.istore 6, 2) := by decide +kernel
theorem dX8_seesBy_116 : decode cX8_seesBy 116 = .ok (.goto (-86), 3) := by decide +kernel
theorem dX8_seesBy_119 : decode cX8_seesBy 119 = .ok (.iload 4, 2) := by decide +kernel
theorem dX8_seesBy_121 : decode cX8_seesBy 121 = .ok (.ireturn, 1) := by decide +kernel
set_option maxRecDepth 20000 in
theorem ggX8_place_X8_isPlace : GoodIn wsX8_place wsX8_isPlace := goodIn_r _ [6, 7, 8, 9, 5, 10, 11, 12, 13, 14, 19, 20, 21, 22, 23, 24, 25, 26, 27, 28, 29, 30, 31, 32, 33, 34, 35, 36, 37, 38, 39, 40] (by decide +kernel) (by decide +kernel)
set_option maxRecDepth 20000 in
theorem gX8_place_X8_isPlace : GoodIn wsX8_place (wsV RX8 128 RX8 yX8_isPlace wsX8_isPlace) := goodIn_app (goodIn_of _ (by decide +kernel)) ggX8_place_X8_isPlace
set_option maxRecDepth 20000 in
theorem ggX8_place_X8_in : GoodIn wsX8_place wsX8_in := goodIn_r _ [14] (by decide +kernel) (by decide +kernel)
set_option maxRecDepth 20000 in
theorem gX8_place_X8_in : GoodIn wsX8_place (va_wsS RX8 70 yX8_in wsX8_in) := goodIn_app (goodIn_of _ (by decide +kernel)) ggX8_place_X8_in
set_option maxRecDepth 20000 in
theorem ggX8_place_X8_seesBy : GoodIn wsX8_place wsX8_seesBy := goodIn_r _ [18, 11, 1, 12, 13, 5, 14, 19, 20, 21, 22, 23, 24, 25, 26, 27, 28, 29, 30, 31, 32, 33, 34, 35, 36, 37, 38, 39, 40] (by decide +kernel) (by decide +kernel)
set_option maxRecDepth 20000 in
theorem gX8_place_X8_seesBy : GoodIn wsX8_place (wsV RX8 132 RX8 yX8_seesBy wsX8_seesBy) := goodIn_app (goodIn_of _ (by decide +kernel)) ggX8_place_X8_seesBy
theorem dX8_place_0 : decode cX8_place 0 = .ok (.aload_n 0, 1) := by decide +kernel
theorem dX8_place_1 : decode cX8_place 1 = .ok (.iload_n 1, 1) := by decide +kernel
theorem dX8_place_2 : decode cX8_place 2 = .ok (.invokevirtual 128, 3) := by decide +kernel
theorem dX8_place_5 : decode cX8_place 5 = .ok (.ifCond .eq 13, 3) := by decide +kernel
theorem dX8_place_8 : decode cX8_place 8 = .ok (.iload_n 2, 1) := by decide +kernel
theorem dX8_place_9 : decode cX8_place 9 = .ok (.i2l, 1) := by decide +kernel
theorem dX8_place_10 : decode cX8_place 10 = .ok (.lconst 0, 1) := by decide +kernel
theorem dX8_place_11 : decode cX8_place 11 = .ok (.lconst 1, 1) := by decide +kernel
theorem dX8_place_12 : decode cX8_place 12 = .ok (.invokestatic 70, 3) := by decide +kernel
theorem dX8_place_15 : decode cX8_place 15 = .ok (.ifCond .ne 5, 3) := by decide +kernel
theorem dX8_place_18 : decode cX8_place 18 = .ok (.iconst (-1), 1) := by decide +kernel
theorem dX8_place_19 : decode cX8_place 19 = .ok (.ireturn, 1) := by decide +kernel
theorem dX8_place_20 : decode cX8_place 20 = .ok (.iload_n 2, 1) := by decide +kernel
theorem dX8_place_21 : decode cX8_place 21 = .ok (.ifCond .ne 12, 3) := by decide +kernel
theorem dX8_place_24 : decode cX8_place 24 = .ok (.aload_n 0, 1) := by decide +kernel
theorem dX8_place_25 : decode cX8_place 25 = .ok (.getfield 19, 3) := by decide +kernel
theorem dX8_place_28 : decode cX8_place 28 = .ok (.iload_n 1, 1) := by decide +kernel
theorem dX8_place_29 : decode cX8_place 29 = .ok (.iaload, 1) := by decide +kernel
theorem dX8_place_30 : decode cX8_place 30 = .ok (.goto 34, 3) := by decide +kernel
theorem dX8_place_33 : decode cX8_place 33 = .ok (.aload_n 0, 1) := by decide +kernel
theorem dX8_place_34 : decode cX8_place 34 = .ok (.iload_n 1, 1) := by decide +kernel
theorem dX8_place_35 : decode cX8_place 35 = .ok (.iconst (-1), 1) := by decide +kernel
theorem dX8_place_36 : decode cX8_place 36 = .ok (.iconst 0, 1) := by decide +kernel
theorem dX8_place_37 : decode cX8_place 37 = .ok (.invokevirtual 132, 3) := by decide +kernel
theorem dX8_place_40 : decode cX8_place 40 = .ok (.aload_n 0, 1) := by decide +kernel
theorem dX8_place_41 : decode cX8_place 41 = .ok (.iload_n 1, 1) := by decide +kernel
theorem dX8_place_42 : decode cX8_place 42 = .ok (.iconst 1, 1) := by decide +kernel
theorem dX8_place_43 : decode cX8_place 43 = .ok (.iconst 0, 1) := by decide +kernel
theorem dX8_place_44 : decode cX8_place 44 = .ok (.invokevirtual 132, 3) := by decide +kernel
theorem dX8_place_47 : decode cX8_place 47 = .ok (.iadd, 1) := by decide +kernel
theorem dX8_place_48 : decode cX8_place 48 = .ok (.aload_n 0, 1) := by decide +kernel
theorem dX8_place_49 : decode cX8_place 49 = .ok (.iload_n 1, 1) := by decide +kernel
theorem dX8_place_50 : decode cX8_place 50 = .ok (.iconst 0, 1) := by decide +kernel
theorem dX8_place_51 : decode cX8_place 51 = .ok (.iconst 1, 1) := by decide +kernel
theorem dX8_place_52 : decode cX8_place 52 = .ok (.invokevirtual 132, 3) := by decide +kernel
theorem dX8_place_55 : decode cX8_place 55 = .ok (.iadd, 1) := by decide +kernel
theorem dX8_place_56 : decode cX8_place 56 = .ok (.aload_n 0, 1) := by decide +kernel
theorem dX8_place_57 : decode cX8_place 57 = .ok (.iload_n 1, 1) := by decide +kernel
theorem dX8_place_58 : decode cX8_place 58 = .ok (.iconst 0, 1) := by decide +kernel
theorem dX8_place_59 : decode cX8_place 59 = .ok (.iconst (-1), 1) := by decide +kernel
theorem dX8_place_60 : decode cX8_place 60 = .ok (.invokevirtual 132, 3) := by decide +kernel
theorem dX8_place_63 : decode cX8_place 63 = .ok (.iadd, 1) := by decide +kernel
theorem dX8_place_64 : decode cX8_place 64 = .ok (.ireturn, 1) := by decide +kernel
set_option maxRecDepth 20000 in
theorem ggX8_walk_X8_isWalk : GoodIn wsX8_walk wsX8_isWalk := goodIn_r _ [6, 1, 7, 8, 5, 9, 14, 15, 16, 17, 18, 19, 20, 21, 22, 23, 24, 25, 26, 27, 28, 29, 30, 31, 32, 33, 34, 35] (by decide +kernel) (by decide +kernel)
set_option maxRecDepth 20000 in
theorem gX8_walk_X8_isWalk : GoodIn wsX8_walk (wsV RX8 136 RX8 yX8_isWalk wsX8_isWalk) := goodIn_app (goodIn_of _ (by decide +kernel)) ggX8_walk_X8_isWalk
set_option maxRecDepth 20000 in
theorem ggX8_walk_X8_marksOf : GoodIn wsX8_walk wsX8_marksOf := goodIn_r _ [13, 1, 14, 15, 16, 17, 18, 19, 20, 21, 22, 23, 24, 25, 26, 27, 28, 29, 30, 31, 32, 33, 34, 35] (by decide +kernel) (by decide +kernel)
set_option maxRecDepth 20000 in
theorem gX8_walk_X8_marksOf : GoodIn wsX8_walk (wsV RX8 139 RX8 yX8_marksOf wsX8_marksOf) := goodIn_app (goodIn_of _ (by decide +kernel)) ggX8_walk_X8_marksOf
theorem dX8_walk_0 : decode cX8_walk 0 = .ok (.aload_n 0, 1) := by decide +kernel
theorem dX8_walk_1 : decode cX8_walk 1 = .ok (.iload_n 1, 1) := by decide +kernel
theorem dX8_walk_2 : decode cX8_walk 2 = .ok (.invokevirtual 136, 3) := by decide +kernel
theorem dX8_walk_5 : decode cX8_walk 5 = .ok (.ifCond .eq 9, 3) := by decide +kernel
theorem dX8_walk_8 : decode cX8_walk 8 = .ok (.iload_n 2, 1) := by decide +kernel
theorem dX8_walk_9 : decode cX8_walk 9 = .ok (.bipush (-2), 2) := by decide +kernel
theorem dX8_walk_11 : decode cX8_walk 11 = .ok (.if_icmp .ge 5, 3) := by decide +kernel
theorem dX8_walk_14 : decode cX8_walk 14 = .ok (.iconst (-1), 1) := by decide +kernel
theorem dX8_walk_15 : decode cX8_walk 15 = .ok (.ireturn, 1) := by decide +kernel
theorem dX8_walk_16 : decode cX8_walk 16 = .ok (.iload_n 2, 1) := by decide +kernel
theorem dX8_walk_17 : decode cX8_walk 17 = .ok (.aload_n 0, 1) := by decide +kernel
theorem dX8_walk_18 : decode cX8_walk 18 = .ok (.iload_n 1, 1) := by decide +kernel
theorem dX8_walk_19 : decode cX8_walk 19 = .ok (.invokevirtual 139, 3) := by decide +kernel
theorem dX8_walk_22 : decode cX8_walk 22 = .ok (.if_icmp .lt 8, 3) := by decide +kernel
theorem dX8_walk_25 : decode cX8_walk 25 = .ok (.bipush (-4), 2) := by decide +kernel
theorem dX8_walk_27 : decode cX8_walk 27 = .ok (.goto 19, 3) := by decide +kernel
theorem dX8_walk_30 : decode cX8_walk 30 = .ok (.aload_n 0, 1) := by decide +kernel
theorem dX8_walk_31 : decode cX8_walk 31 = .ok (.getfield 19, 3) := by decide +kernel
theorem dX8_walk_34 : decode cX8_walk 34 = .ok (.bipush 17, 2) := by decide +kernel
theorem dX8_walk_36 : decode cX8_walk 36 = .ok (.bipush 7, 2) := by decide +kernel
theorem dX8_walk_38 : decode cX8_walk 38 = .ok (.iload_n 1, 1) := by decide +kernel
theorem dX8_walk_39 : decode cX8_walk 39 = .ok (.imul, 1) := by decide +kernel
theorem dX8_walk_40 : decode cX8_walk 40 = .ok (.iadd, 1) := by decide +kernel
theorem dX8_walk_41 : decode cX8_walk 41 = .ok (.iconst 2, 1) := by decide +kernel
theorem dX8_walk_42 : decode cX8_walk 42 = .ok (.iadd, 1) := by decide +kernel
theorem dX8_walk_43 : decode cX8_walk 43 = .ok (.iload_n 2, 1) := by decide +kernel
theorem dX8_walk_44 : decode cX8_walk 44 = .ok (.iadd, 1) := by decide +kernel
theorem dX8_walk_45 : decode cX8_walk 45 = .ok (.iaload, 1) := by decide +kernel
theorem dX8_walk_46 : decode cX8_walk 46 = .ok (.ireturn, 1) := by decide +kernel
theorem dX8_note_0 : decode cX8_note 0 = .ok (.aload_n 0, 1) := by decide +kernel
theorem dX8_note_1 : decode cX8_note 1 = .ok (.getfield 122, 3) := by decide +kernel
theorem dX8_note_4 : decode cX8_note 4 = .ok (.bipush 8, 2) := by decide +kernel
theorem dX8_note_6 : decode cX8_note 6 = .ok (.if_icmp .ne 43, 3) := by decide +kernel
theorem dX8_note_9 : decode cX8_note 9 = .ok (.iconst 0, 1) := by decide +kernel
theorem dX8_note_10 : decode cX8_note 10 = .ok (.istore_n 1, 1) := by decide +kernel
theorem dX8_note_11 : decode cX8_note 11 = .ok (.iload_n 1, 1) := by decide +kernel
theorem dX8_note_12 : decode cX8_note 12 = .ok (.sipush 364, 3) := by decide +kernel
theorem dX8_note_15 : decode cX8_note 15 = .ok (.if_icmp .ge 24, 3) := by decide +kernel
theorem dX8_note_18 : decode cX8_note 18 = .ok (.aload_n 0, 1) := by decide +kernel
theorem dX8_note_19 : decode cX8_note 19 = .ok (.getfield 25, 3) := by decide +kernel
theorem dX8_note_22 : decode cX8_note 22 = .ok (.iload_n 1, 1) := by decide +kernel
theorem dX8_note_23 : decode cX8_note 23 = .ok (.aload_n 0, 1) := by decide +kernel
theorem dX8_note_24 : decode cX8_note 24 = .ok (.getfield 25, 3) := by decide +kernel
theorem dX8_note_27 : decode cX8_note 27 = .ok (.bipush 52, 2) := by decide +kernel
theorem dX8_note_29 : decode cX8_note 29 = .ok (.iload_n 1, 1) := by decide +kernel
theorem dX8_note_30 : decode cX8_note 30 = .ok (.iadd, 1) := by decide +kernel
theorem dX8_note_31 : decode cX8_note 31 = .ok (.iaload, 1) := by decide +kernel
theorem dX8_note_32 : decode cX8_note 32 = .ok (.iastore, 1) := by decide +kernel
theorem dX8_note_33 : decode cX8_note 33 = .ok (.iinc 1 1, 3) := by decide +kernel
theorem dX8_note_36 : decode cX8_note 36 = .ok (.goto (-25), 3) := by decide +kernel
theorem dX8_note_39 : decode cX8_note 39 = .ok (.aload_n 0, 1) := by decide +kernel
theorem dX8_note_40 : decode cX8_note 40 = .ok (.dup, 1) := by decide +kernel
theorem dX8_note_41 : decode cX8_note 41 = .ok (.getfield 122, 3) := by decide +kernel
theorem dX8_note_44 : decode cX8_note 44 = .ok (.iconst 1, 1) := by decide +kernel
theorem dX8_note_45 : decode cX8_note 45 = .ok (.isub, 1) := by decide +kernel
theorem dX8_note_46 : decode cX8_note 46 = .ok (.putfield 122, 3) := by decide +kernel
theorem dX8_note_49 : decode cX8_note 49 = .ok (.iconst 0, 1) := by decide +kernel
theorem dX8_note_50 : decode cX8_note 50 = .ok (.istore_n 1, 1) := by decide +kernel
theorem dX8_note_51 : decode cX8_note 51 = .ok (.iload_n 1, 1) := by decide +kernel
theorem dX8_note_52 : decode cX8_note 52 = .ok (.bipush 52, 2) := by decide +kernel
theorem dX8_note_54 : decode cX8_note 54 = .ok (.if_icmp .ge 29, 3) := by decide +kernel
theorem dX8_note_57 : decode cX8_note 57 = .ok (.aload_n 0, 1) := by decide +kernel
theorem dX8_note_58 : decode cX8_note 58 = .ok (.getfield 25, 3) := by decide +kernel
theorem dX8_note_61 : decode cX8_note 61 = .ok (.bipush 52, 2) := by decide +kernel
theorem dX8_note_63 : decode cX8_note 63 = .ok (.aload_n 0, 1) := by decide +kernel
theorem dX8_note_64 : decode cX8_note 64 = .ok (.getfield 122, 3) := by decide +kernel
theorem dX8_note_67 : decode cX8_note 67 = .ok (.imul, 1) := by decide +kernel
theorem dX8_note_68 : decode cX8_note 68 = .ok (.iload_n 1, 1) := by decide +kernel
theorem dX8_note_69 : decode cX8_note 69 = .ok (.iadd, 1) := by decide +kernel
theorem dX8_note_70 : decode cX8_note 70 = .ok (.aload_n 0, 1) := by decide +kernel
theorem dX8_note_71 : decode cX8_note 71 = .ok (.getfield 19, 3) := by decide +kernel
theorem dX8_note_74 : decode cX8_note 74 = .ok (.iload_n 1, 1) := by decide +kernel
theorem dX8_note_75 : decode cX8_note 75 = .ok (.iaload, 1) := by decide +kernel
theorem dX8_note_76 : decode cX8_note 76 = .ok (.iastore, 1) := by decide +kernel
theorem dX8_note_77 : decode cX8_note 77 = .ok (.iinc 1 1, 3) := by decide +kernel
theorem dX8_note_80 : decode cX8_note 80 = .ok (.goto (-29), 3) := by decide +kernel
theorem dX8_note_83 : decode cX8_note 83 = .ok (.aload_n 0, 1) := by decide +kernel
theorem dX8_note_84 : decode cX8_note 84 = .ok (.dup, 1) := by decide +kernel
theorem dX8_note_85 : decode cX8_note 85 = .ok (.getfield 122, 3) := by decide +kernel
theorem dX8_note_88 : decode cX8_note 88 = .ok (.iconst 1, 1) := by decide +kernel
theorem dX8_note_89 : decode cX8_note 89 = .ok (.iadd, 1) := by decide +kernel
theorem dX8_note_90 : decode cX8_note 90 = .ok (.putfield 122, 3) := by decide +kernel
theorem dX8_note_93 : decode cX8_note 93 = .ok (.return_, 1) := by decide +kernel
theorem dX8_exchange_0 : decode cX8_exchange 0 = .ok (.aload_n 0, 1) := by decide +kernel
theorem dX8_exchange_1 : decode cX8_exchange 1 = .ok (.getfield 19, 3) := by decide +kernel
theorem dX8_exchange_4 : decode cX8_exchange 4 = .ok (.iload_n 1, 1) := by decide +kernel
theorem dX8_exchange_5 : decode cX8_exchange 5 = .ok (.iaload, 1) := by decide +kernel
theorem dX8_exchange_6 : decode cX8_exchange 6 = .ok (.istore_n 3, 1) := by decide +kernel
theorem dX8_exchange_7 : decode cX8_exchange 7 = .ok (.aload_n 0, 1) := by decide +kernel
theorem dX8_exchange_8 : decode cX8_exchange 8 = .ok (.getfield 19, 3) := by decide +kernel
theorem dX8_exchange_11 : decode cX8_exchange 11 = .ok (.iload_n 1, 1) := by decide +kernel
theorem dX8_exchange_12 : decode cX8_exchange 12 = .ok (.aload_n 0, 1) := by decide +kernel
theorem dX8_exchange_13 : decode cX8_exchange 13 = .ok (.getfield 19, 3) := by decide +kernel
theorem dX8_exchange_16 : decode cX8_exchange 16 = .ok (.iload_n 2, 1) := by decide +kernel
theorem dX8_exchange_17 : decode cX8_exchange 17 = .ok (.iaload, 1) := by decide +kernel
theorem dX8_exchange_18 : decode cX8_exchange 18 = .ok (.iastore, 1) := by decide +kernel
theorem dX8_exchange_19 : decode cX8_exchange 19 = .ok (.aload_n 0, 1) := by decide +kernel
theorem dX8_exchange_20 : decode cX8_exchange 20 = .ok (.getfield 19, 3) := by decide +kernel
theorem dX8_exchange_23 : decode cX8_exchange 23 = .ok (.iload_n 2, 1) := by decide +kernel
theorem dX8_exchange_24 : decode cX8_exchange 24 = .ok (.iload_n 3, 1) := by decide +kernel
theorem dX8_exchange_25 : decode cX8_exchange 25 = .ok (.iastore, 1) := by decide +kernel
theorem dX8_exchange_26 : decode cX8_exchange 26 = .ok (.return_, 1) := by decide +kernel
set_option maxRecDepth 20000 in
theorem ggX8_swap_X8_isPlace : GoodIn wsX8_swap wsX8_isPlace := goodIn_r _ [6, 7, 8, 9, 5, 10, 11, 12, 13, 14, 25, 26, 27, 28, 29, 30, 31, 32, 33, 34, 35, 36, 37, 38, 39, 40, 41, 42, 43, 44, 45, 46] (by decide +kernel) (by decide +kernel)
set_option maxRecDepth 20000 in
theorem gX8_swap_X8_isPlace : GoodIn wsX8_swap (wsV RX8 128 RX8 yX8_isPlace wsX8_isPlace) := goodIn_app (goodIn_of _ (by decide +kernel)) ggX8_swap_X8_isPlace
set_option maxRecDepth 20000 in
theorem ggX8_swap_X8_note : GoodIn wsX8_swap wsX8_note := goodIn_r _ [18, 19, 20, 1, 25, 26, 27, 28, 29, 30, 31, 32, 33, 34, 35, 36, 37, 38, 39, 40, 41, 42, 43, 44, 45, 46] (by decide +kernel) (by decide +kernel)
set_option maxRecDepth 20000 in
theorem gX8_swap_X8_note : GoodIn wsX8_swap (wsV RX8 142 RX8 yX8_note wsX8_note) := goodIn_app (goodIn_of _ (by decide +kernel)) ggX8_swap_X8_note
set_option maxRecDepth 20000 in
theorem ggX8_swap_X8_exchange : GoodIn wsX8_swap wsX8_exchange := goodIn_r _ [24, 1, 25, 26, 27, 28, 29, 30, 31, 32, 33, 34, 35, 36, 37, 38, 39, 40, 41, 42, 43, 44, 45, 46] (by decide +kernel) (by decide +kernel)
set_option maxRecDepth 20000 in
theorem gX8_swap_X8_exchange : GoodIn wsX8_swap (wsV RX8 145 RX8 yX8_exchange wsX8_exchange) := goodIn_app (goodIn_of _ (by decide +kernel)) ggX8_swap_X8_exchange
theorem dX8_swap_0 : decode cX8_swap 0 = .ok (.aload_n 0, 1) := by decide +kernel
theorem dX8_swap_1 : decode cX8_swap 1 = .ok (.iload_n 1, 1) := by decide +kernel
theorem dX8_swap_2 : decode cX8_swap 2 = .ok (.invokevirtual 128, 3) := by decide +kernel
theorem dX8_swap_5 : decode cX8_swap 5 = .ok (.ifCond .eq 16, 3) := by decide +kernel
theorem dX8_swap_8 : decode cX8_swap 8 = .ok (.aload_n 0, 1) := by decide +kernel
theorem dX8_swap_9 : decode cX8_swap 9 = .ok (.iload_n 2, 1) := by decide +kernel
theorem dX8_swap_10 : decode cX8_swap 10 = .ok (.invokevirtual 128, 3) := by decide +kernel
theorem dX8_swap_13 : decode cX8_swap 13 = .ok (.ifCond .eq 8, 3) := by decide +kernel
theorem dX8_swap_16 : decode cX8_swap 16 = .ok (.iload_n 1, 1) := by decide +kernel
theorem dX8_swap_17 : decode cX8_swap 17 = .ok (.iload_n 2, 1) := by decide +kernel
theorem dX8_swap_18 : decode cX8_swap 18 = .ok (.if_icmp .ne 5, 3) := by decide +kernel
theorem dX8_swap_21 : decode cX8_swap 21 = .ok (.iconst (-1), 1) := by decide +kernel
theorem dX8_swap_22 : decode cX8_swap 22 = .ok (.ireturn, 1) := by decide +kernel
theorem dX8_swap_23 : decode cX8_swap 23 = .ok (.aload_n 0, 1) := by decide +kernel
theorem dX8_swap_24 : decode cX8_swap 24 = .ok (.invokevirtual 142, 3) := by decide +kernel
theorem dX8_swap_27 : decode cX8_swap 27 = .ok (.aload_n 0, 1) := by decide +kernel
theorem dX8_swap_28 : decode cX8_swap 28 = .ok (.iload_n 1, 1) := by decide +kernel
theorem dX8_swap_29 : decode cX8_swap 29 = .ok (.iload_n 2, 1) := by decide +kernel
theorem dX8_swap_30 : decode cX8_swap 30 = .ok (.invokevirtual 145, 3) := by decide +kernel
theorem dX8_swap_33 : decode cX8_swap 33 = .ok (.aload_n 0, 1) := by decide +kernel
theorem dX8_swap_34 : decode cX8_swap 34 = .ok (.getfield 19, 3) := by decide +kernel
theorem dX8_swap_37 : decode cX8_swap 37 = .ok (.iload_n 1, 1) := by decide +kernel
theorem dX8_swap_38 : decode cX8_swap 38 = .ok (.iaload, 1) := by decide +kernel
theorem dX8_swap_39 : decode cX8_swap 39 = .ok (.ireturn, 1) := by decide +kernel
set_option maxRecDepth 20000 in
theorem ggX8_alter_X8_isPlace : GoodIn wsX8_alter wsX8_isPlace := goodIn_r _ [7, 8, 9, 10, 6, 11, 12, 13, 14, 15, 22, 23, 24, 25, 26, 27, 28, 29, 30, 31, 32, 33, 34, 35, 36, 37, 38, 39, 40, 41, 42, 43] (by decide +kernel) (by decide +kernel)
set_option maxRecDepth 20000 in
theorem gX8_alter_X8_isPlace : GoodIn wsX8_alter (wsV RX8 128 RX8 yX8_isPlace wsX8_isPlace) := goodIn_app (goodIn_of _ (by decide +kernel)) ggX8_alter_X8_isPlace
set_option maxRecDepth 20000 in
theorem ggX8_alter_X8_in : GoodIn wsX8_alter wsX8_in := goodIn_r _ [15] (by decide +kernel) (by decide +kernel)
set_option maxRecDepth 20000 in
theorem gX8_alter_X8_in : GoodIn wsX8_alter (va_wsS RX8 70 yX8_in wsX8_in) := goodIn_app (goodIn_of _ (by decide +kernel)) ggX8_alter_X8_in
set_option maxRecDepth 20000 in
theorem ggX8_alter_X8_note : GoodIn wsX8_alter wsX8_note := goodIn_r _ [19, 20, 21, 2, 22, 23, 24, 25, 26, 27, 28, 29, 30, 31, 32, 33, 34, 35, 36, 37, 38, 39, 40, 41, 42, 43] (by decide +kernel) (by decide +kernel)
set_option maxRecDepth 20000 in
theorem gX8_alter_X8_note : GoodIn wsX8_alter (wsV RX8 142 RX8 yX8_note wsX8_note) := goodIn_app (goodIn_of _ (by decide +kernel)) ggX8_alter_X8_note
theorem dX8_alter_0 : decode cX8_alter 0 = .ok (.aload_n 0, 1) := by decide +kernel
theorem dX8_alter_1 : decode cX8_alter 1 = .ok (.iload_n 1, 1) := by decide +kernel
theorem dX8_alter_2 : decode cX8_alter 2 = .ok (.invokevirtual 128, 3) := by decide +kernel
theorem dX8_alter_5 : decode cX8_alter 5 = .ok (.ifCond .eq 15, 3) := by decide +kernel
theorem dX8_alter_8 : decode cX8_alter 8 = .ok (.iload_n 2, 1) := by decide +kernel
theorem dX8_alter_9 : decode cX8_alter 9 = .ok (.i2l, 1) := by decide +kernel
theorem dX8_alter_10 : decode cX8_alter 10 = .ok (.lconst 0, 1) := by decide +kernel
theorem dX8_alter_11 : decode cX8_alter 11 = .ok (.ldc2_w 95, 3) := by decide +kernel
theorem dX8_alter_14 : decode cX8_alter 14 = .ok (.invokestatic 70, 3) := by decide +kernel
theorem dX8_alter_17 : decode cX8_alter 17 = .ok (.ifCond .ne 5, 3) := by decide +kernel
theorem dX8_alter_20 : decode cX8_alter 20 = .ok (.iconst (-1), 1) := by decide +kernel
theorem dX8_alter_21 : decode cX8_alter 21 = .ok (.ireturn, 1) := by decide +kernel
theorem dX8_alter_22 : decode cX8_alter 22 = .ok (.aload_n 0, 1) := by decide +kernel
theorem dX8_alter_23 : decode cX8_alter 23 = .ok (.invokevirtual 142, 3) := by decide +kernel
theorem dX8_alter_26 : decode cX8_alter 26 = .ok (.aload_n 0, 1) := by decide +kernel
theorem dX8_alter_27 : decode cX8_alter 27 = .ok (.getfield 19, 3) := by decide +kernel
theorem dX8_alter_30 : decode cX8_alter 30 = .ok (.iload_n 1, 1) := by decide +kernel
theorem dX8_alter_31 : decode cX8_alter 31 = .ok (.iaload, 1) := by decide +kernel
theorem dX8_alter_32 : decode cX8_alter 32 = .ok (.istore_n 3, 1) := by decide +kernel
theorem dX8_alter_33 : decode cX8_alter 33 = .ok (.aload_n 0, 1) := by decide +kernel
theorem dX8_alter_34 : decode cX8_alter 34 = .ok (.getfield 19, 3) := by decide +kernel
theorem dX8_alter_37 : decode cX8_alter 37 = .ok (.iload_n 1, 1) := by decide +kernel
theorem dX8_alter_38 : decode cX8_alter 38 = .ok (.iload_n 2, 1) := by decide +kernel
theorem dX8_alter_39 : decode cX8_alter 39 = .ok (.iastore, 1) := by decide +kernel
theorem dX8_alter_40 : decode cX8_alter 40 = .ok (.iload_n 3, 1) := by decide +kernel
theorem dX8_alter_41 : decode cX8_alter 41 = .ok (.ireturn, 1) := by decide +kernel
set_option maxRecDepth 20000 in
theorem ggX8_tell_X8_in : GoodIn wsX8_tell wsX8_in := goodIn_r _ [9] (by decide +kernel) (by decide +kernel)
set_option maxRecDepth 20000 in
theorem gX8_tell_X8_in : GoodIn wsX8_tell (va_wsS RX8 70 yX8_in wsX8_in) := goodIn_app (goodIn_of _ (by decide +kernel)) ggX8_tell_X8_in
set_option maxRecDepth 20000 in
theorem ggX8_tell_X8_note : GoodIn wsX8_tell wsX8_note := goodIn_r _ [13, 14, 15, 5, 19, 20, 21, 22, 23, 24, 25, 26, 27, 28, 29, 30, 31, 32, 33, 34, 35, 36, 37, 38, 39, 40] (by decide +kernel) (by decide +kernel)
set_option maxRecDepth 20000 in
theorem gX8_tell_X8_note : GoodIn wsX8_tell (wsV RX8 142 RX8 yX8_note wsX8_note) := goodIn_app (goodIn_of _ (by decide +kernel)) ggX8_tell_X8_note
set_option maxRecDepth 20000 in
theorem ggX8_tell_X8_addWalk : GoodIn wsX8_tell wsX8_addWalk := goodIn_r _ [18] (by decide +kernel) (by decide +kernel)
set_option maxRecDepth 20000 in
theorem gX8_tell_X8_addWalk : GoodIn wsX8_tell (va_wsS RX8 59 yX8_addWalk wsX8_addWalk) := goodIn_app (goodIn_of _ (by decide +kernel)) ggX8_tell_X8_addWalk
theorem dX8_tell_0 : decode cX8_tell 0 = .ok (.iload_n 1, 1) := by decide +kernel
theorem dX8_tell_1 : decode cX8_tell 1 = .ok (.i2l, 1) := by decide +kernel
theorem dX8_tell_2 : decode cX8_tell 2 = .ok (.lconst 0, 1) := by decide +kernel
theorem dX8_tell_3 : decode cX8_tell 3 = .ok (.ldc2_w 93, 3) := by decide +kernel
theorem dX8_tell_6 : decode cX8_tell 6 = .ok (.invokestatic 70, 3) := by decide +kernel
theorem dX8_tell_9 : decode cX8_tell 9 = .ok (.ifCond .eq 21, 3) := by decide +kernel
theorem dX8_tell_12 : decode cX8_tell 12 = .ok (.iload_n 2, 1) := by decide +kernel
theorem dX8_tell_13 : decode cX8_tell 13 = .ok (.i2l, 1) := by decide +kernel
theorem dX8_tell_14 : decode cX8_tell 14 = .ok (.ldc2_w 149, 3) := by decide +kernel
theorem dX8_tell_17 : decode cX8_tell 17 = .ok (.ldc2_w 151, 3) := by decide +kernel
theorem dX8_tell_20 : decode cX8_tell 20 = .ok (.invokestatic 70, 3) := by decide +kernel
theorem dX8_tell_23 : decode cX8_tell 23 = .ok (.ifCond .eq 7, 3) := by decide +kernel
theorem dX8_tell_26 : decode cX8_tell 26 = .ok (.iconst 1, 1) := by decide +kernel
theorem dX8_tell_27 : decode cX8_tell 27 = .ok (.goto 4, 3) := by decide +kernel
theorem dX8_tell_30 : decode cX8_tell 30 = .ok (.iconst 0, 1) := by decide +kernel
theorem dX8_tell_31 : decode cX8_tell 31 = .ok (.istore_n 3, 1) := by decide +kernel
theorem dX8_tell_32 : decode cX8_tell 32 = .ok (.iload_n 2, 1) := by decide +kernel
theorem dX8_tell_33 : decode cX8_tell 33 = .ok (.istore 4, 2) := by decide +kernel
theorem dX8_tell_35 : decode cX8_tell 35 = .ok (.iload 4, 2) := by decide +kernel
theorem dX8_tell_37 : decode cX8_tell 37 = .ok (.ifCond .le 31, 3) := by decide +kernel
theorem dX8_tell_40 : decode cX8_tell 40 = .ok (.iload_n 3, 1) := by decide +kernel
theorem dX8_tell_41 : decode cX8_tell 41 = .ok (.ifCond .eq 27, 3) := by decide +kernel
theorem dX8_tell_44 : decode cX8_tell 44 = .ok (.iload 4, 2) := by decide +kernel
theorem dX8_tell_46 : decode cX8_tell 46 = .ok (.bipush 10, 2) := by decide +kernel
theorem dX8_tell_48 : decode cX8_tell 48 = .ok (.irem, 1) := by decide +kernel
theorem dX8_tell_49 : decode cX8_tell 49 = .ok (.i2l, 1) := by decide +kernel
theorem dX8_tell_50 : decode cX8_tell 50 = .ok (.lconst 1, 1) := by decide +kernel
theorem dX8_tell_51 : decode cX8_tell 51 = .ok (.ldc2_w 153, 3) := by decide +kernel
theorem dX8_tell_54 : decode cX8_tell 54 = .ok (.invokestatic 70, 3) := by decide +kernel
theorem dX8_tell_57 : decode cX8_tell 57 = .ok (.istore_n 3, 1) := by decide +kernel
theorem dX8_tell_58 : decode cX8_tell 58 = .ok (.iload 4, 2) := by decide +kernel
theorem dX8_tell_60 : decode cX8_tell 60 = .ok (.bipush 10, 2) := by decide +kernel
theorem dX8_tell_62 : decode cX8_tell 62 = .ok (.idiv, 1) := by decide +kernel
theorem dX8_tell_63 : decode cX8_tell 63 = .ok (.istore 4, 2) := by decide +kernel
theorem dX8_tell_65 : decode cX8_tell 65 = .ok (.goto (-30), 3) := by decide +kernel
theorem dX8_tell_68 : decode cX8_tell 68 = .ok (.iload_n 3, 1) := by decide +kernel
theorem dX8_tell_69 : decode cX8_tell 69 = .ok (.ifCond .ne 5, 3) := by decide +kernel
theorem dX8_tell_72 : decode cX8_tell 72 = .ok (.iconst (-1), 1) := by decide +kernel
theorem dX8_tell_73 : decode cX8_tell 73 = .ok (.ireturn, 1) := by decide +kernel
theorem dX8_tell_74 : decode cX8_tell 74 = .ok (.aload_n 0, 1) := by decide +kernel
theorem dX8_tell_75 : decode cX8_tell 75 = .ok (.getfield 19, 3) := by decide +kernel
theorem dX8_tell_78 : decode cX8_tell 78 = .ok (.bipush 16, 2) := by decide +kernel
theorem dX8_tell_80 : decode cX8_tell 80 = .ok (.iaload, 1) := by decide +kernel
theorem dX8_tell_81 : decode cX8_tell 81 = .ok (.iconst 5, 1) := by decide +kernel
theorem dX8_tell_82 : decode cX8_tell 82 = .ok (.if_icmp .ne 6, 3) := by decide +kernel
theorem dX8_tell_85 : decode cX8_tell 85 = .ok (.bipush (-3), 2) := by decide +kernel
theorem dX8_tell_87 : decode cX8_tell 87 = .ok (.ireturn, 1) := by decide +kernel
theorem dX8_tell_88 : decode cX8_tell 88 = .ok (.aload_n 0, 1) := by decide +kernel
theorem dX8_tell_89 : decode cX8_tell 89 = .ok (.invokevirtual 142, 3) := by decide +kernel
theorem dX8_tell_92 : decode cX8_tell 92 = .ok (.aload_n 0, 1) := by decide +kernel
theorem dX8_tell_93 : decode cX8_tell 93 = .ok (.getfield 19, 3) := by decide +kernel
theorem dX8_tell_96 : decode cX8_tell 96 = .ok (.iload_n 1, 1) := by decide +kernel
theorem dX8_tell_97 : decode cX8_tell 97 = .ok (.iload_n 2, 1) := by decide +kernel
theorem dX8_tell_98 : decode cX8_tell 98 = .ok (.invokestatic 59, 3) := by decide +kernel
theorem dX8_tell_101 : decode cX8_tell 101 = .ok (.aload_n 0, 1) := by decide +kernel
theorem dX8_tell_102 : decode cX8_tell 102 = .ok (.getfield 19, 3) := by decide +kernel
theorem dX8_tell_105 : decode cX8_tell 105 = .ok (.bipush 16, 2) := by decide +kernel
theorem dX8_tell_107 : decode cX8_tell 107 = .ok (.iaload, 1) := by decide +kernel
theorem dX8_tell_108 : decode cX8_tell 108 = .ok (.ireturn, 1) := by decide +kernel
set_option maxRecDepth 20000 in
theorem ggX8_strike_X8_isWalk : GoodIn wsX8_strike wsX8_isWalk := goodIn_r _ [6, 1, 7, 8, 5, 9, 16, 17, 18, 19, 20, 21, 22, 23, 24, 25, 26, 27, 28, 29, 30, 31, 32, 33, 34, 35, 36, 37] (by decide +kernel) (by decide +kernel)
set_option maxRecDepth 20000 in
theorem gX8_strike_X8_isWalk : GoodIn wsX8_strike (wsV RX8 136 RX8 yX8_isWalk wsX8_isWalk) := goodIn_app (goodIn_of _ (by decide +kernel)) ggX8_strike_X8_isWalk
set_option maxRecDepth 20000 in
theorem ggX8_strike_X8_note : GoodIn wsX8_strike wsX8_note := goodIn_r _ [13, 14, 15, 1, 16, 17, 18, 19, 20, 21, 22, 23, 24, 25, 26, 27, 28, 29, 30, 31, 32, 33, 34, 35, 36, 37] (by decide +kernel) (by decide +kernel)
set_option maxRecDepth 20000 in
theorem gX8_strike_X8_note : GoodIn wsX8_strike (wsV RX8 142 RX8 yX8_note wsX8_note) := goodIn_app (goodIn_of _ (by decide +kernel)) ggX8_strike_X8_note
theorem dX8_strike_0 : decode cX8_strike 0 = .ok (.aload_n 0, 1) := by decide +kernel
theorem dX8_strike_1 : decode cX8_strike 1 = .ok (.iload_n 1, 1) := by decide +kernel
theorem dX8_strike_2 : decode cX8_strike 2 = .ok (.invokevirtual 136, 3) := by decide +kernel
theorem dX8_strike_5 : decode cX8_strike 5 = .ok (.ifCond .ne 5, 3) := by decide +kernel
theorem dX8_strike_8 : decode cX8_strike 8 = .ok (.iconst (-1), 1) := by decide +kernel
theorem dX8_strike_9 : decode cX8_strike 9 = .ok (.ireturn, 1) := by decide +kernel
theorem dX8_strike_10 : decode cX8_strike 10 = .ok (.aload_n 0, 1) := by decide +kernel
theorem dX8_strike_11 : decode cX8_strike 11 = .ok (.invokevirtual 142, 3) := by decide +kernel
theorem dX8_strike_14 : decode cX8_strike 14 = .ok (.bipush 17, 2) := by decide +kernel
theorem dX8_strike_16 : decode cX8_strike 16 = .ok (.bipush 7, 2) := by decide +kernel
theorem dX8_strike_18 : decode cX8_strike 18 = .ok (.iload_n 1, 1) := by decide +kernel
theorem dX8_strike_19 : decode cX8_strike 19 = .ok (.imul, 1) := by decide +kernel
theorem dX8_strike_20 : decode cX8_strike 20 = .ok (.iadd, 1) := by decide +kernel
theorem dX8_strike_21 : decode cX8_strike 21 = .ok (.istore_n 2, 1) := by decide +kernel
theorem dX8_strike_22 : decode cX8_strike 22 = .ok (.iload_n 2, 1) := by decide +kernel
theorem dX8_strike_23 : decode cX8_strike 23 = .ok (.bipush 52, 2) := by decide +kernel
theorem dX8_strike_25 : decode cX8_strike 25 = .ok (.if_icmp .ge 37, 3) := by decide +kernel
theorem dX8_strike_28 : decode cX8_strike 28 = .ok (.aload_n 0, 1) := by decide +kernel
theorem dX8_strike_29 : decode cX8_strike 29 = .ok (.getfield 19, 3) := by decide +kernel
theorem dX8_strike_32 : decode cX8_strike 32 = .ok (.iload_n 2, 1) := by decide +kernel
theorem dX8_strike_33 : decode cX8_strike 33 = .ok (.iload_n 2, 1) := by decide +kernel
theorem dX8_strike_34 : decode cX8_strike 34 = .ok (.bipush 7, 2) := by decide +kernel
theorem dX8_strike_36 : decode cX8_strike 36 = .ok (.iadd, 1) := by decide +kernel
theorem dX8_strike_37 : decode cX8_strike 37 = .ok (.bipush 52, 2) := by decide +kernel
theorem dX8_strike_39 : decode cX8_strike 39 = .ok (.if_icmp .ge 15, 3) := by decide +kernel
theorem dX8_strike_42 : decode cX8_strike 42 = .ok (.aload_n 0, 1) := by decide +kernel
theorem dX8_strike_43 : decode cX8_strike 43 = .ok (.getfield 19, 3) := by decide +kernel
theorem dX8_strike_46 : decode cX8_strike 46 = .ok (.iload_n 2, 1) := by decide +kernel
theorem dX8_strike_47 : decode cX8_strike 47 = .ok (.bipush 7, 2) := by decide +kernel
theorem dX8_strike_49 : decode cX8_strike 49 = .ok (.iadd, 1) := by decide +kernel
theorem dX8_strike_50 : decode cX8_strike 50 = .ok (.iaload, 1) := by decide +kernel
theorem dX8_strike_51 : decode cX8_strike 51 = .ok (.goto 4, 3) := by decide +kernel
theorem dX8_strike_54 : decode cX8_strike 54 = .ok (.iconst 0, 1) := by decide +kernel
theorem dX8_strike_55 : decode cX8_strike 55 = .ok (.iastore, 1) := by decide +kernel
theorem dX8_strike_56 : decode cX8_strike 56 = .ok (.iinc 2 1, 3) := by decide +kernel
theorem dX8_strike_59 : decode cX8_strike 59 = .ok (.goto (-37), 3) := by decide +kernel
theorem dX8_strike_62 : decode cX8_strike 62 = .ok (.aload_n 0, 1) := by decide +kernel
theorem dX8_strike_63 : decode cX8_strike 63 = .ok (.getfield 19, 3) := by decide +kernel
theorem dX8_strike_66 : decode cX8_strike 66 = .ok (.bipush 16, 2) := by decide +kernel
theorem dX8_strike_68 : decode cX8_strike 68 = .ok (.dup2, 1) := by decide +kernel
theorem dX8_strike_69 : decode cX8_strike 69 = .ok (.iaload, 1) := by decide +kernel
theorem dX8_strike_70 : decode cX8_strike 70 = .ok (.iconst 1, 1) := by decide +kernel
theorem dX8_strike_71 : decode cX8_strike 71 = .ok (.isub, 1) := by decide +kernel
theorem dX8_strike_72 : decode cX8_strike 72 = .ok (.iastore, 1) := by decide +kernel
theorem dX8_strike_73 : decode cX8_strike 73 = .ok (.aload_n 0, 1) := by decide +kernel
theorem dX8_strike_74 : decode cX8_strike 74 = .ok (.getfield 19, 3) := by decide +kernel
theorem dX8_strike_77 : decode cX8_strike 77 = .ok (.bipush 16, 2) := by decide +kernel
theorem dX8_strike_79 : decode cX8_strike 79 = .ok (.iaload, 1) := by decide +kernel
theorem dX8_strike_80 : decode cX8_strike 80 = .ok (.ireturn, 1) := by decide +kernel
theorem dX8_undo_0 : decode cX8_undo 0 = .ok (.aload_n 0, 1) := by decide +kernel
theorem dX8_undo_1 : decode cX8_undo 1 = .ok (.getfield 122, 3) := by decide +kernel
theorem dX8_undo_4 : decode cX8_undo 4 = .ok (.ifCond .ne 6, 3) := by decide +kernel
theorem dX8_undo_7 : decode cX8_undo 7 = .ok (.bipush (-2), 2) := by decide +kernel
theorem dX8_undo_9 : decode cX8_undo 9 = .ok (.ireturn, 1) := by decide +kernel
theorem dX8_undo_10 : decode cX8_undo 10 = .ok (.aload_n 0, 1) := by decide +kernel
theorem dX8_undo_11 : decode cX8_undo 11 = .ok (.dup, 1) := by decide +kernel
theorem dX8_undo_12 : decode cX8_undo 12 = .ok (.getfield 122, 3) := by decide +kernel
theorem dX8_undo_15 : decode cX8_undo 15 = .ok (.iconst 1, 1) := by decide +kernel
theorem dX8_undo_16 : decode cX8_undo 16 = .ok (.isub, 1) := by decide +kernel
theorem dX8_undo_17 : decode cX8_undo 17 = .ok (.putfield 122, 3) := by decide +kernel
theorem dX8_undo_20 : decode cX8_undo 20 = .ok (.iconst 0, 1) := by decide +kernel
theorem dX8_undo_21 : decode cX8_undo 21 = .ok (.istore_n 1, 1) := by decide +kernel
theorem dX8_undo_22 : decode cX8_undo 22 = .ok (.iload_n 1, 1) := by decide +kernel
theorem dX8_undo_23 : decode cX8_undo 23 = .ok (.bipush 52, 2) := by decide +kernel
theorem dX8_undo_25 : decode cX8_undo 25 = .ok (.if_icmp .ge 29, 3) := by decide +kernel
theorem dX8_undo_28 : decode cX8_undo 28 = .ok (.aload_n 0, 1) := by decide +kernel
theorem dX8_undo_29 : decode cX8_undo 29 = .ok (.getfield 19, 3) := by decide +kernel
theorem dX8_undo_32 : decode cX8_undo 32 = .ok (.iload_n 1, 1) := by decide +kernel
theorem dX8_undo_33 : decode cX8_undo 33 = .ok (.aload_n 0, 1) := by decide +kernel
theorem dX8_undo_34 : decode cX8_undo 34 = .ok (.getfield 25, 3) := by decide +kernel
theorem dX8_undo_37 : decode cX8_undo 37 = .ok (.bipush 52, 2) := by decide +kernel
theorem dX8_undo_39 : decode cX8_undo 39 = .ok (.aload_n 0, 1) := by decide +kernel
theorem dX8_undo_40 : decode cX8_undo 40 = .ok (.getfield 122, 3) := by decide +kernel
theorem dX8_undo_43 : decode cX8_undo 43 = .ok (.imul, 1) := by decide +kernel
theorem dX8_undo_44 : decode cX8_undo 44 = .ok (.iload_n 1, 1) := by decide +kernel
theorem dX8_undo_45 : decode cX8_undo 45 = .ok (.iadd, 1) := by decide +kernel
theorem dX8_undo_46 : decode cX8_undo 46 = .ok (.iaload, 1) := by decide +kernel
theorem dX8_undo_47 : decode cX8_undo 47 = .ok (.iastore, 1) := by decide +kernel
theorem dX8_undo_48 : decode cX8_undo 48 = .ok (.iinc 1 1, 3) := by decide +kernel
theorem dX8_undo_51 : decode cX8_undo 51 = .ok (.goto (-29), 3) := by decide +kernel
theorem dX8_undo_54 : decode cX8_undo 54 = .ok (.aload_n 0, 1) := by decide +kernel
theorem dX8_undo_55 : decode cX8_undo 55 = .ok (.getfield 122, 3) := by decide +kernel
theorem dX8_undo_58 : decode cX8_undo 58 = .ok (.ireturn, 1) := by decide +kernel
set_option maxRecDepth 20000 in
theorem ggX8_take_X8_kindOf : GoodIn wsX8_take wsX8_kindOf := goodIn_r _ [9, 4, 14, 15, 16, 17, 18, 19, 20, 21, 22, 23, 24, 25, 26, 27, 28, 29, 30, 31, 32, 33, 34, 35] (by decide +kernel) (by decide +kernel)
set_option maxRecDepth 20000 in
theorem gX8_take_X8_kindOf : GoodIn wsX8_take (wsV RX8 155 RX8 yX8_kindOf wsX8_kindOf) := goodIn_app (goodIn_of _ (by decide +kernel)) ggX8_take_X8_kindOf
set_option maxRecDepth 20000 in
theorem ggX8_take_X8_marksOf : GoodIn wsX8_take wsX8_marksOf := goodIn_r _ [13, 4, 14, 15, 16, 17, 18, 19, 20, 21, 22, 23, 24, 25, 26, 27, 28, 29, 30, 31, 32, 33, 34, 35] (by decide +kernel) (by decide +kernel)
set_option maxRecDepth 20000 in
theorem gX8_take_X8_marksOf : GoodIn wsX8_take (wsV RX8 139 RX8 yX8_marksOf wsX8_marksOf) := goodIn_app (goodIn_of _ (by decide +kernel)) ggX8_take_X8_marksOf
theorem dX8_take_0 : decode cX8_take 0 = .ok (.aload_n 0, 1) := by decide +kernel
theorem dX8_take_1 : decode cX8_take 1 = .ok (.aload_n 0, 1) := by decide +kernel
theorem dX8_take_2 : decode cX8_take 2 = .ok (.iload_n 1, 1) := by decide +kernel
theorem dX8_take_3 : decode cX8_take 3 = .ok (.invokevirtual 155, 3) := by decide +kernel
theorem dX8_take_6 : decode cX8_take 6 = .ok (.putfield 158, 3) := by decide +kernel
theorem dX8_take_9 : decode cX8_take 9 = .ok (.aload_n 0, 1) := by decide +kernel
theorem dX8_take_10 : decode cX8_take 10 = .ok (.aload_n 0, 1) := by decide +kernel
theorem dX8_take_11 : decode cX8_take 11 = .ok (.iload_n 1, 1) := by decide +kernel
theorem dX8_take_12 : decode cX8_take 12 = .ok (.invokevirtual 139, 3) := by decide +kernel
theorem dX8_take_15 : decode cX8_take 15 = .ok (.putfield 161, 3) := by decide +kernel
theorem dX8_take_18 : decode cX8_take 18 = .ok (.iconst 0, 1) := by decide +kernel
theorem dX8_take_19 : decode cX8_take 19 = .ok (.istore_n 2, 1) := by decide +kernel
theorem dX8_take_20 : decode cX8_take 20 = .ok (.iload_n 2, 1) := by decide +kernel
theorem dX8_take_21 : decode cX8_take 21 = .ok (.aload_n 0, 1) := by decide +kernel
theorem dX8_take_22 : decode cX8_take 22 = .ok (.getfield 161, 3) := by decide +kernel
theorem dX8_take_25 : decode cX8_take 25 = .ok (.if_icmp .ge 50, 3) := by decide +kernel
theorem dX8_take_28 : decode cX8_take 28 = .ok (.aload_n 0, 1) := by decide +kernel
theorem dX8_take_29 : decode cX8_take 29 = .ok (.getfield 34, 3) := by decide +kernel
theorem dX8_take_32 : decode cX8_take 32 = .ok (.iload_n 2, 1) := by decide +kernel
theorem dX8_take_33 : decode cX8_take 33 = .ok (.aload_n 0, 1) := by decide +kernel
theorem dX8_take_34 : decode cX8_take 34 = .ok (.getfield 19, 3) := by decide +kernel
theorem dX8_take_37 : decode cX8_take 37 = .ok (.bipush 17, 2) := by decide +kernel
theorem dX8_take_39 : decode cX8_take 39 = .ok (.bipush 7, 2) := by decide +kernel
theorem dX8_take_41 : decode cX8_take 41 = .ok (.iload_n 1, 1) := by decide +kernel
theorem dX8_take_42 : decode cX8_take 42 = .ok (.imul, 1) := by decide +kernel
theorem dX8_take_43 : decode cX8_take 43 = .ok (.iadd, 1) := by decide +kernel
theorem dX8_take_44 : decode cX8_take 44 = .ok (.iconst 2, 1) := by decide +kernel
theorem dX8_take_45 : decode cX8_take 45 = .ok (.iadd, 1) := by decide +kernel
theorem dX8_take_46 : decode cX8_take 46 = .ok (.aload_n 0, 1) := by decide +kernel
theorem dX8_take_47 : decode cX8_take 47 = .ok (.getfield 158, 3) := by decide +kernel
theorem dX8_take_50 : decode cX8_take 50 = .ok (.iconst 1, 1) := by decide +kernel
theorem dX8_take_51 : decode cX8_take 51 = .ok (.if_icmp .ne 14, 3) := by decide +kernel
theorem dX8_take_54 : decode cX8_take 54 = .ok (.aload_n 0, 1) := by decide +kernel
theorem dX8_take_55 : decode cX8_take 55 = .ok (.getfield 161, 3) := by decide +kernel
theorem dX8_take_58 : decode cX8_take 58 = .ok (.iconst 1, 1) := by decide +kernel
theorem dX8_take_59 : decode cX8_take 59 = .ok (.isub, 1) := by decide +kernel
theorem dX8_take_60 : decode cX8_take 60 = .ok (.iload_n 2, 1) := by decide +kernel
theorem dX8_take_61 : decode cX8_take 61 = .ok (.isub, 1) := by decide +kernel
theorem dX8_take_62 : decode cX8_take 62 = .ok (.goto 4, 3) := by decide +kernel
theorem dX8_take_65 : decode cX8_take 65 = .ok (.iload_n 2, 1) := by decide +kernel
theorem dX8_take_66 : decode cX8_take 66 = .ok (.iadd, 1) := by decide +kernel
theorem dX8_take_67 : decode cX8_take 67 = .ok (.iaload, 1) := by decide +kernel
theorem dX8_take_68 : decode cX8_take 68 = .ok (.iastore, 1) := by decide +kernel
theorem dX8_take_69 : decode cX8_take 69 = .ok (.iinc 2 1, 3) := by decide +kernel
theorem dX8_take_72 : decode cX8_take 72 = .ok (.goto (-52), 3) := by decide +kernel
theorem dX8_take_75 : decode cX8_take 75 = .ok (.return_, 1) := by decide +kernel
theorem dX8_apart_0 : decode cX8_apart 0 = .ok (.iload_n 1, 1) := by decide +kernel
theorem dX8_apart_1 : decode cX8_apart 1 = .ok (.aload_n 0, 1) := by decide +kernel
theorem dX8_apart_2 : decode cX8_apart 2 = .ok (.getfield 13, 3) := by decide +kernel
theorem dX8_apart_5 : decode cX8_apart 5 = .ok (.iconst 1, 1) := by decide +kernel
theorem dX8_apart_6 : decode cX8_apart 6 = .ok (.iaload, 1) := by decide +kernel
theorem dX8_apart_7 : decode cX8_apart 7 = .ok (.idiv, 1) := by decide +kernel
theorem dX8_apart_8 : decode cX8_apart 8 = .ok (.iload_n 2, 1) := by decide +kernel
theorem dX8_apart_9 : decode cX8_apart 9 = .ok (.aload_n 0, 1) := by decide +kernel
theorem dX8_apart_10 : decode cX8_apart 10 = .ok (.getfield 13, 3) := by decide +kernel
theorem dX8_apart_13 : decode cX8_apart 13 = .ok (.iconst 1, 1) := by decide +kernel
theorem dX8_apart_14 : decode cX8_apart 14 = .ok (.iaload, 1) := by decide +kernel
theorem dX8_apart_15 : decode cX8_apart 15 = .ok (.idiv, 1) := by decide +kernel
theorem dX8_apart_16 : decode cX8_apart 16 = .ok (.isub, 1) := by decide +kernel
theorem dX8_apart_17 : decode cX8_apart 17 = .ok (.istore_n 3, 1) := by decide +kernel
theorem dX8_apart_18 : decode cX8_apart 18 = .ok (.iload_n 1, 1) := by decide +kernel
theorem dX8_apart_19 : decode cX8_apart 19 = .ok (.aload_n 0, 1) := by decide +kernel
theorem dX8_apart_20 : decode cX8_apart 20 = .ok (.getfield 13, 3) := by decide +kernel
theorem dX8_apart_23 : decode cX8_apart 23 = .ok (.iconst 1, 1) := by decide +kernel
theorem dX8_apart_24 : decode cX8_apart 24 = .ok (.iaload, 1) := by decide +kernel
theorem dX8_apart_25 : decode cX8_apart 25 = .ok (.irem, 1) := by decide +kernel
theorem dX8_apart_26 : decode cX8_apart 26 = .ok (.iload_n 2, 1) := by decide +kernel
theorem dX8_apart_27 : decode cX8_apart 27 = .ok (.aload_n 0, 1) := by decide +kernel
theorem dX8_apart_28 : decode cX8_apart 28 = .ok (.getfield 13, 3) := by decide +kernel
theorem dX8_apart_31 : decode cX8_apart 31 = .ok (.iconst 1, 1) := by decide +kernel
theorem dX8_apart_32 : decode cX8_apart 32 = .ok (.iaload, 1) := by decide +kernel
theorem dX8_apart_33 : decode cX8_apart 33 = .ok (.irem, 1) := by decide +kernel
theorem dX8_apart_34 : decode cX8_apart 34 = .ok (.isub, 1) := by decide +kernel
theorem dX8_apart_35 : decode cX8_apart 35 = .ok (.istore 4, 2) := by decide +kernel
theorem dX8_apart_37 : decode cX8_apart 37 = .ok (.iload_n 3, 1) := by decide +kernel
theorem dX8_apart_38 : decode cX8_apart 38 = .ok (.ifCond .ge 8, 3) := by decide +kernel
theorem dX8_apart_41 : decode cX8_apart 41 = .ok (.iload_n 3, 1) := by decide +kernel
theorem dX8_apart_42 : decode cX8_apart 42 = .ok (.ineg, 1) := by decide +kernel
theorem dX8_apart_43 : decode cX8_apart 43 = .ok (.goto 4, 3) := by decide +kernel
theorem dX8_apart_46 : decode cX8_apart 46 = .ok (.iload_n 3, 1) := by decide +kernel
theorem dX8_apart_47 : decode cX8_apart 47 = .ok (.iload 4, 2) := by decide +kernel
theorem dX8_apart_49 : decode cX8_apart 49 = .ok (.ifCond .ge 9, 3) := by decide +kernel
theorem dX8_apart_52 : decode cX8_apart 52 = .ok (.iload 4, 2) := by decide +kernel
theorem dX8_apart_54 : decode cX8_apart 54 = .ok (.ineg, 1) := by decide +kernel
theorem dX8_apart_55 : decode cX8_apart 55 = .ok (.goto 5, 3) := by decide +kernel
theorem dX8_apart_58 : decode cX8_apart 58 = .ok (.iload 4, 2) := by decide +kernel
theorem dX8_apart_60 : decode cX8_apart 60 = .ok (.iadd, 1) := by decide +kernel
theorem dX8_apart_61 : decode cX8_apart 61 = .ok (.ireturn, 1) := by decide +kernel
set_option maxRecDepth 20000 in
theorem ggX8_goes_X8_apart : GoodIn wsX8_goes wsX8_apart := goodIn_r _ [6, 7, 8, 9, 10, 11, 12, 13, 14, 15, 16, 17, 18, 19, 20, 21, 22, 23, 24, 25, 26, 27, 28, 29] (by decide +kernel) (by decide +kernel)
set_option maxRecDepth 20000 in
theorem gX8_goes_X8_apart : GoodIn wsX8_goes (wsV RX8 164 RX8 yX8_apart wsX8_apart) := goodIn_app (goodIn_of _ (by decide +kernel)) ggX8_goes_X8_apart
theorem dX8_goes_0 : decode cX8_goes 0 = .ok (.aload_n 0, 1) := by decide +kernel
theorem dX8_goes_1 : decode cX8_goes 1 = .ok (.iload_n 1, 1) := by decide +kernel
theorem dX8_goes_2 : decode cX8_goes 2 = .ok (.iload_n 2, 1) := by decide +kernel
theorem dX8_goes_3 : decode cX8_goes 3 = .ok (.invokevirtual 164, 3) := by decide +kernel
theorem dX8_goes_6 : decode cX8_goes 6 = .ok (.istore_n 3, 1) := by decide +kernel
theorem dX8_goes_7 : decode cX8_goes 7 = .ok (.iload_n 3, 1) := by decide +kernel
theorem dX8_goes_8 : decode cX8_goes 8 = .ok (.ifCond .le 32, 3) := by decide +kernel
theorem dX8_goes_11 : decode cX8_goes 11 = .ok (.aload_n 0, 1) := by decide +kernel
theorem dX8_goes_12 : decode cX8_goes 12 = .ok (.getfield 158, 3) := by decide +kernel
theorem dX8_goes_15 : decode cX8_goes 15 = .ok (.iconst 3, 1) := by decide +kernel
theorem dX8_goes_16 : decode cX8_goes 16 = .ok (.if_icmp .eq 20, 3) := by decide +kernel
theorem dX8_goes_19 : decode cX8_goes 19 = .ok (.iload_n 3, 1) := by decide +kernel
theorem dX8_goes_20 : decode cX8_goes 20 = .ok (.aload_n 0, 1) := by decide +kernel
theorem dX8_goes_21 : decode cX8_goes 21 = .ok (.getfield 158, 3) := by decide +kernel
theorem dX8_goes_24 : decode cX8_goes 24 = .ok (.iconst 2, 1) := by decide +kernel
theorem dX8_goes_25 : decode cX8_goes 25 = .ok (.if_icmp .ne 7, 3) := by decide +kernel
theorem dX8_goes_28 : decode cX8_goes 28 = .ok (.iconst 2, 1) := by decide +kernel
theorem dX8_goes_29 : decode cX8_goes 29 = .ok (.goto 4, 3) := by decide +kernel
theorem dX8_goes_32 : decode cX8_goes 32 = .ok (.iconst 1, 1) := by decide +kernel
theorem dX8_goes_33 : decode cX8_goes 33 = .ok (.if_icmp .gt 7, 3) := by decide +kernel
theorem dX8_goes_36 : decode cX8_goes 36 = .ok (.iconst 1, 1) := by decide +kernel
theorem dX8_goes_37 : decode cX8_goes 37 = .ok (.goto 4, 3) := by decide +kernel
theorem dX8_goes_40 : decode cX8_goes 40 = .ok (.iconst 0, 1) := by decide +kernel
theorem dX8_goes_41 : decode cX8_goes 41 = .ok (.ireturn, 1) := by decide +kernel
set_option maxRecDepth 20000 in
theorem ggX8_countOnward_X8_places : GoodIn wsX8_countOnward wsX8_places := goodIn_r _ [9, 10, 20, 21, 22, 23, 24, 25, 26, 27, 28, 29, 30, 31, 32, 33, 34, 35, 36, 37, 38, 39, 40, 41] (by decide +kernel) (by decide +kernel)
set_option maxRecDepth 20000 in
theorem gX8_countOnward_X8_places : GoodIn wsX8_countOnward (wsV RX8 119 RX8 yX8_places wsX8_places) := goodIn_app (goodIn_of _ (by decide +kernel)) ggX8_countOnward_X8_places
set_option maxRecDepth 20000 in
theorem ggX8_countOnward_X8_goes : GoodIn wsX8_countOnward wsX8_goes := goodIn_r _ [14, 15, 16, 17, 18, 8, 19, 10, 20, 21, 22, 23, 24, 25, 26, 27, 28, 29, 30, 31, 32, 33, 34, 35, 36, 37, 38, 39, 40, 41] (by decide +kernel) (by decide +kernel)
set_option maxRecDepth 20000 in
theorem gX8_countOnward_X8_goes : GoodIn wsX8_countOnward (wsV RX8 168 RX8 yX8_goes wsX8_goes) := goodIn_app (goodIn_of _ (by decide +kernel)) ggX8_countOnward_X8_goes
theorem dX8_countOnward_0 : decode cX8_countOnward 0 = .ok (.aload_n 0, 1) := by decide +kernel
theorem dX8_countOnward_1 : decode cX8_countOnward 1 = .ok (.getfield 161, 3) := by decide +kernel
theorem dX8_countOnward_4 : decode cX8_countOnward 4 = .ok (.iconst 1, 1) := by decide +kernel
theorem dX8_countOnward_5 : decode cX8_countOnward 5 = .ok (.isub, 1) := by decide +kernel
theorem dX8_countOnward_6 : decode cX8_countOnward 6 = .ok (.istore_n 1, 1) := by decide +kernel
theorem dX8_countOnward_7 : decode cX8_countOnward 7 = .ok (.iload_n 1, 1) := by decide +kernel
theorem dX8_countOnward_8 : decode cX8_countOnward 8 = .ok (.ifCond .lt 131, 3) := by decide +kernel
theorem dX8_countOnward_11 : decode cX8_countOnward 11 = .ok (.iconst 0, 1) := by decide +kernel
theorem dX8_countOnward_12 : decode cX8_countOnward 12 = .ok (.istore_n 2, 1) := by decide +kernel
theorem dX8_countOnward_13 : decode cX8_countOnward 13 = .ok (.iload_n 2, 1) := by decide +kernel
theorem dX8_countOnward_14 : decode cX8_countOnward 14 = .ok (.aload_n 0, 1) := by decide +kernel
theorem dX8_countOnward_15 : decode cX8_countOnward 15 = .ok (.invokevirtual 119, 3) := by decide +kernel
theorem dX8_countOnward_18 : decode cX8_countOnward 18 = .ok (.if_icmp .ge 115, 3) := by decide +kernel
theorem dX8_countOnward_21 : decode cX8_countOnward 21 = .ok (.iload_n 1, 1) := by decide +kernel
theorem dX8_countOnward_22 : decode cX8_countOnward 22 = .ok (.aload_n 0, 1) := by decide +kernel
theorem dX8_countOnward_23 : decode cX8_countOnward 23 = .ok (.getfield 161, 3) := by decide +kernel
theorem dX8_countOnward_26 : decode cX8_countOnward 26 = .ok (.iconst 1, 1) := by decide +kernel
theorem dX8_countOnward_27 : decode cX8_countOnward 27 = .ok (.isub, 1) := by decide +kernel
theorem dX8_countOnward_28 : decode cX8_countOnward 28 = .ok (.if_icmp .ne 7, 3) := by decide +kernel
theorem dX8_countOnward_31 : decode cX8_countOnward 31 = .ok (.iconst 1, 1) := by decide +kernel
theorem dX8_countOnward_32 : decode cX8_countOnward 32 = .ok (.goto 4, 3) := by decide +kernel
theorem dX8_countOnward_35 : decode cX8_countOnward 35 = .ok (.iconst 0, 1) := by decide +kernel
theorem dX8_countOnward_36 : decode cX8_countOnward 36 = .ok (.istore_n 3, 1) := by decide +kernel
theorem dX8_countOnward_37 : decode cX8_countOnward 37 = .ok (.iconst 0, 1) := by decide +kernel
theorem dX8_countOnward_38 : decode cX8_countOnward 38 = .ok (.istore 4, 2) := by decide +kernel
theorem dX8_countOnward_40 : decode cX8_countOnward 40 = .ok (.iload 4, 2) := by decide +kernel
theorem dX8_countOnward_42 : decode cX8_countOnward 42 = .ok (.aload_n 0, 1) := by decide +kernel
theorem dX8_countOnward_43 : decode cX8_countOnward 43 = .ok (.invokevirtual 119, 3) := by decide +kernel
theorem dX8_countOnward_46 : decode cX8_countOnward 46 = .ok (.if_icmp .ge 50, 3) := by decide +kernel
theorem dX8_countOnward_49 : decode cX8_countOnward 49 = .ok (.iload_n 1, 1) := by decide +kernel
theorem dX8_countOnward_50 : decode cX8_countOnward 50 = .ok (.aload_n 0, 1) := by decide +kernel
theorem dX8_countOnward_51 : decode cX8_countOnward 51 = .ok (.getfield 161, 3) := by decide +kernel
theorem dX8_countOnward_54 : decode cX8_countOnward 54 = .ok (.iconst 1, 1) := by decide +kernel
theorem dX8_countOnward_55 : decode cX8_countOnward 55 = .ok (.isub, 1) := by decide +kernel
theorem dX8_countOnward_56 : decode cX8_countOnward 56 = .ok (.if_icmp .ge 40, 3) := by decide +kernel
theorem dX8_countOnward_59 : decode cX8_countOnward 59 = .ok (.iload_n 3, 1) := by decide +kernel
theorem dX8_countOnward_60 : decode cX8_countOnward 60 = .ok (.aload_n 0, 1) := by decide +kernel
theorem dX8_countOnward_61 : decode cX8_countOnward 61 = .ok (.iload_n 2, 1) := by decide +kernel
theorem dX8_countOnward_62 : decode cX8_countOnward 62 = .ok (.iload 4, 2) := by decide +kernel
theorem dX8_countOnward_64 : decode cX8_countOnward 64 = .ok (.invokevirtual 168, 3) := by decide +kernel
theorem dX8_countOnward_67 : decode cX8_countOnward 67 = .ok (.ifCond .eq 20, 3) := by decide +kernel
theorem dX8_countOnward_70 : decode cX8_countOnward 70 = .ok (.aload_n 0, 1) := by decide +kernel
theorem dX8_countOnward_71 : decode cX8_countOnward 71 = .ok (.getfield 37, 3) := by decide +kernel
theorem dX8_countOnward_74 : decode cX8_countOnward 74 = .ok (.bipush 16, 2) := by decide +kernel
theorem dX8_countOnward_76 : decode cX8_countOnward 76 = .ok (.iload_n 1, 1) := by decide +kernel
theorem dX8_countOnward_77 : decode cX8_countOnward 77 = .ok (.iconst 1, 1) := by decide +kernel
theorem dX8_countOnward_78 : decode cX8_countOnward 78 = .ok (.iadd, 1) := by decide +kernel
theorem dX8_countOnward_79 : decode cX8_countOnward 79 = .ok (.imul, 1) := by decide +kernel
theorem dX8_countOnward_80 : decode cX8_countOnward 80 = .ok (.iload 4, 2) := by decide +kernel
theorem dX8_countOnward_82 : decode cX8_countOnward 82 = .ok (.iadd, 1) := by decide +kernel
theorem dX8_countOnward_83 : decode cX8_countOnward 83 = .ok (.iaload, 1) := by decide +kernel
theorem dX8_countOnward_84 : decode cX8_countOnward 84 = .ok (.goto 4, 3) := by decide +kernel
theorem dX8_countOnward_87 : decode cX8_countOnward 87 = .ok (.iconst 0, 1) := by decide +kernel
theorem dX8_countOnward_88 : decode cX8_countOnward 88 = .ok (.iadd, 1) := by decide +kernel
theorem dX8_countOnward_89 : decode cX8_countOnward 89 = .ok (.istore_n 3, 1) := by decide +kernel
theorem dX8_countOnward_90 : decode cX8_countOnward 90 = .ok (.iinc 4 1, 3) := by decide +kernel
theorem dX8_countOnward_93 : decode cX8_countOnward 93 = .ok (.goto (-53), 3) := by decide +kernel
theorem dX8_countOnward_96 : decode cX8_countOnward 96 = .ok (.aload_n 0, 1) := by decide +kernel
theorem dX8_countOnward_97 : decode cX8_countOnward 97 = .ok (.getfield 37, 3) := by decide +kernel
theorem dX8_countOnward_100 : decode cX8_countOnward 100 = .ok (.bipush 16, 2) := by decide +kernel
theorem dX8_countOnward_102 : decode cX8_countOnward 102 = .ok (.iload_n 1, 1) := by decide +kernel
theorem dX8_countOnward_103 : decode cX8_countOnward 103 = .ok (.imul, 1) := by decide +kernel
theorem dX8_countOnward_104 : decode cX8_countOnward 104 = .ok (.iload_n 2, 1) := by decide +kernel
theorem dX8_countOnward_105 : decode cX8_countOnward 105 = .ok (.iadd, 1) := by decide +kernel
theorem dX8_countOnward_106 : decode cX8_countOnward 106 = .ok (.aload_n 0, 1) := by decide +kernel
theorem dX8_countOnward_107 : decode cX8_countOnward 107 = .ok (.getfield 19, 3) := by decide +kernel
theorem dX8_countOnward_110 : decode cX8_countOnward 110 = .ok (.iload_n 2, 1) := by decide +kernel
theorem dX8_countOnward_111 : decode cX8_countOnward 111 = .ok (.iaload, 1) := by decide +kernel
theorem dX8_countOnward_112 : decode cX8_countOnward 112 = .ok (.aload_n 0, 1) := by decide +kernel
theorem dX8_countOnward_113 : decode cX8_countOnward 113 = .ok (.getfield 34, 3) := by decide +kernel
theorem dX8_countOnward_116 : decode cX8_countOnward 116 = .ok (.iload_n 1, 1) := by decide +kernel
theorem dX8_countOnward_117 : decode cX8_countOnward 117 = .ok (.iaload, 1) := by decide +kernel
theorem dX8_countOnward_118 : decode cX8_countOnward 118 = .ok (.if_icmp .ne 7, 3) := by decide +kernel
theorem dX8_countOnward_121 : decode cX8_countOnward 121 = .ok (.iload_n 3, 1) := by decide +kernel
theorem dX8_countOnward_122 : decode cX8_countOnward 122 = .ok (.goto 4, 3) := by decide +kernel
theorem dX8_countOnward_125 : decode cX8_countOnward 125 = .ok (.iconst 0, 1) := by decide +kernel
theorem dX8_countOnward_126 : decode cX8_countOnward 126 = .ok (.iastore, 1) := by decide +kernel
theorem dX8_countOnward_127 : decode cX8_countOnward 127 = .ok (.iinc 2 1, 3) := by decide +kernel
theorem dX8_countOnward_130 : decode cX8_countOnward 130 = .ok (.goto (-117), 3) := by decide +kernel
theorem dX8_countOnward_133 : decode cX8_countOnward 133 = .ok (.iinc 1 (-1), 3) := by decide +kernel
theorem dX8_countOnward_136 : decode cX8_countOnward 136 = .ok (.goto (-129), 3) := by decide +kernel
theorem dX8_countOnward_139 : decode cX8_countOnward 139 = .ok (.return_, 1) := by decide +kernel
set_option maxRecDepth 20000 in
theorem ggX8_countToward_X8_places : GoodIn wsX8_countToward wsX8_places := goodIn_r _ [9, 10, 20, 21, 22, 23, 24, 25, 26, 27, 28, 29, 30, 31, 32, 33, 34, 35, 36, 37, 38, 39, 40, 41] (by decide +kernel) (by decide +kernel)
set_option maxRecDepth 20000 in
theorem gX8_countToward_X8_places : GoodIn wsX8_countToward (wsV RX8 119 RX8 yX8_places wsX8_places) := goodIn_app (goodIn_of _ (by decide +kernel)) ggX8_countToward_X8_places
set_option maxRecDepth 20000 in
theorem ggX8_countToward_X8_goes : GoodIn wsX8_countToward wsX8_goes := goodIn_r _ [14, 15, 16, 17, 18, 8, 19, 10, 20, 21, 22, 23, 24, 25, 26, 27, 28, 29, 30, 31, 32, 33, 34, 35, 36, 37, 38, 39, 40, 41] (by decide +kernel) (by decide +kernel)
set_option maxRecDepth 20000 in
theorem gX8_countToward_X8_goes : GoodIn wsX8_countToward (wsV RX8 168 RX8 yX8_goes wsX8_goes) := goodIn_app (goodIn_of _ (by decide +kernel)) ggX8_countToward_X8_goes
theorem dX8_countToward_0 : decode cX8_countToward 0 = .ok (.iconst 0, 1) := by decide +kernel
theorem dX8_countToward_1 : decode cX8_countToward 1 = .ok (.istore_n 2, 1) := by decide +kernel
theorem dX8_countToward_2 : decode cX8_countToward 2 = .ok (.iload_n 2, 1) := by decide +kernel
theorem dX8_countToward_3 : decode cX8_countToward 3 = .ok (.aload_n 0, 1) := by decide +kernel
theorem dX8_countToward_4 : decode cX8_countToward 4 = .ok (.getfield 161, 3) := by decide +kernel
theorem dX8_countToward_7 : decode cX8_countToward 7 = .ok (.if_icmp .ge 132, 3) := by decide +kernel
theorem dX8_countToward_10 : decode cX8_countToward 10 = .ok (.iconst 0, 1) := by decide +kernel
theorem dX8_countToward_11 : decode cX8_countToward 11 = .ok (.istore_n 3, 1) := by decide +kernel
theorem dX8_countToward_12 : decode cX8_countToward 12 = .ok (.iload_n 3, 1) := by decide +kernel
theorem dX8_countToward_13 : decode cX8_countToward 13 = .ok (.aload_n 0, 1) := by decide +kernel
theorem dX8_countToward_14 : decode cX8_countToward 14 = .ok (.invokevirtual 119, 3) := by decide +kernel
theorem dX8_countToward_17 : decode cX8_countToward 17 = .ok (.if_icmp .ge 116, 3) := by decide +kernel
theorem dX8_countToward_20 : decode cX8_countToward 20 = .ok (.iload_n 2, 1) := by decide +kernel
theorem dX8_countToward_21 : decode cX8_countToward 21 = .ok (.ifCond .ne 16, 3) := by decide +kernel
theorem dX8_countToward_24 : decode cX8_countToward 24 = .ok (.iload_n 1, 1) := by decide +kernel
theorem dX8_countToward_25 : decode cX8_countToward 25 = .ok (.ifCond .lt 8, 3) := by decide +kernel
theorem dX8_countToward_28 : decode cX8_countToward 28 = .ok (.iload_n 1, 1) := by decide +kernel
theorem dX8_countToward_29 : decode cX8_countToward 29 = .ok (.iload_n 3, 1) := by decide +kernel
theorem dX8_countToward_30 : decode cX8_countToward 30 = .ok (.if_icmp .ne 7, 3) := by decide +kernel
theorem dX8_countToward_33 : decode cX8_countToward 33 = .ok (.iconst 1, 1) := by decide +kernel
theorem dX8_countToward_34 : decode cX8_countToward 34 = .ok (.goto 4, 3) := by decide +kernel
theorem dX8_countToward_37 : decode cX8_countToward 37 = .ok (.iconst 0, 1) := by decide +kernel
theorem dX8_countToward_38 : decode cX8_countToward 38 = .ok (.istore 4, 2) := by decide +kernel
theorem dX8_countToward_40 : decode cX8_countToward 40 = .ok (.iconst 0, 1) := by decide +kernel
theorem dX8_countToward_41 : decode cX8_countToward 41 = .ok (.istore 5, 2) := by decide +kernel
theorem dX8_countToward_43 : decode cX8_countToward 43 = .ok (.iload 5, 2) := by decide +kernel
theorem dX8_countToward_45 : decode cX8_countToward 45 = .ok (.aload_n 0, 1) := by decide +kernel
theorem dX8_countToward_46 : decode cX8_countToward 46 = .ok (.invokevirtual 119, 3) := by decide +kernel
theorem dX8_countToward_49 : decode cX8_countToward 49 = .ok (.if_icmp .ge 46, 3) := by decide +kernel
theorem dX8_countToward_52 : decode cX8_countToward 52 = .ok (.iload_n 2, 1) := by decide +kernel
theorem dX8_countToward_53 : decode cX8_countToward 53 = .ok (.ifCond .le 42, 3) := by decide +kernel
theorem dX8_countToward_56 : decode cX8_countToward 56 = .ok (.iload 4, 2) := by decide +kernel
theorem dX8_countToward_58 : decode cX8_countToward 58 = .ok (.aload_n 0, 1) := by decide +kernel
theorem dX8_countToward_59 : decode cX8_countToward 59 = .ok (.iload 5, 2) := by decide +kernel
theorem dX8_countToward_61 : decode cX8_countToward 61 = .ok (.iload_n 3, 1) := by decide +kernel
theorem dX8_countToward_62 : decode cX8_countToward 62 = .ok (.invokevirtual 168, 3) := by decide +kernel
theorem dX8_countToward_65 : decode cX8_countToward 65 = .ok (.ifCond .eq 20, 3) := by decide +kernel
theorem dX8_countToward_68 : decode cX8_countToward 68 = .ok (.aload_n 0, 1) := by decide +kernel
theorem dX8_countToward_69 : decode cX8_countToward 69 = .ok (.getfield 40, 3) := by decide +kernel
theorem dX8_countToward_72 : decode cX8_countToward 72 = .ok (.bipush 16, 2) := by decide +kernel
theorem dX8_countToward_74 : decode cX8_countToward 74 = .ok (.iload_n 2, 1) := by decide +kernel
theorem dX8_countToward_75 : decode cX8_countToward 75 = .ok (.iconst 1, 1) := by decide +kernel
theorem dX8_countToward_76 : decode cX8_countToward 76 = .ok (.isub, 1) := by decide +kernel
theorem dX8_countToward_77 : decode cX8_countToward 77 = .ok (.imul, 1) := by decide +kernel
theorem dX8_countToward_78 : decode cX8_countToward 78 = .ok (.iload 5, 2) := by decide +kernel
theorem dX8_countToward_80 : decode cX8_countToward 80 = .ok (.iadd, 1) := by decide +kernel
theorem dX8_countToward_81 : decode cX8_countToward 81 = .ok (.iaload, 1) := by decide +kernel
theorem dX8_countToward_82 : decode cX8_countToward 82 = .ok (.goto 4, 3) := by decide +kernel
theorem dX8_countToward_85 : decode cX8_countToward 85 = .ok (.iconst 0, 1) := by decide +kernel
theorem dX8_countToward_86 : decode cX8_countToward 86 = .ok (.iadd, 1) := by decide +kernel
theorem dX8_countToward_87 : decode cX8_countToward 87 = .ok (.istore 4, 2) := by decide +kernel
theorem dX8_countToward_89 : decode cX8_countToward 89 = .ok (.iinc 5 1, 3) := by decide +kernel
theorem dX8_countToward_92 : decode cX8_countToward 92 = .ok (.goto (-49), 3) := by decide +kernel
theorem dX8_countToward_95 : decode cX8_countToward 95 = .ok (.aload_n 0, 1) := by decide +kernel
theorem dX8_countToward_96 : decode cX8_countToward 96 = .ok (.getfield 40, 3) := by decide +kernel
theorem dX8_countToward_99 : decode cX8_countToward 99 = .ok (.bipush 16, 2) := by decide +kernel
theorem dX8_countToward_101 : decode cX8_countToward 101 = .ok (.iload_n 2, 1) := by decide +kernel
theorem dX8_countToward_102 : decode cX8_countToward 102 = .ok (.imul, 1) := by decide +kernel
theorem dX8_countToward_103 : decode cX8_countToward 103 = .ok (.iload_n 3, 1) := by decide +kernel
theorem dX8_countToward_104 : decode cX8_countToward 104 = .ok (.iadd, 1) := by decide +kernel
theorem dX8_countToward_105 : decode cX8_countToward 105 = .ok (.aload_n 0, 1) := by decide +kernel
theorem dX8_countToward_106 : decode cX8_countToward 106 = .ok (.getfield 19, 3) := by decide +kernel
theorem dX8_countToward_109 : decode cX8_countToward 109 = .ok (.iload_n 3, 1) := by decide +kernel
theorem dX8_countToward_110 : decode cX8_countToward 110 = .ok (.iaload, 1) := by decide +kernel
theorem dX8_countToward_111 : decode cX8_countToward 111 = .ok (.aload_n 0, 1) := by decide +kernel
theorem dX8_countToward_112 : decode cX8_countToward 112 = .ok (.getfield 34, 3) := by decide +kernel
theorem dX8_countToward_115 : decode cX8_countToward 115 = .ok (.iload_n 2, 1) := by decide +kernel
theorem dX8_countToward_116 : decode cX8_countToward 116 = .ok (.iaload, 1) := by decide +kernel
theorem dX8_countToward_117 : decode cX8_countToward 117 = .ok (.if_icmp .ne 8, 3) := by decide +kernel
theorem dX8_countToward_120 : decode cX8_countToward 120 = .ok (.iload 4, 2) := by decide +kernel
theorem dX8_countToward_122 : decode cX8_countToward 122 = .ok (.goto 4, 3) := by decide +kernel
theorem dX8_countToward_125 : decode cX8_countToward 125 = .ok (.iconst 0, 1) := by decide +kernel
theorem dX8_countToward_126 : decode cX8_countToward 126 = .ok (.iastore, 1) := by decide +kernel
theorem dX8_countToward_127 : decode cX8_countToward 127 = .ok (.iinc 3 1, 3) := by decide +kernel
theorem dX8_countToward_130 : decode cX8_countToward 130 = .ok (.goto (-118), 3) := by decide +kernel
theorem dX8_countToward_133 : decode cX8_countToward 133 = .ok (.iinc 2 1, 3) := by decide +kernel
theorem dX8_countToward_136 : decode cX8_countToward 136 = .ok (.goto (-134), 3) := by decide +kernel
theorem dX8_countToward_139 : decode cX8_countToward 139 = .ok (.return_, 1) := by decide +kernel
set_option maxRecDepth 20000 in
theorem ggX8_waysOf_X8_take : GoodIn wsX8_waysOf wsX8_take := goodIn_r _ [6, 7, 8, 9, 10, 11, 12, 13, 5, 14, 15, 16, 17, 18, 36, 37, 38, 39, 40, 41, 42, 43, 44, 45, 46, 47, 48, 49, 50, 51, 52, 53, 54, 55, 56, 57] (by decide +kernel) (by decide +kernel)
set_option maxRecDepth 20000 in
theorem gX8_waysOf_X8_take : GoodIn wsX8_waysOf (wsV RX8 172 RX8 yX8_take wsX8_take) := goodIn_app (goodIn_of _ (by decide +kernel)) ggX8_waysOf_X8_take
set_option maxRecDepth 20000 in
theorem ggX8_waysOf_X8_countOnward : GoodIn wsX8_waysOf wsX8_countOnward := goodIn_r _ [22, 8, 1, 10, 9, 23, 24, 25, 5, 26, 27, 28, 29, 30, 31, 7, 32, 33, 34, 35, 36, 37, 38, 39, 40, 41, 42, 43, 44, 45, 46, 47, 48, 49, 50, 51, 52, 53, 54, 55, 56, 57] (by decide +kernel) (by decide +kernel)
set_option maxRecDepth 20000 in
theorem gX8_waysOf_X8_countOnward : GoodIn wsX8_waysOf (wsV RX8 176 RX8 yX8_countOnward wsX8_countOnward) := goodIn_app (goodIn_of _ (by decide +kernel)) ggX8_waysOf_X8_countOnward
set_option maxRecDepth 20000 in
theorem ggX8_waysOf_X8_places : GoodIn wsX8_waysOf wsX8_places := goodIn_r _ [26, 27, 36, 37, 38, 39, 40, 41, 42, 43, 44, 45, 46, 47, 48, 49, 50, 51, 52, 53, 54, 55, 56, 57] (by decide +kernel) (by decide +kernel)
set_option maxRecDepth 20000 in
theorem gX8_waysOf_X8_places : GoodIn wsX8_waysOf (wsV RX8 119 RX8 yX8_places wsX8_places) := goodIn_app (goodIn_of _ (by decide +kernel)) ggX8_waysOf_X8_places
theorem dX8_waysOf_0 : decode cX8_waysOf 0 = .ok (.aload_n 0, 1) := by decide +kernel
theorem dX8_waysOf_1 : decode cX8_waysOf 1 = .ok (.iload_n 1, 1) := by decide +kernel
theorem dX8_waysOf_2 : decode cX8_waysOf 2 = .ok (.invokevirtual 172, 3) := by decide +kernel
theorem dX8_waysOf_5 : decode cX8_waysOf 5 = .ok (.aload_n 0, 1) := by decide +kernel
theorem dX8_waysOf_6 : decode cX8_waysOf 6 = .ok (.invokevirtual 176, 3) := by decide +kernel
theorem dX8_waysOf_9 : decode cX8_waysOf 9 = .ok (.iconst 0, 1) := by decide +kernel
theorem dX8_waysOf_10 : decode cX8_waysOf 10 = .ok (.istore_n 2, 1) := by decide +kernel
theorem dX8_waysOf_11 : decode cX8_waysOf 11 = .ok (.iconst 0, 1) := by decide +kernel
theorem dX8_waysOf_12 : decode cX8_waysOf 12 = .ok (.istore_n 3, 1) := by decide +kernel
theorem dX8_waysOf_13 : decode cX8_waysOf 13 = .ok (.iload_n 3, 1) := by decide +kernel
theorem dX8_waysOf_14 : decode cX8_waysOf 14 = .ok (.aload_n 0, 1) := by decide +kernel
theorem dX8_waysOf_15 : decode cX8_waysOf 15 = .ok (.invokevirtual 119, 3) := by decide +kernel
theorem dX8_waysOf_18 : decode cX8_waysOf 18 = .ok (.if_icmp .ge 18, 3) := by decide +kernel
theorem dX8_waysOf_21 : decode cX8_waysOf 21 = .ok (.iload_n 2, 1) := by decide +kernel
theorem dX8_waysOf_22 : decode cX8_waysOf 22 = .ok (.aload_n 0, 1) := by decide +kernel
theorem dX8_waysOf_23 : decode cX8_waysOf 23 = .ok (.getfield 37, 3) := by decide +kernel
theorem dX8_waysOf_26 : decode cX8_waysOf 26 = .ok (.iload_n 3, 1) := by decide +kernel
theorem dX8_waysOf_27 : decode cX8_waysOf 27 = .ok (.iaload, 1) := by decide +kernel
theorem dX8_waysOf_28 : decode cX8_waysOf 28 = .ok (.iadd, 1) := by decide +kernel
theorem dX8_waysOf_29 : decode cX8_waysOf 29 = .ok (.istore_n 2, 1) := by decide +kernel
theorem dX8_waysOf_30 : decode cX8_waysOf 30 = .ok (.iinc 3 1, 3) := by decide +kernel
theorem dX8_waysOf_33 : decode cX8_waysOf 33 = .ok (.goto (-20), 3) := by decide +kernel
theorem dX8_waysOf_36 : decode cX8_waysOf 36 = .ok (.iload_n 2, 1) := by decide +kernel
theorem dX8_waysOf_37 : decode cX8_waysOf 37 = .ok (.ireturn, 1) := by decide +kernel
set_option maxRecDepth 20000 in
theorem ggX8_endsOf_X8_countToward : GoodIn wsX8_endsOf wsX8_countToward := goodIn_r _ [7, 2, 1, 8, 9, 10, 11, 12, 6, 13, 14, 15, 16, 17, 18, 19, 20, 21, 22, 23, 24, 25, 26, 27, 28, 29, 30, 31, 32, 33, 34, 35, 36, 37, 38, 39, 40, 41, 42, 43, 44, 45] (by decide +kernel) (by decide +kernel)
set_option maxRecDepth 20000 in
theorem gX8_endsOf_X8_countToward : GoodIn wsX8_endsOf (wsV RX8 179 RX8 yX8_countToward wsX8_countToward) := goodIn_app (goodIn_of _ (by decide +kernel)) ggX8_endsOf_X8_countToward
set_option maxRecDepth 20000 in
theorem ggX8_endsOf_X8_places : GoodIn wsX8_endsOf wsX8_places := goodIn_r _ [13, 14, 24, 25, 26, 27, 28, 29, 30, 31, 32, 33, 34, 35, 36, 37, 38, 39, 40, 41, 42, 43, 44, 45] (by decide +kernel) (by decide +kernel)
set_option maxRecDepth 20000 in
theorem gX8_endsOf_X8_places : GoodIn wsX8_endsOf (wsV RX8 119 RX8 yX8_places wsX8_places) := goodIn_app (goodIn_of _ (by decide +kernel)) ggX8_endsOf_X8_places
theorem dX8_endsOf_0 : decode cX8_endsOf 0 = .ok (.aload_n 0, 1) := by decide +kernel
theorem dX8_endsOf_1 : decode cX8_endsOf 1 = .ok (.bipush (-4), 2) := by decide +kernel
theorem dX8_endsOf_3 : decode cX8_endsOf 3 = .ok (.invokevirtual 179, 3) := by decide +kernel
theorem dX8_endsOf_6 : decode cX8_endsOf 6 = .ok (.iconst 0, 1) := by decide +kernel
theorem dX8_endsOf_7 : decode cX8_endsOf 7 = .ok (.istore_n 1, 1) := by decide +kernel
theorem dX8_endsOf_8 : decode cX8_endsOf 8 = .ok (.iconst 0, 1) := by decide +kernel
theorem dX8_endsOf_9 : decode cX8_endsOf 9 = .ok (.istore_n 2, 1) := by decide +kernel
theorem dX8_endsOf_10 : decode cX8_endsOf 10 = .ok (.iload_n 2, 1) := by decide +kernel
theorem dX8_endsOf_11 : decode cX8_endsOf 11 = .ok (.aload_n 0, 1) := by decide +kernel
theorem dX8_endsOf_12 : decode cX8_endsOf 12 = .ok (.invokevirtual 119, 3) := by decide +kernel
theorem dX8_endsOf_15 : decode cX8_endsOf 15 = .ok (.if_icmp .ge 38, 3) := by decide +kernel
theorem dX8_endsOf_18 : decode cX8_endsOf 18 = .ok (.iload_n 1, 1) := by decide +kernel
theorem dX8_endsOf_19 : decode cX8_endsOf 19 = .ok (.aload_n 0, 1) := by decide +kernel
theorem dX8_endsOf_20 : decode cX8_endsOf 20 = .ok (.getfield 40, 3) := by decide +kernel
theorem dX8_endsOf_23 : decode cX8_endsOf 23 = .ok (.bipush 16, 2) := by decide +kernel
theorem dX8_endsOf_25 : decode cX8_endsOf 25 = .ok (.aload_n 0, 1) := by decide +kernel
theorem dX8_endsOf_26 : decode cX8_endsOf 26 = .ok (.getfield 161, 3) := by decide +kernel
theorem dX8_endsOf_29 : decode cX8_endsOf 29 = .ok (.iconst 1, 1) := by decide +kernel
theorem dX8_endsOf_30 : decode cX8_endsOf 30 = .ok (.isub, 1) := by decide +kernel
theorem dX8_endsOf_31 : decode cX8_endsOf 31 = .ok (.imul, 1) := by decide +kernel
theorem dX8_endsOf_32 : decode cX8_endsOf 32 = .ok (.iload_n 2, 1) := by decide +kernel
theorem dX8_endsOf_33 : decode cX8_endsOf 33 = .ok (.iadd, 1) := by decide +kernel
theorem dX8_endsOf_34 : decode cX8_endsOf 34 = .ok (.iaload, 1) := by decide +kernel
theorem dX8_endsOf_35 : decode cX8_endsOf 35 = .ok (.ifCond .le 9, 3) := by decide +kernel
theorem dX8_endsOf_38 : decode cX8_endsOf 38 = .ok (.iconst 1, 1) := by decide +kernel
theorem dX8_endsOf_39 : decode cX8_endsOf 39 = .ok (.iload_n 2, 1) := by decide +kernel
theorem dX8_endsOf_40 : decode cX8_endsOf 40 = .ok (.ishl, 1) := by decide +kernel
theorem dX8_endsOf_41 : decode cX8_endsOf 41 = .ok (.goto 4, 3) := by decide +kernel
theorem dX8_endsOf_44 : decode cX8_endsOf 44 = .ok (.iconst 0, 1) := by decide +kernel
theorem dX8_endsOf_45 : decode cX8_endsOf 45 = .ok (.ior, 1) := by decide +kernel
theorem dX8_endsOf_46 : decode cX8_endsOf 46 = .ok (.istore_n 1, 1) := by decide +kernel
theorem dX8_endsOf_47 : decode cX8_endsOf 47 = .ok (.iinc 2 1, 3) := by decide +kernel
theorem dX8_endsOf_50 : decode cX8_endsOf 50 = .ok (.goto (-40), 3) := by decide +kernel
theorem dX8_endsOf_53 : decode cX8_endsOf 53 = .ok (.iload_n 1, 1) := by decide +kernel
theorem dX8_endsOf_54 : decode cX8_endsOf 54 = .ok (.ireturn, 1) := by decide +kernel
set_option maxRecDepth 20000 in
theorem ggX8_liedNow_X8_waysOf : GoodIn wsX8_liedNow wsX8_waysOf := goodIn_r _ [6, 7, 8, 9, 10, 5, 11, 12, 13, 14, 1, 15, 16, 17, 18, 19, 20, 21, 22, 23, 24, 25, 26, 27, 28, 29, 30, 31, 32, 33, 34, 35, 36, 37, 38, 39, 40, 41, 42, 43, 44, 45, 46, 47, 48, 49, 50, 51, 52, 53, 54, 55, 56, 57, 58, 59, 60, 61] (by decide +kernel) (by decide +kernel)
set_option maxRecDepth 20000 in
theorem gX8_liedNow_X8_waysOf : GoodIn wsX8_liedNow (wsV RX8 182 RX8 yX8_waysOf wsX8_waysOf) := goodIn_app (goodIn_of _ (by decide +kernel)) ggX8_liedNow_X8_waysOf
theorem dX8_liedNow_0 : decode cX8_liedNow 0 = .ok (.iconst 0, 1) := by decide +kernel
theorem dX8_liedNow_1 : decode cX8_liedNow 1 = .ok (.istore_n 1, 1) := by decide +kernel
theorem dX8_liedNow_2 : decode cX8_liedNow 2 = .ok (.iconst 0, 1) := by decide +kernel
theorem dX8_liedNow_3 : decode cX8_liedNow 3 = .ok (.istore_n 2, 1) := by decide +kernel
theorem dX8_liedNow_4 : decode cX8_liedNow 4 = .ok (.iload_n 2, 1) := by decide +kernel
theorem dX8_liedNow_5 : decode cX8_liedNow 5 = .ok (.aload_n 0, 1) := by decide +kernel
theorem dX8_liedNow_6 : decode cX8_liedNow 6 = .ok (.getfield 19, 3) := by decide +kernel
theorem dX8_liedNow_9 : decode cX8_liedNow 9 = .ok (.bipush 16, 2) := by decide +kernel
theorem dX8_liedNow_11 : decode cX8_liedNow 11 = .ok (.iaload, 1) := by decide +kernel
theorem dX8_liedNow_12 : decode cX8_liedNow 12 = .ok (.if_icmp .ge 27, 3) := by decide +kernel
theorem dX8_liedNow_15 : decode cX8_liedNow 15 = .ok (.iload_n 1, 1) := by decide +kernel
theorem dX8_liedNow_16 : decode cX8_liedNow 16 = .ok (.aload_n 0, 1) := by decide +kernel
theorem dX8_liedNow_17 : decode cX8_liedNow 17 = .ok (.iload_n 2, 1) := by decide +kernel
theorem dX8_liedNow_18 : decode cX8_liedNow 18 = .ok (.invokevirtual 182, 3) := by decide +kernel
theorem dX8_liedNow_21 : decode cX8_liedNow 21 = .ok (.ifCond .ne 9, 3) := by decide +kernel
theorem dX8_liedNow_24 : decode cX8_liedNow 24 = .ok (.iconst 1, 1) := by decide +kernel
theorem dX8_liedNow_25 : decode cX8_liedNow 25 = .ok (.iload_n 2, 1) := by decide +kernel
theorem dX8_liedNow_26 : decode cX8_liedNow 26 = .ok (.ishl, 1) := by decide +kernel
theorem dX8_liedNow_27 : decode cX8_liedNow 27 = .ok (.goto 4, 3) := by decide +kernel
theorem dX8_liedNow_30 : decode cX8_liedNow 30 = .ok (.iconst 0, 1) := by decide +kernel
theorem dX8_liedNow_31 : decode cX8_liedNow 31 = .ok (.ior, 1) := by decide +kernel
theorem dX8_liedNow_32 : decode cX8_liedNow 32 = .ok (.istore_n 1, 1) := by decide +kernel
theorem dX8_liedNow_33 : decode cX8_liedNow 33 = .ok (.iinc 2 1, 3) := by decide +kernel
theorem dX8_liedNow_36 : decode cX8_liedNow 36 = .ok (.goto (-32), 3) := by decide +kernel
theorem dX8_liedNow_39 : decode cX8_liedNow 39 = .ok (.iload_n 1, 1) := by decide +kernel
theorem dX8_liedNow_40 : decode cX8_liedNow 40 = .ok (.ireturn, 1) := by decide +kernel
set_option maxRecDepth 20000 in
theorem ggX8_ways_X8_isWalk : GoodIn wsX8_ways wsX8_isWalk := goodIn_r _ [5, 6, 7, 8, 4, 9, 47, 48, 49, 50, 51, 52, 53, 54, 55, 56, 57, 58, 59, 60, 61, 62, 63, 64, 65, 66, 67, 68] (by decide +kernel) (by decide +kernel)
set_option maxRecDepth 20000 in
theorem gX8_ways_X8_isWalk : GoodIn wsX8_ways (wsV RX8 136 RX8 yX8_isWalk wsX8_isWalk) := goodIn_app (goodIn_of _ (by decide +kernel)) ggX8_ways_X8_isWalk
set_option maxRecDepth 20000 in
theorem ggX8_ways_X8_waysOf : GoodIn wsX8_ways wsX8_waysOf := goodIn_r _ [13, 14, 15, 16, 17, 4, 18, 19, 20, 21, 6, 22, 23, 24, 25, 26, 27, 28, 29, 30, 31, 32, 33, 34, 35, 36, 37, 38, 39, 40, 41, 42, 43, 44, 45, 46, 47, 48, 49, 50, 51, 52, 53, 54, 55, 56, 57, 58, 59, 60, 61, 62, 63, 64, 65, 66, 67, 68] (by decide +kernel) (by decide +kernel)
set_option maxRecDepth 20000 in
theorem gX8_ways_X8_waysOf : GoodIn wsX8_ways (wsV RX8 182 RX8 yX8_waysOf wsX8_waysOf) := goodIn_app (goodIn_of _ (by decide +kernel)) ggX8_ways_X8_waysOf
theorem dX8_ways_0 : decode cX8_ways 0 = .ok (.aload_n 0, 1) := by decide +kernel
theorem dX8_ways_1 : decode cX8_ways 1 = .ok (.iload_n 1, 1) := by decide +kernel
theorem dX8_ways_2 : decode cX8_ways 2 = .ok (.invokevirtual 136, 3) := by decide +kernel
theorem dX8_ways_5 : decode cX8_ways 5 = .ok (.ifCond .eq 11, 3) := by decide +kernel
theorem dX8_ways_8 : decode cX8_ways 8 = .ok (.aload_n 0, 1) := by decide +kernel
theorem dX8_ways_9 : decode cX8_ways 9 = .ok (.iload_n 1, 1) := by decide +kernel
theorem dX8_ways_10 : decode cX8_ways 10 = .ok (.invokevirtual 182, 3) := by decide +kernel
theorem dX8_ways_13 : decode cX8_ways 13 = .ok (.goto 4, 3) := by decide +kernel
theorem dX8_ways_16 : decode cX8_ways 16 = .ok (.iconst (-1), 1) := by decide +kernel
theorem dX8_ways_17 : decode cX8_ways 17 = .ok (.ireturn, 1) := by decide +kernel
set_option maxRecDepth 20000 in
theorem ggX8_first_X8_isWalk : GoodIn wsX8_first wsX8_isWalk := goodIn_r _ [7, 8, 9, 10, 6, 11, 47, 48, 49, 50, 51, 52, 53, 54, 55, 56, 57, 58, 59, 60, 61, 62, 63, 64, 65, 66, 67, 68] (by decide +kernel) (by decide +kernel)
set_option maxRecDepth 20000 in
theorem gX8_first_X8_isWalk : GoodIn wsX8_first (wsV RX8 136 RX8 yX8_isWalk wsX8_isWalk) := goodIn_app (goodIn_of _ (by decide +kernel)) ggX8_first_X8_isWalk
set_option maxRecDepth 20000 in
theorem ggX8_first_X8_waysOf : GoodIn wsX8_first wsX8_waysOf := goodIn_r _ [15, 2, 16, 17, 18, 6, 19, 20, 1, 21, 8, 22, 23, 24, 25, 26, 27, 28, 29, 30, 31, 32, 33, 34, 35, 36, 37, 38, 39, 40, 41, 42, 43, 44, 45, 46, 47, 48, 49, 50, 51, 52, 53, 54, 55, 56, 57, 58, 59, 60, 61, 62, 63, 64, 65, 66, 67, 68] (by decide +kernel) (by decide +kernel)
set_option maxRecDepth 20000 in
theorem gX8_first_X8_waysOf : GoodIn wsX8_first (wsV RX8 182 RX8 yX8_waysOf wsX8_waysOf) := goodIn_app (goodIn_of _ (by decide +kernel)) ggX8_first_X8_waysOf
set_option maxRecDepth 20000 in
theorem ggX8_first_X8_places : GoodIn wsX8_first wsX8_places := goodIn_r _ [37, 38, 47, 48, 49, 50, 51, 52, 53, 54, 55, 56, 57, 58, 59, 60, 61, 62, 63, 64, 65, 66, 67, 68] (by decide +kernel) (by decide +kernel)
set_option maxRecDepth 20000 in
theorem gX8_first_X8_places : GoodIn wsX8_first (wsV RX8 119 RX8 yX8_places wsX8_places) := goodIn_app (goodIn_of _ (by decide +kernel)) ggX8_first_X8_places
set_option maxRecDepth 20000 in
theorem ggX8_first_X8_goes : GoodIn wsX8_first wsX8_goes := goodIn_r _ [42, 20, 43, 44, 45, 6, 46, 38, 47, 48, 49, 50, 51, 52, 53, 54, 55, 56, 57, 58, 59, 60, 61, 62, 63, 64, 65, 66, 67, 68] (by decide +kernel) (by decide +kernel)
set_option maxRecDepth 20000 in
theorem gX8_first_X8_goes : GoodIn wsX8_first (wsV RX8 168 RX8 yX8_goes wsX8_goes) := goodIn_app (goodIn_of _ (by decide +kernel)) ggX8_first_X8_goes
theorem dX8_first_0 : decode cX8_first 0 = .ok (.aload_n 0, 1) := by decide +kernel
theorem dX8_first_1 : decode cX8_first 1 = .ok (.iload_n 1, 1) := by decide +kernel
theorem dX8_first_2 : decode cX8_first 2 = .ok (.invokevirtual 136, 3) := by decide +kernel
theorem dX8_first_5 : decode cX8_first 5 = .ok (.ifCond .eq 7, 3) := by decide +kernel
theorem dX8_first_8 : decode cX8_first 8 = .ok (.iload_n 2, 1) := by decide +kernel
theorem dX8_first_9 : decode cX8_first 9 = .ok (.ifCond .ge 5, 3) := by decide +kernel
theorem dX8_first_12 : decode cX8_first 12 = .ok (.iconst (-1), 1) := by decide +kernel
theorem dX8_first_13 : decode cX8_first 13 = .ok (.ireturn, 1) := by decide +kernel
theorem dX8_first_14 : decode cX8_first 14 = .ok (.aload_n 0, 1) := by decide +kernel
theorem dX8_first_15 : decode cX8_first 15 = .ok (.iload_n 1, 1) := by decide +kernel
theorem dX8_first_16 : decode cX8_first 16 = .ok (.invokevirtual 182, 3) := by decide +kernel
theorem dX8_first_19 : decode cX8_first 19 = .ok (.ifCond .eq 11, 3) := by decide +kernel
theorem dX8_first_22 : decode cX8_first 22 = .ok (.iload_n 2, 1) := by decide +kernel
theorem dX8_first_23 : decode cX8_first 23 = .ok (.aload_n 0, 1) := by decide +kernel
theorem dX8_first_24 : decode cX8_first 24 = .ok (.getfield 161, 3) := by decide +kernel
theorem dX8_first_27 : decode cX8_first 27 = .ok (.if_icmp .lt 6, 3) := by decide +kernel
theorem dX8_first_30 : decode cX8_first 30 = .ok (.bipush (-4), 2) := by decide +kernel
theorem dX8_first_32 : decode cX8_first 32 = .ok (.ireturn, 1) := by decide +kernel
theorem dX8_first_33 : decode cX8_first 33 = .ok (.bipush (-4), 2) := by decide +kernel
theorem dX8_first_35 : decode cX8_first 35 = .ok (.istore_n 3, 1) := by decide +kernel
theorem dX8_first_36 : decode cX8_first 36 = .ok (.iconst 0, 1) := by decide +kernel
theorem dX8_first_37 : decode cX8_first 37 = .ok (.istore 4, 2) := by decide +kernel
theorem dX8_first_39 : decode cX8_first 39 = .ok (.iload 4, 2) := by decide +kernel
theorem dX8_first_41 : decode cX8_first 41 = .ok (.iload_n 2, 1) := by decide +kernel
theorem dX8_first_42 : decode cX8_first 42 = .ok (.if_icmp .gt 75, 3) := by decide +kernel
theorem dX8_first_45 : decode cX8_first 45 = .ok (.bipush (-4), 2) := by decide +kernel
theorem dX8_first_47 : decode cX8_first 47 = .ok (.istore 5, 2) := by decide +kernel
theorem dX8_first_49 : decode cX8_first 49 = .ok (.aload_n 0, 1) := by decide +kernel
theorem dX8_first_50 : decode cX8_first 50 = .ok (.invokevirtual 119, 3) := by decide +kernel
theorem dX8_first_53 : decode cX8_first 53 = .ok (.iconst 1, 1) := by decide +kernel
theorem dX8_first_54 : decode cX8_first 54 = .ok (.isub, 1) := by decide +kernel
theorem dX8_first_55 : decode cX8_first 55 = .ok (.istore 6, 2) := by decide +kernel
theorem dX8_first_57 : decode cX8_first 57 = .ok (.iload 6, 2) := by decide +kernel
theorem dX8_first_59 : decode cX8_first 59 = .ok (.ifCond .lt 49, 3) := by decide +kernel
theorem dX8_first_62 : decode cX8_first 62 = .ok (.aload_n 0, 1) := by decide +kernel
theorem dX8_first_63 : decode cX8_first 63 = .ok (.getfield 37, 3) := by decide +kernel
theorem dX8_first_66 : decode cX8_first 66 = .ok (.bipush 16, 2) := by decide +kernel
theorem dX8_first_68 : decode cX8_first 68 = .ok (.iload 4, 2) := by decide +kernel
theorem dX8_first_70 : decode cX8_first 70 = .ok (.imul, 1) := by decide +kernel
theorem dX8_first_71 : decode cX8_first 71 = .ok (.iload 6, 2) := by decide +kernel
theorem dX8_first_73 : decode cX8_first 73 = .ok (.iadd, 1) := by decide +kernel
theorem dX8_first_74 : decode cX8_first 74 = .ok (.iaload, 1) := by decide +kernel
theorem dX8_first_75 : decode cX8_first 75 = .ok (.ifCond .le 23, 3) := by decide +kernel
theorem dX8_first_78 : decode cX8_first 78 = .ok (.iload 4, 2) := by decide +kernel
theorem dX8_first_80 : decode cX8_first 80 = .ok (.ifCond .eq 13, 3) := by decide +kernel
theorem dX8_first_83 : decode cX8_first 83 = .ok (.aload_n 0, 1) := by decide +kernel
theorem dX8_first_84 : decode cX8_first 84 = .ok (.iload_n 3, 1) := by decide +kernel
theorem dX8_first_85 : decode cX8_first 85 = .ok (.iload 6, 2) := by decide +kernel
theorem dX8_first_87 : decode cX8_first 87 = .ok (.invokevirtual 168, 3) := by decide +kernel
theorem dX8_first_90 : decode cX8_first 90 = .ok (.ifCond .eq 8, 3) := by decide +kernel
theorem dX8_first_93 : decode cX8_first 93 = .ok (.iload 6, 2) := by decide +kernel
theorem dX8_first_95 : decode cX8_first 95 = .ok (.goto 5, 3) := by decide +kernel
theorem dX8_first_98 : decode cX8_first 98 = .ok (.iload 5, 2) := by decide +kernel
theorem dX8_first_100 : decode cX8_first 100 = .ok (.istore 5, 2) := by decide +kernel
theorem dX8_first_102 : decode cX8_first 102 = .ok (.iinc 6 (-1), 3) := by decide +kernel
theorem dX8_first_105 : decode cX8_first 105 = .ok (.goto (-48), 3) := by decide +kernel
theorem dX8_first_108 : decode cX8_first 108 = .ok (.iload 5, 2) := by decide +kernel
theorem dX8_first_110 : decode cX8_first 110 = .ok (.istore_n 3, 1) := by decide +kernel
theorem dX8_first_111 : decode cX8_first 111 = .ok (.iinc 4 1, 3) := by decide +kernel
theorem dX8_first_114 : decode cX8_first 114 = .ok (.goto (-75), 3) := by decide +kernel
theorem dX8_first_117 : decode cX8_first 117 = .ok (.iload_n 3, 1) := by decide +kernel
theorem dX8_first_118 : decode cX8_first 118 = .ok (.ireturn, 1) := by decide +kernel
set_option maxRecDepth 20000 in
theorem ggX8_ends_X8_isWalk : GoodIn wsX8_ends wsX8_isWalk := goodIn_r _ [5, 6, 7, 8, 4, 9, 47, 48, 49, 50, 51, 52, 53, 54, 55, 56, 57, 58, 59, 60, 61, 62, 63, 64, 65, 66, 67, 68] (by decide +kernel) (by decide +kernel)
set_option maxRecDepth 20000 in
theorem gX8_ends_X8_isWalk : GoodIn wsX8_ends (wsV RX8 136 RX8 yX8_isWalk wsX8_isWalk) := goodIn_app (goodIn_of _ (by decide +kernel)) ggX8_ends_X8_isWalk
set_option maxRecDepth 20000 in
theorem ggX8_ends_X8_take : GoodIn wsX8_ends wsX8_take := goodIn_r _ [13, 14, 15, 16, 6, 17, 18, 19, 4, 20, 21, 22, 23, 24, 47, 48, 49, 50, 51, 52, 53, 54, 55, 56, 57, 58, 59, 60, 61, 62, 63, 64, 65, 66, 67, 68] (by decide +kernel) (by decide +kernel)
set_option maxRecDepth 20000 in
theorem gX8_ends_X8_take : GoodIn wsX8_ends (wsV RX8 172 RX8 yX8_take wsX8_take) := goodIn_app (goodIn_of _ (by decide +kernel)) ggX8_ends_X8_take
set_option maxRecDepth 20000 in
theorem ggX8_ends_X8_endsOf : GoodIn wsX8_ends wsX8_endsOf := goodIn_r _ [28, 29, 15, 30, 31, 32, 4, 33, 6, 16, 34, 35, 36, 37, 38, 39, 40, 41, 42, 14, 43, 44, 45, 46, 47, 48, 49, 50, 51, 52, 53, 54, 55, 56, 57, 58, 59, 60, 61, 62, 63, 64, 65, 66, 67, 68] (by decide +kernel) (by decide +kernel)
set_option maxRecDepth 20000 in
theorem gX8_ends_X8_endsOf : GoodIn wsX8_ends (wsV RX8 185 RX8 yX8_endsOf wsX8_endsOf) := goodIn_app (goodIn_of _ (by decide +kernel)) ggX8_ends_X8_endsOf
theorem dX8_ends_0 : decode cX8_ends 0 = .ok (.aload_n 0, 1) := by decide +kernel
theorem dX8_ends_1 : decode cX8_ends 1 = .ok (.iload_n 1, 1) := by decide +kernel
theorem dX8_ends_2 : decode cX8_ends 2 = .ok (.invokevirtual 136, 3) := by decide +kernel
theorem dX8_ends_5 : decode cX8_ends 5 = .ok (.ifCond .ne 5, 3) := by decide +kernel
theorem dX8_ends_8 : decode cX8_ends 8 = .ok (.iconst (-1), 1) := by decide +kernel
theorem dX8_ends_9 : decode cX8_ends 9 = .ok (.ireturn, 1) := by decide +kernel
theorem dX8_ends_10 : decode cX8_ends 10 = .ok (.aload_n 0, 1) := by decide +kernel
theorem dX8_ends_11 : decode cX8_ends 11 = .ok (.iload_n 1, 1) := by decide +kernel
theorem dX8_ends_12 : decode cX8_ends 12 = .ok (.invokevirtual 172, 3) := by decide +kernel
theorem dX8_ends_15 : decode cX8_ends 15 = .ok (.aload_n 0, 1) := by decide +kernel
theorem dX8_ends_16 : decode cX8_ends 16 = .ok (.invokevirtual 185, 3) := by decide +kernel
theorem dX8_ends_19 : decode cX8_ends 19 = .ok (.ireturn, 1) := by decide +kernel
set_option maxRecDepth 20000 in
theorem ggX8_lied_X8_liedNow : GoodIn wsX8_lied wsX8_liedNow := goodIn_r _ [5, 6, 7, 8, 9, 4, 10, 11, 12, 13, 14, 15, 16, 17, 18, 19, 20, 21, 22, 23, 24, 25, 26, 27, 28, 29, 30, 31, 32, 33, 34, 35, 36, 37, 38, 39, 40, 41, 42, 43, 44, 45, 46, 47, 48, 49, 50, 51, 52, 53, 54, 55, 56, 57, 58, 59, 60, 61, 62, 63, 64, 65] (by decide +kernel) (by decide +kernel)
set_option maxRecDepth 20000 in
theorem gX8_lied_X8_liedNow : GoodIn wsX8_lied (wsV RX8 188 RX8 yX8_liedNow wsX8_liedNow) := goodIn_app (goodIn_of _ (by decide +kernel)) ggX8_lied_X8_liedNow
theorem dX8_lied_0 : decode cX8_lied 0 = .ok (.aload_n 0, 1) := by decide +kernel
theorem dX8_lied_1 : decode cX8_lied 1 = .ok (.invokevirtual 188, 3) := by decide +kernel
theorem dX8_lied_4 : decode cX8_lied 4 = .ok (.ireturn, 1) := by decide +kernel
set_option maxRecDepth 20000 in
theorem ggX8_nobody_X8_take : GoodIn wsX8_nobody wsX8_take := goodIn_r _ [9, 10, 2, 11, 1, 12, 13, 14, 8, 15, 16, 17, 18, 19, 41, 42, 43, 44, 45, 46, 47, 48, 49, 50, 51, 52, 53, 54, 55, 56, 57, 58, 59, 60, 61, 62] (by decide +kernel) (by decide +kernel)
set_option maxRecDepth 20000 in
theorem gX8_nobody_X8_take : GoodIn wsX8_nobody (wsV RX8 172 RX8 yX8_take wsX8_take) := goodIn_app (goodIn_of _ (by decide +kernel)) ggX8_nobody_X8_take
set_option maxRecDepth 20000 in
theorem ggX8_nobody_X8_countOnward : GoodIn wsX8_nobody wsX8_countOnward := goodIn_r _ [23, 2, 3, 1, 11, 24, 25, 26, 8, 27, 28, 29, 30, 31, 32, 10, 33, 34, 35, 36, 41, 42, 43, 44, 45, 46, 47, 48, 49, 50, 51, 52, 53, 54, 55, 56, 57, 58, 59, 60, 61, 62] (by decide +kernel) (by decide +kernel)
set_option maxRecDepth 20000 in
theorem gX8_nobody_X8_countOnward : GoodIn wsX8_nobody (wsV RX8 176 RX8 yX8_countOnward wsX8_countOnward) := goodIn_app (goodIn_of _ (by decide +kernel)) ggX8_nobody_X8_countOnward
set_option maxRecDepth 20000 in
theorem ggX8_nobody_X8_countToward : GoodIn wsX8_nobody wsX8_countToward := goodIn_r _ [40, 2, 4, 1, 11, 24, 25, 26, 8, 27, 28, 29, 30, 31, 32, 10, 33, 34, 35, 36, 41, 42, 43, 44, 45, 46, 47, 48, 49, 50, 51, 52, 53, 54, 55, 56, 57, 58, 59, 60, 61, 62] (by decide +kernel) (by decide +kernel)
set_option maxRecDepth 20000 in
theorem gX8_nobody_X8_countToward : GoodIn wsX8_nobody (wsV RX8 179 RX8 yX8_countToward wsX8_countToward) := goodIn_app (goodIn_of _ (by decide +kernel)) ggX8_nobody_X8_countToward
set_option maxRecDepth 20000 in
theorem ggX8_nobody_X8_places : GoodIn wsX8_nobody wsX8_places := goodIn_r _ [27, 28, 41, 42, 43, 44, 45, 46, 47, 48, 49, 50, 51, 52, 53, 54, 55, 56, 57, 58, 59, 60, 61, 62] (by decide +kernel) (by decide +kernel)
set_option maxRecDepth 20000 in
theorem gX8_nobody_X8_places : GoodIn wsX8_nobody (wsV RX8 119 RX8 yX8_places wsX8_places) := goodIn_app (goodIn_of _ (by decide +kernel)) ggX8_nobody_X8_places
theorem dX8_nobody_0 : decode cX8_nobody 0 = .ok (.iconst 0, 1) := by decide +kernel
theorem dX8_nobody_1 : decode cX8_nobody 1 = .ok (.istore_n 1, 1) := by decide +kernel
theorem dX8_nobody_2 : decode cX8_nobody 2 = .ok (.iconst 0, 1) := by decide +kernel
theorem dX8_nobody_3 : decode cX8_nobody 3 = .ok (.istore_n 2, 1) := by decide +kernel
theorem dX8_nobody_4 : decode cX8_nobody 4 = .ok (.iload_n 2, 1) := by decide +kernel
theorem dX8_nobody_5 : decode cX8_nobody 5 = .ok (.aload_n 0, 1) := by decide +kernel
theorem dX8_nobody_6 : decode cX8_nobody 6 = .ok (.getfield 19, 3) := by decide +kernel
theorem dX8_nobody_9 : decode cX8_nobody 9 = .ok (.bipush 16, 2) := by decide +kernel
theorem dX8_nobody_11 : decode cX8_nobody 11 = .ok (.iaload, 1) := by decide +kernel
theorem dX8_nobody_12 : decode cX8_nobody 12 = .ok (.if_icmp .ge 97, 3) := by decide +kernel
theorem dX8_nobody_15 : decode cX8_nobody 15 = .ok (.aload_n 0, 1) := by decide +kernel
theorem dX8_nobody_16 : decode cX8_nobody 16 = .ok (.iload_n 2, 1) := by decide +kernel
theorem dX8_nobody_17 : decode cX8_nobody 17 = .ok (.invokevirtual 172, 3) := by decide +kernel
theorem dX8_nobody_20 : decode cX8_nobody 20 = .ok (.aload_n 0, 1) := by decide +kernel
theorem dX8_nobody_21 : decode cX8_nobody 21 = .ok (.invokevirtual 176, 3) := by decide +kernel
theorem dX8_nobody_24 : decode cX8_nobody 24 = .ok (.aload_n 0, 1) := by decide +kernel
theorem dX8_nobody_25 : decode cX8_nobody 25 = .ok (.bipush (-4), 2) := by decide +kernel
theorem dX8_nobody_27 : decode cX8_nobody 27 = .ok (.invokevirtual 179, 3) := by decide +kernel
theorem dX8_nobody_30 : decode cX8_nobody 30 = .ok (.iconst 0, 1) := by decide +kernel
theorem dX8_nobody_31 : decode cX8_nobody 31 = .ok (.istore_n 3, 1) := by decide +kernel
theorem dX8_nobody_32 : decode cX8_nobody 32 = .ok (.iload_n 3, 1) := by decide +kernel
theorem dX8_nobody_33 : decode cX8_nobody 33 = .ok (.bipush 16, 2) := by decide +kernel
theorem dX8_nobody_35 : decode cX8_nobody 35 = .ok (.aload_n 0, 1) := by decide +kernel
theorem dX8_nobody_36 : decode cX8_nobody 36 = .ok (.getfield 161, 3) := by decide +kernel
theorem dX8_nobody_39 : decode cX8_nobody 39 = .ok (.imul, 1) := by decide +kernel
theorem dX8_nobody_40 : decode cX8_nobody 40 = .ok (.if_icmp .ge 63, 3) := by decide +kernel
theorem dX8_nobody_43 : decode cX8_nobody 43 = .ok (.iload_n 3, 1) := by decide +kernel
theorem dX8_nobody_44 : decode cX8_nobody 44 = .ok (.bipush 16, 2) := by decide +kernel
theorem dX8_nobody_46 : decode cX8_nobody 46 = .ok (.irem, 1) := by decide +kernel
theorem dX8_nobody_47 : decode cX8_nobody 47 = .ok (.aload_n 0, 1) := by decide +kernel
theorem dX8_nobody_48 : decode cX8_nobody 48 = .ok (.invokevirtual 119, 3) := by decide +kernel
theorem dX8_nobody_51 : decode cX8_nobody 51 = .ok (.if_icmp .ge 25, 3) := by decide +kernel
theorem dX8_nobody_54 : decode cX8_nobody 54 = .ok (.aload_n 0, 1) := by decide +kernel
theorem dX8_nobody_55 : decode cX8_nobody 55 = .ok (.getfield 37, 3) := by decide +kernel
theorem dX8_nobody_58 : decode cX8_nobody 58 = .ok (.iload_n 3, 1) := by decide +kernel
theorem dX8_nobody_59 : decode cX8_nobody 59 = .ok (.iaload, 1) := by decide +kernel
theorem dX8_nobody_60 : decode cX8_nobody 60 = .ok (.ifCond .le 16, 3) := by decide +kernel
theorem dX8_nobody_63 : decode cX8_nobody 63 = .ok (.aload_n 0, 1) := by decide +kernel
theorem dX8_nobody_64 : decode cX8_nobody 64 = .ok (.getfield 40, 3) := by decide +kernel
theorem dX8_nobody_67 : decode cX8_nobody 67 = .ok (.iload_n 3, 1) := by decide +kernel
theorem dX8_nobody_68 : decode cX8_nobody 68 = .ok (.iaload, 1) := by decide +kernel
theorem dX8_nobody_69 : decode cX8_nobody 69 = .ok (.ifCond .le 7, 3) := by decide +kernel
theorem dX8_nobody_72 : decode cX8_nobody 72 = .ok (.iconst 1, 1) := by decide +kernel
theorem dX8_nobody_73 : decode cX8_nobody 73 = .ok (.goto 4, 3) := by decide +kernel
theorem dX8_nobody_76 : decode cX8_nobody 76 = .ok (.iconst 0, 1) := by decide +kernel
theorem dX8_nobody_77 : decode cX8_nobody 77 = .ok (.istore 4, 2) := by decide +kernel
theorem dX8_nobody_79 : decode cX8_nobody 79 = .ok (.iload_n 1, 1) := by decide +kernel
theorem dX8_nobody_80 : decode cX8_nobody 80 = .ok (.iload 4, 2) := by decide +kernel
theorem dX8_nobody_82 : decode cX8_nobody 82 = .ok (.ifCond .eq 12, 3) := by decide +kernel
theorem dX8_nobody_85 : decode cX8_nobody 85 = .ok (.iconst 1, 1) := by decide +kernel
theorem dX8_nobody_86 : decode cX8_nobody 86 = .ok (.iload_n 3, 1) := by decide +kernel
theorem dX8_nobody_87 : decode cX8_nobody 87 = .ok (.bipush 16, 2) := by decide +kernel
theorem dX8_nobody_89 : decode cX8_nobody 89 = .ok (.irem, 1) := by decide +kernel
theorem dX8_nobody_90 : decode cX8_nobody 90 = .ok (.ishl, 1) := by decide +kernel
theorem dX8_nobody_91 : decode cX8_nobody 91 = .ok (.goto 4, 3) := by decide +kernel
theorem dX8_nobody_94 : decode cX8_nobody 94 = .ok (.iconst 0, 1) := by decide +kernel
theorem dX8_nobody_95 : decode cX8_nobody 95 = .ok (.ior, 1) := by decide +kernel
theorem dX8_nobody_96 : decode cX8_nobody 96 = .ok (.istore_n 1, 1) := by decide +kernel
theorem dX8_nobody_97 : decode cX8_nobody 97 = .ok (.iinc 3 1, 3) := by decide +kernel
theorem dX8_nobody_100 : decode cX8_nobody 100 = .ok (.goto (-68), 3) := by decide +kernel
theorem dX8_nobody_103 : decode cX8_nobody 103 = .ok (.iinc 2 1, 3) := by decide +kernel
theorem dX8_nobody_106 : decode cX8_nobody 106 = .ok (.goto (-102), 3) := by decide +kernel
theorem dX8_nobody_109 : decode cX8_nobody 109 = .ok (.iconst 1, 1) := by decide +kernel
theorem dX8_nobody_110 : decode cX8_nobody 110 = .ok (.aload_n 0, 1) := by decide +kernel
theorem dX8_nobody_111 : decode cX8_nobody 111 = .ok (.invokevirtual 119, 3) := by decide +kernel
theorem dX8_nobody_114 : decode cX8_nobody 114 = .ok (.ishl, 1) := by decide +kernel
theorem dX8_nobody_115 : decode cX8_nobody 115 = .ok (.iconst 1, 1) := by decide +kernel
theorem dX8_nobody_116 : decode cX8_nobody 116 = .ok (.isub, 1) := by decide +kernel
theorem dX8_nobody_117 : decode cX8_nobody 117 = .ok (.iload_n 1, 1) := by decide +kernel
theorem dX8_nobody_118 : decode cX8_nobody 118 = .ok (.iconst (-1), 1) := by decide +kernel
theorem dX8_nobody_119 : decode cX8_nobody 119 = .ok (.ixor, 1) := by decide +kernel
theorem dX8_nobody_120 : decode cX8_nobody 120 = .ok (.iand, 1) := by decide +kernel
theorem dX8_nobody_121 : decode cX8_nobody 121 = .ok (.ireturn, 1) := by decide +kernel
set_option maxRecDepth 20000 in
theorem ggX8_may_X8_isPlace : GoodIn wsX8_may wsX8_isPlace := goodIn_r _ [6, 7, 8, 9, 5, 10, 11, 12, 13, 14, 51, 52, 53, 54, 55, 56, 57, 58, 59, 60, 61, 62, 63, 64, 65, 66, 67, 68, 69, 70, 71, 72] (by decide +kernel) (by decide +kernel)
set_option maxRecDepth 20000 in
theorem gX8_may_X8_isPlace : GoodIn wsX8_may (wsV RX8 128 RX8 yX8_isPlace wsX8_isPlace) := goodIn_app (goodIn_of _ (by decide +kernel)) ggX8_may_X8_isPlace
set_option maxRecDepth 20000 in
theorem ggX8_may_X8_liedNow : GoodIn wsX8_may wsX8_liedNow := goodIn_r _ [18, 1, 19, 20, 21, 5, 22, 23, 24, 25, 26, 27, 28, 29, 30, 31, 32, 33, 34, 35, 36, 37, 38, 39, 40, 41, 42, 7, 8, 9, 10, 11, 43, 44, 45, 46, 47, 48, 49, 50, 51, 52, 53, 54, 55, 56, 57, 58, 59, 60, 61, 62, 63, 64, 65, 66, 67, 68, 69, 70, 71, 72] (by decide +kernel) (by decide +kernel)
set_option maxRecDepth 20000 in
theorem gX8_may_X8_liedNow : GoodIn wsX8_may (wsV RX8 188 RX8 yX8_liedNow wsX8_liedNow) := goodIn_app (goodIn_of _ (by decide +kernel)) ggX8_may_X8_liedNow
theorem dX8_may_0 : decode cX8_may 0 = .ok (.aload_n 0, 1) := by decide +kernel
theorem dX8_may_1 : decode cX8_may 1 = .ok (.iload_n 1, 1) := by decide +kernel
theorem dX8_may_2 : decode cX8_may 2 = .ok (.invokevirtual 128, 3) := by decide +kernel
theorem dX8_may_5 : decode cX8_may 5 = .ok (.ifCond .ne 5, 3) := by decide +kernel
theorem dX8_may_8 : decode cX8_may 8 = .ok (.iconst (-1), 1) := by decide +kernel
theorem dX8_may_9 : decode cX8_may 9 = .ok (.ireturn, 1) := by decide +kernel
theorem dX8_may_10 : decode cX8_may 10 = .ok (.aload_n 0, 1) := by decide +kernel
theorem dX8_may_11 : decode cX8_may 11 = .ok (.getfield 19, 3) := by decide +kernel
theorem dX8_may_14 : decode cX8_may 14 = .ok (.iload_n 1, 1) := by decide +kernel
theorem dX8_may_15 : decode cX8_may 15 = .ok (.iaload, 1) := by decide +kernel
theorem dX8_may_16 : decode cX8_may 16 = .ok (.istore_n 2, 1) := by decide +kernel
theorem dX8_may_17 : decode cX8_may 17 = .ok (.iconst 0, 1) := by decide +kernel
theorem dX8_may_18 : decode cX8_may 18 = .ok (.istore_n 3, 1) := by decide +kernel
theorem dX8_may_19 : decode cX8_may 19 = .ok (.iconst 0, 1) := by decide +kernel
theorem dX8_may_20 : decode cX8_may 20 = .ok (.istore 4, 2) := by decide +kernel
theorem dX8_may_22 : decode cX8_may 22 = .ok (.iload 4, 2) := by decide +kernel
theorem dX8_may_24 : decode cX8_may 24 = .ok (.bipush 6, 2) := by decide +kernel
theorem dX8_may_26 : decode cX8_may 26 = .ok (.if_icmp .ge 35, 3) := by decide +kernel
theorem dX8_may_29 : decode cX8_may 29 = .ok (.aload_n 0, 1) := by decide +kernel
theorem dX8_may_30 : decode cX8_may 30 = .ok (.getfield 19, 3) := by decide +kernel
theorem dX8_may_33 : decode cX8_may 33 = .ok (.iload_n 1, 1) := by decide +kernel
theorem dX8_may_34 : decode cX8_may 34 = .ok (.iload 4, 2) := by decide +kernel
theorem dX8_may_36 : decode cX8_may 36 = .ok (.iastore, 1) := by decide +kernel
theorem dX8_may_37 : decode cX8_may 37 = .ok (.iload_n 3, 1) := by decide +kernel
theorem dX8_may_38 : decode cX8_may 38 = .ok (.aload_n 0, 1) := by decide +kernel
theorem dX8_may_39 : decode cX8_may 39 = .ok (.invokevirtual 188, 3) := by decide +kernel
theorem dX8_may_42 : decode cX8_may 42 = .ok (.ifCond .ne 10, 3) := by decide +kernel
theorem dX8_may_45 : decode cX8_may 45 = .ok (.iconst 1, 1) := by decide +kernel
theorem dX8_may_46 : decode cX8_may 46 = .ok (.iload 4, 2) := by decide +kernel
theorem dX8_may_48 : decode cX8_may 48 = .ok (.ishl, 1) := by decide +kernel
theorem dX8_may_49 : decode cX8_may 49 = .ok (.goto 4, 3) := by decide +kernel
theorem dX8_may_52 : decode cX8_may 52 = .ok (.iconst 0, 1) := by decide +kernel
theorem dX8_may_53 : decode cX8_may 53 = .ok (.ior, 1) := by decide +kernel
theorem dX8_may_54 : decode cX8_may 54 = .ok (.istore_n 3, 1) := by decide +kernel
theorem dX8_may_55 : decode cX8_may 55 = .ok (.iinc 4 1, 3) := by decide +kernel
theorem dX8_may_58 : decode cX8_may 58 = .ok (.goto (-36), 3) := by decide +kernel
theorem dX8_may_61 : decode cX8_may 61 = .ok (.aload_n 0, 1) := by decide +kernel
theorem dX8_may_62 : decode cX8_may 62 = .ok (.getfield 19, 3) := by decide +kernel
theorem dX8_may_65 : decode cX8_may 65 = .ok (.iload_n 1, 1) := by decide +kernel
theorem dX8_may_66 : decode cX8_may 66 = .ok (.iload_n 2, 1) := by decide +kernel
theorem dX8_may_67 : decode cX8_may 67 = .ok (.iastore, 1) := by decide +kernel
theorem dX8_may_68 : decode cX8_may 68 = .ok (.iload_n 3, 1) := by decide +kernel
theorem dX8_may_69 : decode cX8_may 69 = .ok (.ireturn, 1) := by decide +kernel
set_option maxRecDepth 20000 in
theorem ggX8_moved_X8_in : GoodIn wsX8_moved wsX8_in := goodIn_r _ [5] (by decide +kernel) (by decide +kernel)
set_option maxRecDepth 20000 in
theorem gX8_moved_X8_in : GoodIn wsX8_moved (va_wsS RX8 70 yX8_in wsX8_in) := goodIn_app (goodIn_of _ (by decide +kernel)) ggX8_moved_X8_in
set_option maxRecDepth 20000 in
theorem ggX8_moved_X8_places : GoodIn wsX8_moved wsX8_places := goodIn_r _ [9, 10, 51, 52, 53, 54, 55, 56, 57, 58, 59, 60, 61, 62, 63, 64, 65, 66, 67, 68, 69, 70, 71, 72] (by decide +kernel) (by decide +kernel)
set_option maxRecDepth 20000 in
theorem gX8_moved_X8_places : GoodIn wsX8_moved (wsV RX8 119 RX8 yX8_places wsX8_places) := goodIn_app (goodIn_of _ (by decide +kernel)) ggX8_moved_X8_places
set_option maxRecDepth 20000 in
theorem ggX8_moved_X8_exchange : GoodIn wsX8_moved wsX8_exchange := goodIn_r _ [14, 1, 51, 52, 53, 54, 55, 56, 57, 58, 59, 60, 61, 62, 63, 64, 65, 66, 67, 68, 69, 70, 71, 72] (by decide +kernel) (by decide +kernel)
set_option maxRecDepth 20000 in
theorem gX8_moved_X8_exchange : GoodIn wsX8_moved (wsV RX8 145 RX8 yX8_exchange wsX8_exchange) := goodIn_app (goodIn_of _ (by decide +kernel)) ggX8_moved_X8_exchange
set_option maxRecDepth 20000 in
theorem ggX8_moved_X8_liedNow : GoodIn wsX8_moved wsX8_liedNow := goodIn_r _ [18, 1, 19, 20, 21, 4, 22, 23, 24, 25, 26, 27, 28, 29, 30, 31, 32, 33, 34, 35, 36, 37, 38, 39, 40, 41, 42, 6, 7, 8, 9, 10, 43, 44, 45, 46, 47, 48, 49, 50, 51, 52, 53, 54, 55, 56, 57, 58, 59, 60, 61, 62, 63, 64, 65, 66, 67, 68, 69, 70, 71, 72] (by decide +kernel) (by decide +kernel)
set_option maxRecDepth 20000 in
theorem gX8_moved_X8_liedNow : GoodIn wsX8_moved (wsV RX8 188 RX8 yX8_liedNow wsX8_liedNow) := goodIn_app (goodIn_of _ (by decide +kernel)) ggX8_moved_X8_liedNow
theorem dX8_moved_0 : decode cX8_moved 0 = .ok (.iload_n 1, 1) := by decide +kernel
theorem dX8_moved_1 : decode cX8_moved 1 = .ok (.i2l, 1) := by decide +kernel
theorem dX8_moved_2 : decode cX8_moved 2 = .ok (.lconst 0, 1) := by decide +kernel
theorem dX8_moved_3 : decode cX8_moved 3 = .ok (.lconst 1, 1) := by decide +kernel
theorem dX8_moved_4 : decode cX8_moved 4 = .ok (.invokestatic 70, 3) := by decide +kernel
theorem dX8_moved_7 : decode cX8_moved 7 = .ok (.ifCond .ne 5, 3) := by decide +kernel
theorem dX8_moved_10 : decode cX8_moved 10 = .ok (.iconst (-1), 1) := by decide +kernel
theorem dX8_moved_11 : decode cX8_moved 11 = .ok (.ireturn, 1) := by decide +kernel
theorem dX8_moved_12 : decode cX8_moved 12 = .ok (.iconst 0, 1) := by decide +kernel
theorem dX8_moved_13 : decode cX8_moved 13 = .ok (.istore_n 2, 1) := by decide +kernel
theorem dX8_moved_14 : decode cX8_moved 14 = .ok (.bipush (-4), 2) := by decide +kernel
theorem dX8_moved_16 : decode cX8_moved 16 = .ok (.istore_n 3, 1) := by decide +kernel
theorem dX8_moved_17 : decode cX8_moved 17 = .ok (.iconst 0, 1) := by decide +kernel
theorem dX8_moved_18 : decode cX8_moved 18 = .ok (.istore 4, 2) := by decide +kernel
theorem dX8_moved_20 : decode cX8_moved 20 = .ok (.iload 4, 2) := by decide +kernel
theorem dX8_moved_22 : decode cX8_moved 22 = .ok (.sipush 256, 3) := by decide +kernel
theorem dX8_moved_25 : decode cX8_moved 25 = .ok (.if_icmp .ge 115, 3) := by decide +kernel
theorem dX8_moved_28 : decode cX8_moved 28 = .ok (.iload 4, 2) := by decide +kernel
theorem dX8_moved_30 : decode cX8_moved 30 = .ok (.bipush 16, 2) := by decide +kernel
theorem dX8_moved_32 : decode cX8_moved 32 = .ok (.idiv, 1) := by decide +kernel
theorem dX8_moved_33 : decode cX8_moved 33 = .ok (.istore 5, 2) := by decide +kernel
theorem dX8_moved_35 : decode cX8_moved 35 = .ok (.iload 4, 2) := by decide +kernel
theorem dX8_moved_37 : decode cX8_moved 37 = .ok (.bipush 16, 2) := by decide +kernel
theorem dX8_moved_39 : decode cX8_moved 39 = .ok (.irem, 1) := by decide +kernel
theorem dX8_moved_40 : decode cX8_moved 40 = .ok (.istore 6, 2) := by decide +kernel
theorem dX8_moved_42 : decode cX8_moved 42 = .ok (.iload 5, 2) := by decide +kernel
theorem dX8_moved_44 : decode cX8_moved 44 = .ok (.iload 6, 2) := by decide +kernel
theorem dX8_moved_46 : decode cX8_moved 46 = .ok (.if_icmp .ge 88, 3) := by decide +kernel
theorem dX8_moved_49 : decode cX8_moved 49 = .ok (.iload 6, 2) := by decide +kernel
theorem dX8_moved_51 : decode cX8_moved 51 = .ok (.aload_n 0, 1) := by decide +kernel
theorem dX8_moved_52 : decode cX8_moved 52 = .ok (.invokevirtual 119, 3) := by decide +kernel
theorem dX8_moved_55 : decode cX8_moved 55 = .ok (.if_icmp .ge 79, 3) := by decide +kernel
theorem dX8_moved_58 : decode cX8_moved 58 = .ok (.aload_n 0, 1) := by decide +kernel
theorem dX8_moved_59 : decode cX8_moved 59 = .ok (.getfield 19, 3) := by decide +kernel
theorem dX8_moved_62 : decode cX8_moved 62 = .ok (.iload 5, 2) := by decide +kernel
theorem dX8_moved_64 : decode cX8_moved 64 = .ok (.iaload, 1) := by decide +kernel
theorem dX8_moved_65 : decode cX8_moved 65 = .ok (.aload_n 0, 1) := by decide +kernel
theorem dX8_moved_66 : decode cX8_moved 66 = .ok (.getfield 19, 3) := by decide +kernel
theorem dX8_moved_69 : decode cX8_moved 69 = .ok (.iload 6, 2) := by decide +kernel
theorem dX8_moved_71 : decode cX8_moved 71 = .ok (.iaload, 1) := by decide +kernel
theorem dX8_moved_72 : decode cX8_moved 72 = .ok (.if_icmp .eq 62, 3) := by decide +kernel
theorem dX8_moved_75 : decode cX8_moved 75 = .ok (.aload_n 0, 1) := by decide +kernel
theorem dX8_moved_76 : decode cX8_moved 76 = .ok (.iload 5, 2) := by decide +kernel
theorem dX8_moved_78 : decode cX8_moved 78 = .ok (.iload 6, 2) := by decide +kernel
theorem dX8_moved_80 : decode cX8_moved 80 = .ok (.invokevirtual 145, 3) := by decide +kernel
theorem dX8_moved_83 : decode cX8_moved 83 = .ok (.aload_n 0, 1) := by decide +kernel
theorem dX8_moved_84 : decode cX8_moved 84 = .ok (.invokevirtual 188, 3) := by decide +kernel
theorem dX8_moved_87 : decode cX8_moved 87 = .ok (.ifCond .ne 7, 3) := by decide +kernel
theorem dX8_moved_90 : decode cX8_moved 90 = .ok (.iconst 1, 1) := by decide +kernel
theorem dX8_moved_91 : decode cX8_moved 91 = .ok (.goto 4, 3) := by decide +kernel
theorem dX8_moved_94 : decode cX8_moved 94 = .ok (.iconst 0, 1) := by decide +kernel
theorem dX8_moved_95 : decode cX8_moved 95 = .ok (.istore 7, 2) := by decide +kernel
theorem dX8_moved_97 : decode cX8_moved 97 = .ok (.aload_n 0, 1) := by decide +kernel
theorem dX8_moved_98 : decode cX8_moved 98 = .ok (.iload 5, 2) := by decide +kernel
theorem dX8_moved_100 : decode cX8_moved 100 = .ok (.iload 6, 2) := by decide +kernel
theorem dX8_moved_102 : decode cX8_moved 102 = .ok (.invokevirtual 145, 3) := by decide +kernel
theorem dX8_moved_105 : decode cX8_moved 105 = .ok (.iload 7, 2) := by decide +kernel
theorem dX8_moved_107 : decode cX8_moved 107 = .ok (.ifCond .eq 12, 3) := by decide +kernel
theorem dX8_moved_110 : decode cX8_moved 110 = .ok (.iload_n 2, 1) := by decide +kernel
theorem dX8_moved_111 : decode cX8_moved 111 = .ok (.ifCond .ne 8, 3) := by decide +kernel
theorem dX8_moved_114 : decode cX8_moved 114 = .ok (.iload 4, 2) := by decide +kernel
theorem dX8_moved_116 : decode cX8_moved 116 = .ok (.goto 4, 3) := by decide +kernel
theorem dX8_moved_119 : decode cX8_moved 119 = .ok (.iload_n 3, 1) := by decide +kernel
theorem dX8_moved_120 : decode cX8_moved 120 = .ok (.istore_n 3, 1) := by decide +kernel
theorem dX8_moved_121 : decode cX8_moved 121 = .ok (.iload_n 2, 1) := by decide +kernel
theorem dX8_moved_122 : decode cX8_moved 122 = .ok (.iload 7, 2) := by decide +kernel
theorem dX8_moved_124 : decode cX8_moved 124 = .ok (.ifCond .eq 7, 3) := by decide +kernel
theorem dX8_moved_127 : decode cX8_moved 127 = .ok (.iconst 1, 1) := by decide +kernel
theorem dX8_moved_128 : decode cX8_moved 128 = .ok (.goto 4, 3) := by decide +kernel
theorem dX8_moved_131 : decode cX8_moved 131 = .ok (.iconst 0, 1) := by decide +kernel
theorem dX8_moved_132 : decode cX8_moved 132 = .ok (.iadd, 1) := by decide +kernel
theorem dX8_moved_133 : decode cX8_moved 133 = .ok (.istore_n 2, 1) := by decide +kernel
theorem dX8_moved_134 : decode cX8_moved 134 = .ok (.iinc 4 1, 3) := by decide +kernel
theorem dX8_moved_137 : decode cX8_moved 137 = .ok (.goto (-117), 3) := by decide +kernel
theorem dX8_moved_140 : decode cX8_moved 140 = .ok (.iload_n 1, 1) := by decide +kernel
theorem dX8_moved_141 : decode cX8_moved 141 = .ok (.ifCond .ne 7, 3) := by decide +kernel
theorem dX8_moved_144 : decode cX8_moved 144 = .ok (.iload_n 2, 1) := by decide +kernel
theorem dX8_moved_145 : decode cX8_moved 145 = .ok (.goto 4, 3) := by decide +kernel
theorem dX8_moved_148 : decode cX8_moved 148 = .ok (.iload_n 3, 1) := by decide +kernel
theorem dX8_moved_149 : decode cX8_moved 149 = .ok (.ireturn, 1) := by decide +kernel
set_option maxRecDepth 20000 in
theorem ggX8_known_X8_isPlace : GoodIn wsX8_known wsX8_isPlace := goodIn_r _ [10, 11, 12, 13, 9, 14, 15, 16, 17, 18, 37, 38, 39, 40, 41, 42, 43, 44, 45, 46, 47, 48, 49, 50, 51, 52, 53, 54, 55, 56, 57, 58] (by decide +kernel) (by decide +kernel)
set_option maxRecDepth 20000 in
theorem gX8_known_X8_isPlace : GoodIn wsX8_known (wsV RX8 128 RX8 yX8_isPlace wsX8_isPlace) := goodIn_app (goodIn_of _ (by decide +kernel)) ggX8_known_X8_isPlace
set_option maxRecDepth 20000 in
theorem ggX8_known_X8_in : GoodIn wsX8_known wsX8_in := goodIn_r _ [18] (by decide +kernel) (by decide +kernel)
set_option maxRecDepth 20000 in
theorem gX8_known_X8_in : GoodIn wsX8_known (va_wsS RX8 70 yX8_in wsX8_in) := goodIn_app (goodIn_of _ (by decide +kernel)) ggX8_known_X8_in
set_option maxRecDepth 20000 in
theorem ggX8_known_X8_endsOf : GoodIn wsX8_known wsX8_endsOf := goodIn_r _ [22, 23, 4, 24, 25, 26, 9, 27, 28, 5, 11, 12, 13, 14, 15, 29, 30, 31, 32, 3, 33, 34, 35, 36, 37, 38, 39, 40, 41, 42, 43, 44, 45, 46, 47, 48, 49, 50, 51, 52, 53, 54, 55, 56, 57, 58] (by decide +kernel) (by decide +kernel)
set_option maxRecDepth 20000 in
theorem gX8_known_X8_endsOf : GoodIn wsX8_known (wsV RX8 185 RX8 yX8_endsOf wsX8_endsOf) := goodIn_app (goodIn_of _ (by decide +kernel)) ggX8_known_X8_endsOf
theorem dX8_known_0 : decode cX8_known 0 = .ok (.aload_n 0, 1) := by decide +kernel
theorem dX8_known_1 : decode cX8_known 1 = .ok (.iload_n 1, 1) := by decide +kernel
theorem dX8_known_2 : decode cX8_known 2 = .ok (.invokevirtual 128, 3) := by decide +kernel
theorem dX8_known_5 : decode cX8_known 5 = .ok (.ifCond .eq 17, 3) := by decide +kernel
theorem dX8_known_8 : decode cX8_known 8 = .ok (.iload_n 2, 1) := by decide +kernel
theorem dX8_known_9 : decode cX8_known 9 = .ok (.i2l, 1) := by decide +kernel
theorem dX8_known_10 : decode cX8_known 10 = .ok (.ldc2_w 191, 3) := by decide +kernel
theorem dX8_known_13 : decode cX8_known 13 = .ok (.ldc2_w 93, 3) := by decide +kernel
theorem dX8_known_16 : decode cX8_known 16 = .ok (.invokestatic 70, 3) := by decide +kernel
theorem dX8_known_19 : decode cX8_known 19 = .ok (.ifCond .ne 5, 3) := by decide +kernel
theorem dX8_known_22 : decode cX8_known 22 = .ok (.iconst (-1), 1) := by decide +kernel
theorem dX8_known_23 : decode cX8_known 23 = .ok (.ireturn, 1) := by decide +kernel
theorem dX8_known_24 : decode cX8_known 24 = .ok (.aload_n 0, 1) := by decide +kernel
theorem dX8_known_25 : decode cX8_known 25 = .ok (.iconst 0, 1) := by decide +kernel
theorem dX8_known_26 : decode cX8_known 26 = .ok (.putfield 158, 3) := by decide +kernel
theorem dX8_known_29 : decode cX8_known 29 = .ok (.iconst 1, 1) := by decide +kernel
theorem dX8_known_30 : decode cX8_known 30 = .ok (.istore_n 3, 1) := by decide +kernel
theorem dX8_known_31 : decode cX8_known 31 = .ok (.aload_n 0, 1) := by decide +kernel
theorem dX8_known_32 : decode cX8_known 32 = .ok (.iconst 1, 1) := by decide +kernel
theorem dX8_known_33 : decode cX8_known 33 = .ok (.putfield 161, 3) := by decide +kernel
theorem dX8_known_36 : decode cX8_known 36 = .ok (.aload_n 0, 1) := by decide +kernel
theorem dX8_known_37 : decode cX8_known 37 = .ok (.getfield 161, 3) := by decide +kernel
theorem dX8_known_40 : decode cX8_known 40 = .ok (.iconst 5, 1) := by decide +kernel
theorem dX8_known_41 : decode cX8_known 41 = .ok (.if_icmp .ge 119, 3) := by decide +kernel
theorem dX8_known_44 : decode cX8_known 44 = .ok (.iload_n 3, 1) := by decide +kernel
theorem dX8_known_45 : decode cX8_known 45 = .ok (.bipush 6, 2) := by decide +kernel
theorem dX8_known_47 : decode cX8_known 47 = .ok (.imul, 1) := by decide +kernel
theorem dX8_known_48 : decode cX8_known 48 = .ok (.istore_n 3, 1) := by decide +kernel
theorem dX8_known_49 : decode cX8_known 49 = .ok (.iconst 0, 1) := by decide +kernel
theorem dX8_known_50 : decode cX8_known 50 = .ok (.istore 4, 2) := by decide +kernel
theorem dX8_known_52 : decode cX8_known 52 = .ok (.iload 4, 2) := by decide +kernel
theorem dX8_known_54 : decode cX8_known 54 = .ok (.iload_n 3, 1) := by decide +kernel
theorem dX8_known_55 : decode cX8_known 55 = .ok (.if_icmp .ge 92, 3) := by decide +kernel
theorem dX8_known_58 : decode cX8_known 58 = .ok (.iload 4, 2) := by decide +kernel
theorem dX8_known_60 : decode cX8_known 60 = .ok (.istore 5, 2) := by decide +kernel
theorem dX8_known_62 : decode cX8_known 62 = .ok (.aload_n 0, 1) := by decide +kernel
theorem dX8_known_63 : decode cX8_known 63 = .ok (.getfield 161, 3) := by decide +kernel
theorem dX8_known_66 : decode cX8_known 66 = .ok (.iconst 1, 1) := by decide +kernel
theorem dX8_known_67 : decode cX8_known 67 = .ok (.isub, 1) := by decide +kernel
theorem dX8_known_68 : decode cX8_known 68 = .ok (.istore 6, 2) := by decide +kernel
theorem dX8_known_70 : decode cX8_known 70 = .ok (.iload 6, 2) := by decide +kernel
theorem dX8_known_72 : decode cX8_known 72 = .ok (.ifCond .lt 28, 3) := by decide +kernel
theorem dX8_known_75 : decode cX8_known 75 = .ok (.aload_n 0, 1) := by decide +kernel
theorem dX8_known_76 : decode cX8_known 76 = .ok (.getfield 34, 3) := by decide +kernel
theorem dX8_known_79 : decode cX8_known 79 = .ok (.iload 6, 2) := by decide +kernel
theorem dX8_known_81 : decode cX8_known 81 = .ok (.iload 5, 2) := by decide +kernel
theorem dX8_known_83 : decode cX8_known 83 = .ok (.bipush 6, 2) := by decide +kernel
theorem dX8_known_85 : decode cX8_known 85 = .ok (.irem, 1) := by decide +kernel
theorem dX8_known_86 : decode cX8_known 86 = .ok (.iastore, 1) := by decide +kernel
theorem dX8_known_87 : decode cX8_known 87 = .ok (.iload 5, 2) := by decide +kernel
theorem dX8_known_89 : decode cX8_known 89 = .ok (.bipush 6, 2) := by decide +kernel
theorem dX8_known_91 : decode cX8_known 91 = .ok (.idiv, 1) := by decide +kernel
theorem dX8_known_92 : decode cX8_known 92 = .ok (.istore 5, 2) := by decide +kernel
theorem dX8_known_94 : decode cX8_known 94 = .ok (.iinc 6 (-1), 3) := by decide +kernel
theorem dX8_known_97 : decode cX8_known 97 = .ok (.goto (-27), 3) := by decide +kernel
theorem dX8_known_100 : decode cX8_known 100 = .ok (.aload_n 0, 1) := by decide +kernel
theorem dX8_known_101 : decode cX8_known 101 = .ok (.invokevirtual 185, 3) := by decide +kernel
theorem dX8_known_104 : decode cX8_known 104 = .ok (.iconst 1, 1) := by decide +kernel
theorem dX8_known_105 : decode cX8_known 105 = .ok (.iload_n 1, 1) := by decide +kernel
theorem dX8_known_106 : decode cX8_known 106 = .ok (.ishl, 1) := by decide +kernel
theorem dX8_known_107 : decode cX8_known 107 = .ok (.if_icmp .ne 34, 3) := by decide +kernel
theorem dX8_known_110 : decode cX8_known 110 = .ok (.iload_n 2, 1) := by decide +kernel
theorem dX8_known_111 : decode cX8_known 111 = .ok (.ifCond .ge 10, 3) := by decide +kernel
theorem dX8_known_114 : decode cX8_known 114 = .ok (.aload_n 0, 1) := by decide +kernel
theorem dX8_known_115 : decode cX8_known 115 = .ok (.getfield 161, 3) := by decide +kernel
theorem dX8_known_118 : decode cX8_known 118 = .ok (.goto 22, 3) := by decide +kernel
theorem dX8_known_121 : decode cX8_known 121 = .ok (.iload_n 2, 1) := by decide +kernel
theorem dX8_known_122 : decode cX8_known 122 = .ok (.aload_n 0, 1) := by decide +kernel
theorem dX8_known_123 : decode cX8_known 123 = .ok (.getfield 161, 3) := by decide +kernel
theorem dX8_known_126 : decode cX8_known 126 = .ok (.if_icmp .ge 12, 3) := by decide +kernel
theorem dX8_known_129 : decode cX8_known 129 = .ok (.aload_n 0, 1) := by decide +kernel
theorem dX8_known_130 : decode cX8_known 130 = .ok (.getfield 34, 3) := by decide +kernel
theorem dX8_known_133 : decode cX8_known 133 = .ok (.iload_n 2, 1) := by decide +kernel
theorem dX8_known_134 : decode cX8_known 134 = .ok (.iaload, 1) := by decide +kernel
theorem dX8_known_135 : decode cX8_known 135 = .ok (.goto 5, 3) := by decide +kernel
theorem dX8_known_138 : decode cX8_known 138 = .ok (.bipush (-4), 2) := by decide +kernel
theorem dX8_known_140 : decode cX8_known 140 = .ok (.ireturn, 1) := by decide +kernel
theorem dX8_known_141 : decode cX8_known 141 = .ok (.iinc 4 1, 3) := by decide +kernel
theorem dX8_known_144 : decode cX8_known 144 = .ok (.goto (-92), 3) := by decide +kernel
theorem dX8_known_147 : decode cX8_known 147 = .ok (.aload_n 0, 1) := by decide +kernel
theorem dX8_known_148 : decode cX8_known 148 = .ok (.dup, 1) := by decide +kernel
theorem dX8_known_149 : decode cX8_known 149 = .ok (.getfield 161, 3) := by decide +kernel
theorem dX8_known_152 : decode cX8_known 152 = .ok (.iconst 1, 1) := by decide +kernel
theorem dX8_known_153 : decode cX8_known 153 = .ok (.iadd, 1) := by decide +kernel
theorem dX8_known_154 : decode cX8_known 154 = .ok (.putfield 161, 3) := by decide +kernel
theorem dX8_known_157 : decode cX8_known 157 = .ok (.goto (-121), 3) := by decide +kernel
theorem dX8_known_160 : decode cX8_known 160 = .ok (.bipush (-4), 2) := by decide +kernel
theorem dX8_known_162 : decode cX8_known 162 = .ok (.ireturn, 1) := by decide +kernel
set_option maxRecDepth 20000 in
theorem ggX8_round_X8_isWalk : GoodIn wsX8_round wsX8_isWalk := goodIn_r _ [7, 8, 9, 10, 6, 11, 43, 44, 45, 46, 47, 48, 49, 50, 51, 52, 53, 54, 55, 56, 57, 58, 59, 60, 61, 62, 63, 64] (by decide +kernel) (by decide +kernel)
set_option maxRecDepth 20000 in
theorem gX8_round_X8_isWalk : GoodIn wsX8_round (wsV RX8 136 RX8 yX8_isWalk wsX8_isWalk) := goodIn_app (goodIn_of _ (by decide +kernel)) ggX8_round_X8_isWalk
set_option maxRecDepth 20000 in
theorem ggX8_round_X8_take : GoodIn wsX8_round wsX8_take := goodIn_r _ [15, 16, 2, 17, 8, 18, 19, 20, 6, 21, 22, 23, 24, 25, 43, 44, 45, 46, 47, 48, 49, 50, 51, 52, 53, 54, 55, 56, 57, 58, 59, 60, 61, 62, 63, 64] (by decide +kernel) (by decide +kernel)
set_option maxRecDepth 20000 in
theorem gX8_round_X8_take : GoodIn wsX8_round (wsV RX8 172 RX8 yX8_take wsX8_take) := goodIn_app (goodIn_of _ (by decide +kernel)) ggX8_round_X8_take
set_option maxRecDepth 20000 in
theorem ggX8_round_X8_places : GoodIn wsX8_round wsX8_places := goodIn_r _ [29, 30, 43, 44, 45, 46, 47, 48, 49, 50, 51, 52, 53, 54, 55, 56, 57, 58, 59, 60, 61, 62, 63, 64] (by decide +kernel) (by decide +kernel)
set_option maxRecDepth 20000 in
theorem gX8_round_X8_places : GoodIn wsX8_round (wsV RX8 119 RX8 yX8_places wsX8_places) := goodIn_app (goodIn_of _ (by decide +kernel)) ggX8_round_X8_places
set_option maxRecDepth 20000 in
theorem ggX8_round_X8_countToward : GoodIn wsX8_round wsX8_countToward := goodIn_r _ [34, 2, 1, 8, 17, 26, 27, 28, 6, 29, 30, 35, 36, 37, 38, 16, 39, 40, 41, 42, 43, 44, 45, 46, 47, 48, 49, 50, 51, 52, 53, 54, 55, 56, 57, 58, 59, 60, 61, 62, 63, 64] (by decide +kernel) (by decide +kernel)
set_option maxRecDepth 20000 in
theorem gX8_round_X8_countToward : GoodIn wsX8_round (wsV RX8 179 RX8 yX8_countToward wsX8_countToward) := goodIn_app (goodIn_of _ (by decide +kernel)) ggX8_round_X8_countToward
theorem dX8_round_0 : decode cX8_round 0 = .ok (.aload_n 0, 1) := by decide +kernel
theorem dX8_round_1 : decode cX8_round 1 = .ok (.iload_n 1, 1) := by decide +kernel
theorem dX8_round_2 : decode cX8_round 2 = .ok (.invokevirtual 136, 3) := by decide +kernel
theorem dX8_round_5 : decode cX8_round 5 = .ok (.ifCond .ne 5, 3) := by decide +kernel
theorem dX8_round_8 : decode cX8_round 8 = .ok (.iconst (-1), 1) := by decide +kernel
theorem dX8_round_9 : decode cX8_round 9 = .ok (.ireturn, 1) := by decide +kernel
theorem dX8_round_10 : decode cX8_round 10 = .ok (.aload_n 0, 1) := by decide +kernel
theorem dX8_round_11 : decode cX8_round 11 = .ok (.iload_n 1, 1) := by decide +kernel
theorem dX8_round_12 : decode cX8_round 12 = .ok (.invokevirtual 172, 3) := by decide +kernel
theorem dX8_round_15 : decode cX8_round 15 = .ok (.iconst 0, 1) := by decide +kernel
theorem dX8_round_16 : decode cX8_round 16 = .ok (.istore_n 2, 1) := by decide +kernel
theorem dX8_round_17 : decode cX8_round 17 = .ok (.iload_n 2, 1) := by decide +kernel
theorem dX8_round_18 : decode cX8_round 18 = .ok (.aload_n 0, 1) := by decide +kernel
theorem dX8_round_19 : decode cX8_round 19 = .ok (.invokevirtual 119, 3) := by decide +kernel
theorem dX8_round_22 : decode cX8_round 22 = .ok (.if_icmp .ge 35, 3) := by decide +kernel
theorem dX8_round_25 : decode cX8_round 25 = .ok (.aload_n 0, 1) := by decide +kernel
theorem dX8_round_26 : decode cX8_round 26 = .ok (.iload_n 2, 1) := by decide +kernel
theorem dX8_round_27 : decode cX8_round 27 = .ok (.invokevirtual 179, 3) := by decide +kernel
theorem dX8_round_30 : decode cX8_round 30 = .ok (.aload_n 0, 1) := by decide +kernel
theorem dX8_round_31 : decode cX8_round 31 = .ok (.getfield 40, 3) := by decide +kernel
theorem dX8_round_34 : decode cX8_round 34 = .ok (.bipush 16, 2) := by decide +kernel
theorem dX8_round_36 : decode cX8_round 36 = .ok (.aload_n 0, 1) := by decide +kernel
theorem dX8_round_37 : decode cX8_round 37 = .ok (.getfield 161, 3) := by decide +kernel
theorem dX8_round_40 : decode cX8_round 40 = .ok (.iconst 1, 1) := by decide +kernel
theorem dX8_round_41 : decode cX8_round 41 = .ok (.isub, 1) := by decide +kernel
theorem dX8_round_42 : decode cX8_round 42 = .ok (.imul, 1) := by decide +kernel
theorem dX8_round_43 : decode cX8_round 43 = .ok (.iload_n 2, 1) := by decide +kernel
theorem dX8_round_44 : decode cX8_round 44 = .ok (.iadd, 1) := by decide +kernel
theorem dX8_round_45 : decode cX8_round 45 = .ok (.iaload, 1) := by decide +kernel
theorem dX8_round_46 : decode cX8_round 46 = .ok (.ifCond .le 5, 3) := by decide +kernel
theorem dX8_round_49 : decode cX8_round 49 = .ok (.iconst 1, 1) := by decide +kernel
theorem dX8_round_50 : decode cX8_round 50 = .ok (.ireturn, 1) := by decide +kernel
theorem dX8_round_51 : decode cX8_round 51 = .ok (.iinc 2 1, 3) := by decide +kernel
theorem dX8_round_54 : decode cX8_round 54 = .ok (.goto (-37), 3) := by decide +kernel
theorem dX8_round_57 : decode cX8_round 57 = .ok (.iconst 0, 1) := by decide +kernel
theorem dX8_round_58 : decode cX8_round 58 = .ok (.ireturn, 1) := by decide +kernel
set_option maxRecDepth 20000 in
theorem ggX8_meet_X8_isWalk : GoodIn wsX8_meet wsX8_isWalk := goodIn_r _ [5, 6, 7, 8, 4, 9, 51, 52, 53, 54, 55, 56, 57, 58, 59, 60, 61, 62, 63, 64, 65, 66, 67, 68, 69, 70, 71, 72] (by decide +kernel) (by decide +kernel)
set_option maxRecDepth 20000 in
theorem gX8_meet_X8_isWalk : GoodIn wsX8_meet (wsV RX8 136 RX8 yX8_isWalk wsX8_isWalk) := goodIn_app (goodIn_of _ (by decide +kernel)) ggX8_meet_X8_isWalk
set_option maxRecDepth 20000 in
theorem ggX8_meet_X8_ends : GoodIn wsX8_meet wsX8_ends := goodIn_r _ [13, 1, 2, 3, 4, 5, 6, 7, 8, 9, 14, 15, 16, 17, 18, 19, 20, 21, 22, 23, 24, 25, 26, 27, 28, 29, 30, 31, 32, 33, 34, 35, 36, 37, 38, 39, 40, 41, 42, 43, 44, 45, 46, 47, 48, 49, 50, 51, 52, 53, 54, 55, 56, 57, 58, 59, 60, 61, 62, 63, 64, 65, 66, 67, 68, 69, 70, 71, 72] (by decide +kernel) (by decide +kernel)
set_option maxRecDepth 20000 in
theorem gX8_meet_X8_ends : GoodIn wsX8_meet (wsV RX8 193 RX8 yX8_ends wsX8_ends) := goodIn_app (goodIn_of _ (by decide +kernel)) ggX8_meet_X8_ends
theorem dX8_meet_0 : decode cX8_meet 0 = .ok (.aload_n 0, 1) := by decide +kernel
theorem dX8_meet_1 : decode cX8_meet 1 = .ok (.iload_n 1, 1) := by decide +kernel
theorem dX8_meet_2 : decode cX8_meet 2 = .ok (.invokevirtual 136, 3) := by decide +kernel
theorem dX8_meet_5 : decode cX8_meet 5 = .ok (.ifCond .eq 30, 3) := by decide +kernel
theorem dX8_meet_8 : decode cX8_meet 8 = .ok (.aload_n 0, 1) := by decide +kernel
theorem dX8_meet_9 : decode cX8_meet 9 = .ok (.iload_n 2, 1) := by decide +kernel
theorem dX8_meet_10 : decode cX8_meet 10 = .ok (.invokevirtual 136, 3) := by decide +kernel
theorem dX8_meet_13 : decode cX8_meet 13 = .ok (.ifCond .eq 22, 3) := by decide +kernel
theorem dX8_meet_16 : decode cX8_meet 16 = .ok (.iload_n 1, 1) := by decide +kernel
theorem dX8_meet_17 : decode cX8_meet 17 = .ok (.iload_n 2, 1) := by decide +kernel
theorem dX8_meet_18 : decode cX8_meet 18 = .ok (.if_icmp .eq 17, 3) := by decide +kernel
theorem dX8_meet_21 : decode cX8_meet 21 = .ok (.aload_n 0, 1) := by decide +kernel
theorem dX8_meet_22 : decode cX8_meet 22 = .ok (.iload_n 1, 1) := by decide +kernel
theorem dX8_meet_23 : decode cX8_meet 23 = .ok (.invokevirtual 193, 3) := by decide +kernel
theorem dX8_meet_26 : decode cX8_meet 26 = .ok (.aload_n 0, 1) := by decide +kernel
theorem dX8_meet_27 : decode cX8_meet 27 = .ok (.iload_n 2, 1) := by decide +kernel
theorem dX8_meet_28 : decode cX8_meet 28 = .ok (.invokevirtual 193, 3) := by decide +kernel
theorem dX8_meet_31 : decode cX8_meet 31 = .ok (.iand, 1) := by decide +kernel
theorem dX8_meet_32 : decode cX8_meet 32 = .ok (.goto 4, 3) := by decide +kernel
theorem dX8_meet_35 : decode cX8_meet 35 = .ok (.iconst (-1), 1) := by decide +kernel
theorem dX8_meet_36 : decode cX8_meet 36 = .ok (.ireturn, 1) := by decide +kernel
set_option maxRecDepth 20000 in
theorem ggX8_countHunger_X8_places : GoodIn wsX8_countHunger wsX8_places := goodIn_r _ [8, 9, 14, 15, 16, 17, 18, 19, 20, 21, 22, 23, 24, 25, 26, 27, 28, 29, 30, 31, 32, 33, 34, 35] (by decide +kernel) (by decide +kernel)
set_option maxRecDepth 20000 in
theorem gX8_countHunger_X8_places : GoodIn wsX8_countHunger (wsV RX8 119 RX8 yX8_places wsX8_places) := goodIn_app (goodIn_of _ (by decide +kernel)) ggX8_countHunger_X8_places
set_option maxRecDepth 20000 in
theorem ggX8_countHunger_X8_apart : GoodIn wsX8_countHunger wsX8_apart := goodIn_r _ [13, 9, 14, 15, 16, 17, 18, 19, 20, 21, 22, 23, 24, 25, 26, 27, 28, 29, 30, 31, 32, 33, 34, 35] (by decide +kernel) (by decide +kernel)
set_option maxRecDepth 20000 in
theorem gX8_countHunger_X8_apart : GoodIn wsX8_countHunger (wsV RX8 164 RX8 yX8_apart wsX8_apart) := goodIn_app (goodIn_of _ (by decide +kernel)) ggX8_countHunger_X8_apart
theorem dX8_countHunger_0 : decode cX8_countHunger 0 = .ok (.iconst 0, 1) := by decide +kernel
theorem dX8_countHunger_1 : decode cX8_countHunger 1 = .ok (.istore_n 2, 1) := by decide +kernel
theorem dX8_countHunger_2 : decode cX8_countHunger 2 = .ok (.iload_n 2, 1) := by decide +kernel
theorem dX8_countHunger_3 : decode cX8_countHunger 3 = .ok (.bipush 16, 2) := by decide +kernel
theorem dX8_countHunger_5 : decode cX8_countHunger 5 = .ok (.if_icmp .ge 27, 3) := by decide +kernel
theorem dX8_countHunger_8 : decode cX8_countHunger 8 = .ok (.aload_n 0, 1) := by decide +kernel
theorem dX8_countHunger_9 : decode cX8_countHunger 9 = .ok (.getfield 43, 3) := by decide +kernel
theorem dX8_countHunger_12 : decode cX8_countHunger 12 = .ok (.iload_n 2, 1) := by decide +kernel
theorem dX8_countHunger_13 : decode cX8_countHunger 13 = .ok (.iload_n 2, 1) := by decide +kernel
theorem dX8_countHunger_14 : decode cX8_countHunger 14 = .ok (.iload_n 1, 1) := by decide +kernel
theorem dX8_countHunger_15 : decode cX8_countHunger 15 = .ok (.if_icmp .ne 7, 3) := by decide +kernel
theorem dX8_countHunger_18 : decode cX8_countHunger 18 = .ok (.iconst 0, 1) := by decide +kernel
theorem dX8_countHunger_19 : decode cX8_countHunger 19 = .ok (.goto 6, 3) := by decide +kernel
theorem dX8_countHunger_22 : decode cX8_countHunger 22 = .ok (.sipush 9999, 3) := by decide +kernel
theorem dX8_countHunger_25 : decode cX8_countHunger 25 = .ok (.iastore, 1) := by decide +kernel
theorem dX8_countHunger_26 : decode cX8_countHunger 26 = .ok (.iinc 2 1, 3) := by decide +kernel
theorem dX8_countHunger_29 : decode cX8_countHunger 29 = .ok (.goto (-27), 3) := by decide +kernel
theorem dX8_countHunger_32 : decode cX8_countHunger 32 = .ok (.iconst 0, 1) := by decide +kernel
theorem dX8_countHunger_33 : decode cX8_countHunger 33 = .ok (.istore_n 2, 1) := by decide +kernel
theorem dX8_countHunger_34 : decode cX8_countHunger 34 = .ok (.iload_n 2, 1) := by decide +kernel
theorem dX8_countHunger_35 : decode cX8_countHunger 35 = .ok (.bipush 16, 2) := by decide +kernel
theorem dX8_countHunger_37 : decode cX8_countHunger 37 = .ok (.if_icmp .ge 137, 3) := by decide +kernel
theorem dX8_countHunger_40 : decode cX8_countHunger 40 = .ok (.iconst 0, 1) := by decide +kernel
theorem dX8_countHunger_41 : decode cX8_countHunger 41 = .ok (.istore_n 3, 1) := by decide +kernel
theorem dX8_countHunger_42 : decode cX8_countHunger 42 = .ok (.iload_n 3, 1) := by decide +kernel
theorem dX8_countHunger_43 : decode cX8_countHunger 43 = .ok (.sipush 256, 3) := by decide +kernel
theorem dX8_countHunger_46 : decode cX8_countHunger 46 = .ok (.if_icmp .ge 122, 3) := by decide +kernel
theorem dX8_countHunger_49 : decode cX8_countHunger 49 = .ok (.iload_n 3, 1) := by decide +kernel
theorem dX8_countHunger_50 : decode cX8_countHunger 50 = .ok (.bipush 16, 2) := by decide +kernel
theorem dX8_countHunger_52 : decode cX8_countHunger 52 = .ok (.idiv, 1) := by decide +kernel
theorem dX8_countHunger_53 : decode cX8_countHunger 53 = .ok (.istore 4, 2) := by decide +kernel
theorem dX8_countHunger_55 : decode cX8_countHunger 55 = .ok (.iload_n 3, 1) := by decide +kernel
theorem dX8_countHunger_56 : decode cX8_countHunger 56 = .ok (.bipush 16, 2) := by decide +kernel
theorem dX8_countHunger_58 : decode cX8_countHunger 58 = .ok (.irem, 1) := by decide +kernel
theorem dX8_countHunger_59 : decode cX8_countHunger 59 = .ok (.istore 5, 2) := by decide +kernel
theorem dX8_countHunger_61 : decode cX8_countHunger 61 = .ok (.iload 4, 2) := by decide +kernel
theorem dX8_countHunger_63 : decode cX8_countHunger 63 = .ok (.aload_n 0, 1) := by decide +kernel
theorem dX8_countHunger_64 : decode cX8_countHunger 64 = .ok (.invokevirtual 119, 3) := by decide +kernel
theorem dX8_countHunger_67 : decode cX8_countHunger 67 = .ok (.if_icmp .ge 28, 3) := by decide +kernel
theorem dX8_countHunger_70 : decode cX8_countHunger 70 = .ok (.iload 5, 2) := by decide +kernel
theorem dX8_countHunger_72 : decode cX8_countHunger 72 = .ok (.aload_n 0, 1) := by decide +kernel
theorem dX8_countHunger_73 : decode cX8_countHunger 73 = .ok (.invokevirtual 119, 3) := by decide +kernel
theorem dX8_countHunger_76 : decode cX8_countHunger 76 = .ok (.if_icmp .ge 19, 3) := by decide +kernel
theorem dX8_countHunger_79 : decode cX8_countHunger 79 = .ok (.aload_n 0, 1) := by decide +kernel
theorem dX8_countHunger_80 : decode cX8_countHunger 80 = .ok (.iload 4, 2) := by decide +kernel
theorem dX8_countHunger_82 : decode cX8_countHunger 82 = .ok (.iload 5, 2) := by decide +kernel
theorem dX8_countHunger_84 : decode cX8_countHunger 84 = .ok (.invokevirtual 164, 3) := by decide +kernel
theorem dX8_countHunger_87 : decode cX8_countHunger 87 = .ok (.iconst 1, 1) := by decide +kernel
theorem dX8_countHunger_88 : decode cX8_countHunger 88 = .ok (.if_icmp .ne 7, 3) := by decide +kernel
theorem dX8_countHunger_91 : decode cX8_countHunger 91 = .ok (.iconst 1, 1) := by decide +kernel
theorem dX8_countHunger_92 : decode cX8_countHunger 92 = .ok (.goto 4, 3) := by decide +kernel
theorem dX8_countHunger_95 : decode cX8_countHunger 95 = .ok (.iconst 0, 1) := by decide +kernel
theorem dX8_countHunger_96 : decode cX8_countHunger 96 = .ok (.istore 6, 2) := by decide +kernel
theorem dX8_countHunger_98 : decode cX8_countHunger 98 = .ok (.iload 6, 2) := by decide +kernel
theorem dX8_countHunger_100 : decode cX8_countHunger 100 = .ok (.ifCond .eq 26, 3) := by decide +kernel
theorem dX8_countHunger_103 : decode cX8_countHunger 103 = .ok (.aload_n 0, 1) := by decide +kernel
theorem dX8_countHunger_104 : decode cX8_countHunger 104 = .ok (.getfield 16, 3) := by decide +kernel
theorem dX8_countHunger_107 : decode cX8_countHunger 107 = .ok (.aload_n 0, 1) := by decide +kernel
theorem dX8_countHunger_108 : decode cX8_countHunger 108 = .ok (.getfield 19, 3) := by decide +kernel
theorem dX8_countHunger_111 : decode cX8_countHunger 111 = .ok (.iload 5, 2) := by decide +kernel
theorem dX8_countHunger_113 : decode cX8_countHunger 113 = .ok (.iaload, 1) := by decide +kernel
theorem dX8_countHunger_114 : decode cX8_countHunger 114 = .ok (.iaload, 1) := by decide +kernel
theorem dX8_countHunger_115 : decode cX8_countHunger 115 = .ok (.aload_n 0, 1) := by decide +kernel
theorem dX8_countHunger_116 : decode cX8_countHunger 116 = .ok (.getfield 43, 3) := by decide +kernel
theorem dX8_countHunger_119 : decode cX8_countHunger 119 = .ok (.iload 5, 2) := by decide +kernel
theorem dX8_countHunger_121 : decode cX8_countHunger 121 = .ok (.iaload, 1) := by decide +kernel
theorem dX8_countHunger_122 : decode cX8_countHunger 122 = .ok (.iadd, 1) := by decide +kernel
theorem dX8_countHunger_123 : decode cX8_countHunger 123 = .ok (.goto 6, 3) := by decide +kernel
theorem dX8_countHunger_126 : decode cX8_countHunger 126 = .ok (.sipush 9999, 3) := by decide +kernel
theorem dX8_countHunger_129 : decode cX8_countHunger 129 = .ok (.istore 7, 2) := by decide +kernel
theorem dX8_countHunger_131 : decode cX8_countHunger 131 = .ok (.aload_n 0, 1) := by decide +kernel
theorem dX8_countHunger_132 : decode cX8_countHunger 132 = .ok (.getfield 43, 3) := by decide +kernel
theorem dX8_countHunger_135 : decode cX8_countHunger 135 = .ok (.iload 4, 2) := by decide +kernel
theorem dX8_countHunger_137 : decode cX8_countHunger 137 = .ok (.iload 7, 2) := by decide +kernel
theorem dX8_countHunger_139 : decode cX8_countHunger 139 = .ok (.aload_n 0, 1) := by decide +kernel
theorem dX8_countHunger_140 : decode cX8_countHunger 140 = .ok (.getfield 43, 3) := by decide +kernel
theorem dX8_countHunger_143 : decode cX8_countHunger 143 = .ok (.iload 4, 2) := by decide +kernel
theorem dX8_countHunger_145 : decode cX8_countHunger 145 = .ok (.iaload, 1) := by decide +kernel
theorem dX8_countHunger_146 : decode cX8_countHunger 146 = .ok (.if_icmp .ge 8, 3) := by decide +kernel
theorem dX8_countHunger_149 : decode cX8_countHunger 149 = .ok (.iload 7, 2) := by decide +kernel
theorem dX8_countHunger_151 : decode cX8_countHunger 151 = .ok (.goto 10, 3) := by decide +kernel
theorem dX8_countHunger_154 : decode cX8_countHunger 154 = .ok (.aload_n 0, 1) := by decide +kernel
theorem dX8_countHunger_155 : decode cX8_countHunger 155 = .ok (.getfield 43, 3) := by decide +kernel
theorem dX8_countHunger_158 : decode cX8_countHunger 158 = .ok (.iload 4, 2) := by decide +kernel
theorem dX8_countHunger_160 : decode cX8_countHunger 160 = .ok (.iaload, 1) := by decide +kernel
theorem dX8_countHunger_161 : decode cX8_countHunger 161 = .ok (.iastore, 1) := by decide +kernel
theorem dX8_countHunger_162 : decode cX8_countHunger 162 = .ok (.iinc 3 1, 3) := by decide +kernel
theorem dX8_countHunger_165 : decode cX8_countHunger 165 = .ok (.goto (-123), 3) := by decide +kernel
theorem dX8_countHunger_168 : decode cX8_countHunger 168 = .ok (.iinc 2 1, 3) := by decide +kernel
theorem dX8_countHunger_171 : decode cX8_countHunger 171 = .ok (.goto (-137), 3) := by decide +kernel
theorem dX8_countHunger_174 : decode cX8_countHunger 174 = .ok (.return_, 1) := by decide +kernel
set_option maxRecDepth 20000 in
theorem ggX8_road_X8_isPlace : GoodIn wsX8_road wsX8_isPlace := goodIn_r _ [8, 9, 10, 11, 7, 12, 13, 14, 15, 16, 25, 26, 27, 28, 29, 30, 31, 32, 33, 34, 35, 36, 37, 38, 39, 40, 41, 42, 43, 44, 45, 46] (by decide +kernel) (by decide +kernel)
set_option maxRecDepth 20000 in
theorem gX8_road_X8_isPlace : GoodIn wsX8_road (wsV RX8 128 RX8 yX8_isPlace wsX8_isPlace) := goodIn_app (goodIn_of _ (by decide +kernel)) ggX8_road_X8_isPlace
set_option maxRecDepth 20000 in
theorem ggX8_road_X8_in : GoodIn wsX8_road wsX8_in := goodIn_r _ [16] (by decide +kernel) (by decide +kernel)
set_option maxRecDepth 20000 in
theorem gX8_road_X8_in : GoodIn wsX8_road (va_wsS RX8 70 yX8_in wsX8_in) := goodIn_app (goodIn_of _ (by decide +kernel)) ggX8_road_X8_in
set_option maxRecDepth 20000 in
theorem ggX8_road_X8_countHunger : GoodIn wsX8_road wsX8_countHunger := goodIn_r _ [20, 1, 2, 3, 9, 10, 11, 7, 12, 13, 21, 22, 23, 24, 25, 26, 27, 28, 29, 30, 31, 32, 33, 34, 35, 36, 37, 38, 39, 40, 41, 42, 43, 44, 45, 46] (by decide +kernel) (by decide +kernel)
set_option maxRecDepth 20000 in
theorem gX8_road_X8_countHunger : GoodIn wsX8_road (wsV RX8 196 RX8 yX8_countHunger wsX8_countHunger) := goodIn_app (goodIn_of _ (by decide +kernel)) ggX8_road_X8_countHunger
set_option maxRecDepth 20000 in
theorem ggX8_road_X8_places : GoodIn wsX8_road wsX8_places := goodIn_r _ [12, 13, 25, 26, 27, 28, 29, 30, 31, 32, 33, 34, 35, 36, 37, 38, 39, 40, 41, 42, 43, 44, 45, 46] (by decide +kernel) (by decide +kernel)
set_option maxRecDepth 20000 in
theorem gX8_road_X8_places : GoodIn wsX8_road (wsV RX8 119 RX8 yX8_places wsX8_places) := goodIn_app (goodIn_of _ (by decide +kernel)) ggX8_road_X8_places
set_option maxRecDepth 20000 in
theorem ggX8_road_X8_apart : GoodIn wsX8_road wsX8_apart := goodIn_r _ [24, 13, 25, 26, 27, 28, 29, 30, 31, 32, 33, 34, 35, 36, 37, 38, 39, 40, 41, 42, 43, 44, 45, 46] (by decide +kernel) (by decide +kernel)
set_option maxRecDepth 20000 in
theorem gX8_road_X8_apart : GoodIn wsX8_road (wsV RX8 164 RX8 yX8_apart wsX8_apart) := goodIn_app (goodIn_of _ (by decide +kernel)) ggX8_road_X8_apart
theorem dX8_road_0 : decode cX8_road 0 = .ok (.aload_n 0, 1) := by decide +kernel
theorem dX8_road_1 : decode cX8_road 1 = .ok (.iload_n 1, 1) := by decide +kernel
theorem dX8_road_2 : decode cX8_road 2 = .ok (.invokevirtual 128, 3) := by decide +kernel
theorem dX8_road_5 : decode cX8_road 5 = .ok (.ifCond .eq 21, 3) := by decide +kernel
theorem dX8_road_8 : decode cX8_road 8 = .ok (.aload_n 0, 1) := by decide +kernel
theorem dX8_road_9 : decode cX8_road 9 = .ok (.iload_n 2, 1) := by decide +kernel
theorem dX8_road_10 : decode cX8_road 10 = .ok (.invokevirtual 128, 3) := by decide +kernel
theorem dX8_road_13 : decode cX8_road 13 = .ok (.ifCond .eq 13, 3) := by decide +kernel
theorem dX8_road_16 : decode cX8_road 16 = .ok (.iload_n 3, 1) := by decide +kernel
theorem dX8_road_17 : decode cX8_road 17 = .ok (.i2l, 1) := by decide +kernel
theorem dX8_road_18 : decode cX8_road 18 = .ok (.lconst 0, 1) := by decide +kernel
theorem dX8_road_19 : decode cX8_road 19 = .ok (.lconst 1, 1) := by decide +kernel
theorem dX8_road_20 : decode cX8_road 20 = .ok (.invokestatic 70, 3) := by decide +kernel
theorem dX8_road_23 : decode cX8_road 23 = .ok (.ifCond .ne 5, 3) := by decide +kernel
theorem dX8_road_26 : decode cX8_road 26 = .ok (.iconst (-1), 1) := by decide +kernel
theorem dX8_road_27 : decode cX8_road 27 = .ok (.ireturn, 1) := by decide +kernel
theorem dX8_road_28 : decode cX8_road 28 = .ok (.aload_n 0, 1) := by decide +kernel
theorem dX8_road_29 : decode cX8_road 29 = .ok (.iload_n 2, 1) := by decide +kernel
theorem dX8_road_30 : decode cX8_road 30 = .ok (.invokevirtual 196, 3) := by decide +kernel
theorem dX8_road_33 : decode cX8_road 33 = .ok (.iload_n 3, 1) := by decide +kernel
theorem dX8_road_34 : decode cX8_road 34 = .ok (.ifCond .eq 8, 3) := by decide +kernel
theorem dX8_road_37 : decode cX8_road 37 = .ok (.iload_n 1, 1) := by decide +kernel
theorem dX8_road_38 : decode cX8_road 38 = .ok (.iload_n 2, 1) := by decide +kernel
theorem dX8_road_39 : decode cX8_road 39 = .ok (.if_icmp .ne 18, 3) := by decide +kernel
theorem dX8_road_42 : decode cX8_road 42 = .ok (.iload_n 3, 1) := by decide +kernel
theorem dX8_road_43 : decode cX8_road 43 = .ok (.ifCond .ne 12, 3) := by decide +kernel
theorem dX8_road_46 : decode cX8_road 46 = .ok (.aload_n 0, 1) := by decide +kernel
theorem dX8_road_47 : decode cX8_road 47 = .ok (.getfield 43, 3) := by decide +kernel
theorem dX8_road_50 : decode cX8_road 50 = .ok (.iload_n 1, 1) := by decide +kernel
theorem dX8_road_51 : decode cX8_road 51 = .ok (.iaload, 1) := by decide +kernel
theorem dX8_road_52 : decode cX8_road 52 = .ok (.goto 4, 3) := by decide +kernel
theorem dX8_road_55 : decode cX8_road 55 = .ok (.iload_n 1, 1) := by decide +kernel
theorem dX8_road_56 : decode cX8_road 56 = .ok (.ireturn, 1) := by decide +kernel
theorem dX8_road_57 : decode cX8_road 57 = .ok (.bipush (-4), 2) := by decide +kernel
theorem dX8_road_59 : decode cX8_road 59 = .ok (.istore 4, 2) := by decide +kernel
theorem dX8_road_61 : decode cX8_road 61 = .ok (.aload_n 0, 1) := by decide +kernel
theorem dX8_road_62 : decode cX8_road 62 = .ok (.invokevirtual 119, 3) := by decide +kernel
theorem dX8_road_65 : decode cX8_road 65 = .ok (.iconst 1, 1) := by decide +kernel
theorem dX8_road_66 : decode cX8_road 66 = .ok (.isub, 1) := by decide +kernel
theorem dX8_road_67 : decode cX8_road 67 = .ok (.istore 5, 2) := by decide +kernel
theorem dX8_road_69 : decode cX8_road 69 = .ok (.iload 5, 2) := by decide +kernel
theorem dX8_road_71 : decode cX8_road 71 = .ok (.ifCond .lt 58, 3) := by decide +kernel
theorem dX8_road_74 : decode cX8_road 74 = .ok (.aload_n 0, 1) := by decide +kernel
theorem dX8_road_75 : decode cX8_road 75 = .ok (.iload_n 1, 1) := by decide +kernel
theorem dX8_road_76 : decode cX8_road 76 = .ok (.iload 5, 2) := by decide +kernel
theorem dX8_road_78 : decode cX8_road 78 = .ok (.invokevirtual 164, 3) := by decide +kernel
theorem dX8_road_81 : decode cX8_road 81 = .ok (.iconst 1, 1) := by decide +kernel
theorem dX8_road_82 : decode cX8_road 82 = .ok (.if_icmp .ne 37, 3) := by decide +kernel
theorem dX8_road_85 : decode cX8_road 85 = .ok (.aload_n 0, 1) := by decide +kernel
theorem dX8_road_86 : decode cX8_road 86 = .ok (.getfield 16, 3) := by decide +kernel
theorem dX8_road_89 : decode cX8_road 89 = .ok (.aload_n 0, 1) := by decide +kernel
theorem dX8_road_90 : decode cX8_road 90 = .ok (.getfield 19, 3) := by decide +kernel
theorem dX8_road_93 : decode cX8_road 93 = .ok (.iload 5, 2) := by decide +kernel
theorem dX8_road_95 : decode cX8_road 95 = .ok (.iaload, 1) := by decide +kernel
theorem dX8_road_96 : decode cX8_road 96 = .ok (.iaload, 1) := by decide +kernel
theorem dX8_road_97 : decode cX8_road 97 = .ok (.aload_n 0, 1) := by decide +kernel
theorem dX8_road_98 : decode cX8_road 98 = .ok (.getfield 43, 3) := by decide +kernel
theorem dX8_road_101 : decode cX8_road 101 = .ok (.iload 5, 2) := by decide +kernel
theorem dX8_road_103 : decode cX8_road 103 = .ok (.iaload, 1) := by decide +kernel
theorem dX8_road_104 : decode cX8_road 104 = .ok (.iadd, 1) := by decide +kernel
theorem dX8_road_105 : decode cX8_road 105 = .ok (.aload_n 0, 1) := by decide +kernel
theorem dX8_road_106 : decode cX8_road 106 = .ok (.getfield 43, 3) := by decide +kernel
theorem dX8_road_109 : decode cX8_road 109 = .ok (.iload_n 1, 1) := by decide +kernel
theorem dX8_road_110 : decode cX8_road 110 = .ok (.iaload, 1) := by decide +kernel
theorem dX8_road_111 : decode cX8_road 111 = .ok (.if_icmp .ne 8, 3) := by decide +kernel
theorem dX8_road_114 : decode cX8_road 114 = .ok (.iload 5, 2) := by decide +kernel
theorem dX8_road_116 : decode cX8_road 116 = .ok (.goto 5, 3) := by decide +kernel
theorem dX8_road_119 : decode cX8_road 119 = .ok (.iload 4, 2) := by decide +kernel
theorem dX8_road_121 : decode cX8_road 121 = .ok (.istore 4, 2) := by decide +kernel
theorem dX8_road_123 : decode cX8_road 123 = .ok (.iinc 5 (-1), 3) := by decide +kernel
theorem dX8_road_126 : decode cX8_road 126 = .ok (.goto (-57), 3) := by decide +kernel
theorem dX8_road_129 : decode cX8_road 129 = .ok (.iload 4, 2) := by decide +kernel
theorem dX8_road_131 : decode cX8_road 131 = .ok (.ireturn, 1) := by decide +kernel

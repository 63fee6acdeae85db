set_option maxRecDepth 20000 in
theorem gX0_init_X1_init_n11 : GoodIn wsX0_init (wsX1_init) := ggX0_init_X1_init
theorem dX0_init_0 : decode cX0_init 0 = .ok (.aload_n 0, 1) := by decide +kernel
theorem dX0_init_1 : decode cX0_init 1 = .ok (.invokespecial 3, 3) := by decide +kernel
theorem dX0_init_4 : decode cX0_init 4 = .ok (.aload_n 0, 1) := by decide +kernel
theorem dX0_init_5 : decode cX0_init 5 = .ok (.new 9, 3) := by decide +kernel
theorem dX0_init_8 : decode cX0_init 8 = .ok (.dup, 1) := by decide +kernel
theorem dX0_init_9 : decode cX0_init 9 = .ok (.invokespecial 11, 3) := by decide +kernel
theorem dX0_init_12 : decode cX0_init 12 = .ok (.putfield 12, 3) := by decide +kernel
theorem dX0_init_15 : decode cX0_init 15 = .ok (.aload_n 0, 1) := by decide +kernel
theorem dX0_init_16 : decode cX0_init 16 = .ok (.bipush 6, 2) := by decide +kernel
theorem dX0_init_18 : decode cX0_init 18 = .ok (.newarray .int, 2) := by decide +kernel
theorem dX0_init_20 : decode cX0_init 20 = .ok (.putfield 18, 3) := by decide +kernel
theorem dX0_init_23 : decode cX0_init 23 = .ok (.aload_n 0, 1) := by decide +kernel
theorem dX0_init_24 : decode cX0_init 24 = .ok (.iconst 5, 1) := by decide +kernel
theorem dX0_init_25 : decode cX0_init 25 = .ok (.newarray .int, 2) := by decide +kernel
theorem dX0_init_27 : decode cX0_init 27 = .ok (.putfield 22, 3) := by decide +kernel
theorem dX0_init_30 : decode cX0_init 30 = .ok (.aload_n 0, 1) := by decide +kernel
theorem dX0_init_31 : decode cX0_init 31 = .ok (.iconst 5, 1) := by decide +kernel
theorem dX0_init_32 : decode cX0_init 32 = .ok (.newarray .int, 2) := by decide +kernel
theorem dX0_init_34 : decode cX0_init 34 = .ok (.putfield 25, 3) := by decide +kernel
theorem dX0_init_37 : decode cX0_init 37 = .ok (.aload_n 0, 1) := by decide +kernel
theorem dX0_init_38 : decode cX0_init 38 = .ok (.bipush 16, 2) := by decide +kernel
theorem dX0_init_40 : decode cX0_init 40 = .ok (.newarray .int, 2) := by decide +kernel
theorem dX0_init_42 : decode cX0_init 42 = .ok (.putfield 28, 3) := by decide +kernel
theorem dX0_init_45 : decode cX0_init 45 = .ok (.aload_n 0, 1) := by decide +kernel
theorem dX0_init_46 : decode cX0_init 46 = .ok (.bipush 16, 2) := by decide +kernel
theorem dX0_init_48 : decode cX0_init 48 = .ok (.newarray .int, 2) := by decide +kernel
theorem dX0_init_50 : decode cX0_init 50 = .ok (.putfield 31, 3) := by decide +kernel
theorem dX0_init_53 : decode cX0_init 53 = .ok (.return_, 1) := by decide +kernel
set_option maxRecDepth 20000 in
theorem ggX0_look_X1_places : GoodIn wsX0_look wsX1_places := goodIn_r _ [7, 8, 9, 19, 20, 21, 22, 23, 24] (by decide +kernel) (by decide +kernel)
set_option maxRecDepth 20000 in
theorem gX0_look_X1_places : GoodIn wsX0_look (wsV RX0 34 RX1 yX1_places wsX1_places) := goodIn_app (goodIn_of _ (by decide +kernel)) ggX0_look_X1_places
set_option maxRecDepth 20000 in
theorem ggX0_look_X7_isMark : GoodIn wsX0_look wsX7_isMark := goodIn_r _ [12] (by decide +kernel) (by decide +kernel)
set_option maxRecDepth 20000 in
theorem gX0_look_X7_isMark_n38 : GoodIn wsX0_look (wsX7_isMark) := ggX0_look_X7_isMark
theorem dX0_look_0 : decode cX0_look 0 = .ok (.iconst 0, 1) := by decide +kernel
theorem dX0_look_1 : decode cX0_look 1 = .ok (.istore_n 2, 1) := by decide +kernel
theorem dX0_look_2 : decode cX0_look 2 = .ok (.iload_n 2, 1) := by decide +kernel
theorem dX0_look_3 : decode cX0_look 3 = .ok (.bipush 6, 2) := by decide +kernel
theorem dX0_look_5 : decode cX0_look 5 = .ok (.if_icmp .ge 16, 3) := by decide +kernel
theorem dX0_look_8 : decode cX0_look 8 = .ok (.aload_n 0, 1) := by decide +kernel
theorem dX0_look_9 : decode cX0_look 9 = .ok (.getfield 18, 3) := by decide +kernel
theorem dX0_look_12 : decode cX0_look 12 = .ok (.iload_n 2, 1) := by decide +kernel
theorem dX0_look_13 : decode cX0_look 13 = .ok (.iconst 0, 1) := by decide +kernel
theorem dX0_look_14 : decode cX0_look 14 = .ok (.iastore, 1) := by decide +kernel
theorem dX0_look_15 : decode cX0_look 15 = .ok (.iinc 2 1, 3) := by decide +kernel
theorem dX0_look_18 : decode cX0_look 18 = .ok (.goto (-16), 3) := by decide +kernel
theorem dX0_look_21 : decode cX0_look 21 = .ok (.iconst 0, 1) := by decide +kernel
theorem dX0_look_22 : decode cX0_look 22 = .ok (.istore_n 2, 1) := by decide +kernel
theorem dX0_look_23 : decode cX0_look 23 = .ok (.iload_n 2, 1) := by decide +kernel
theorem dX0_look_24 : decode cX0_look 24 = .ok (.aload_n 0, 1) := by decide +kernel
theorem dX0_look_25 : decode cX0_look 25 = .ok (.getfield 12, 3) := by decide +kernel
theorem dX0_look_28 : decode cX0_look 28 = .ok (.invokevirtual 34, 3) := by decide +kernel
theorem dX0_look_31 : decode cX0_look 31 = .ok (.if_icmp .ge 38, 3) := by decide +kernel
theorem dX0_look_34 : decode cX0_look 34 = .ok (.iload_n 2, 1) := by decide +kernel
theorem dX0_look_35 : decode cX0_look 35 = .ok (.aload_n 1, 1) := by decide +kernel
theorem dX0_look_36 : decode cX0_look 36 = .ok (.arraylength, 1) := by decide +kernel
theorem dX0_look_37 : decode cX0_look 37 = .ok (.if_icmp .ge 32, 3) := by decide +kernel
theorem dX0_look_40 : decode cX0_look 40 = .ok (.aload_n 1, 1) := by decide +kernel
theorem dX0_look_41 : decode cX0_look 41 = .ok (.iload_n 2, 1) := by decide +kernel
theorem dX0_look_42 : decode cX0_look 42 = .ok (.iaload, 1) := by decide +kernel
theorem dX0_look_43 : decode cX0_look 43 = .ok (.invokestatic 38, 3) := by decide +kernel
theorem dX0_look_46 : decode cX0_look 46 = .ok (.ifCond .eq 17, 3) := by decide +kernel
theorem dX0_look_49 : decode cX0_look 49 = .ok (.aload_n 0, 1) := by decide +kernel
theorem dX0_look_50 : decode cX0_look 50 = .ok (.getfield 18, 3) := by decide +kernel
theorem dX0_look_53 : decode cX0_look 53 = .ok (.aload_n 1, 1) := by decide +kernel
theorem dX0_look_54 : decode cX0_look 54 = .ok (.iload_n 2, 1) := by decide +kernel
theorem dX0_look_55 : decode cX0_look 55 = .ok (.iaload, 1) := by decide +kernel
theorem dX0_look_56 : decode cX0_look 56 = .ok (.dup2, 1) := by decide +kernel
theorem dX0_look_57 : decode cX0_look 57 = .ok (.iaload, 1) := by decide +kernel
theorem dX0_look_58 : decode cX0_look 58 = .ok (.iconst 1, 1) := by decide +kernel
theorem dX0_look_59 : decode cX0_look 59 = .ok (.iload_n 2, 1) := by decide +kernel
theorem dX0_look_60 : decode cX0_look 60 = .ok (.ishl, 1) := by decide +kernel
theorem dX0_look_61 : decode cX0_look 61 = .ok (.ior, 1) := by decide +kernel
theorem dX0_look_62 : decode cX0_look 62 = .ok (.iastore, 1) := by decide +kernel
theorem dX0_look_63 : decode cX0_look 63 = .ok (.iinc 2 1, 3) := by decide +kernel
theorem dX0_look_66 : decode cX0_look 66 = .ok (.goto (-43), 3) := by decide +kernel
theorem dX0_look_69 : decode cX0_look 69 = .ok (.return_, 1) := by decide +kernel
set_option maxRecDepth 20000 in
theorem ggX0_placesOf_X7_isMark : GoodIn wsX0_placesOf wsX7_isMark := goodIn_r _ [4] (by decide +kernel) (by decide +kernel)
set_option maxRecDepth 20000 in
theorem gX0_placesOf_X7_isMark_n38 : GoodIn wsX0_placesOf (wsX7_isMark) := ggX0_placesOf_X7_isMark
theorem dX0_placesOf_0 : decode cX0_placesOf 0 = .ok (.iload_n 1, 1) := by decide +kernel
theorem dX0_placesOf_1 : decode cX0_placesOf 1 = .ok (.invokestatic 38, 3) := by decide +kernel
theorem dX0_placesOf_4 : decode cX0_placesOf 4 = .ok (.ifCond .eq 12, 3) := by decide +kernel
theorem dX0_placesOf_7 : decode cX0_placesOf 7 = .ok (.aload_n 0, 1) := by decide +kernel
theorem dX0_placesOf_8 : decode cX0_placesOf 8 = .ok (.getfield 18, 3) := by decide +kernel
theorem dX0_placesOf_11 : decode cX0_placesOf 11 = .ok (.iload_n 1, 1) := by decide +kernel
theorem dX0_placesOf_12 : decode cX0_placesOf 12 = .ok (.iaload, 1) := by decide +kernel
theorem dX0_placesOf_13 : decode cX0_placesOf 13 = .ok (.goto 4, 3) := by decide +kernel
theorem dX0_placesOf_16 : decode cX0_placesOf 16 = .ok (.iconst 0, 1) := by decide +kernel
theorem dX0_placesOf_17 : decode cX0_placesOf 17 = .ok (.ireturn, 1) := by decide +kernel
set_option maxRecDepth 20000 in
theorem ggX0_endsOf_X0_goFrom : GoodIn wsX0_endsOf wsX0_goFrom := goodIn_r _ [7, 8, 1, 9, 10, 11, 12, 13, 14, 15, 16, 17, 18, 19, 20, 21, 22, 23, 24, 25, 26, 27, 28, 29, 30, 31, 6, 32, 33, 34, 35, 36, 37, 38, 39, 40, 41, 42, 43, 44, 45, 46, 47, 48, 49, 50, 51, 52, 53, 54, 55, 56, 57, 58, 59, 60, 61, 62, 63, 64, 65, 66, 67, 68, 69, 70, 71, 72, 73, 74, 75, 76, 83, 84, 85, 86, 87, 77, 78, 79, 80, 81, 82] (by decide +kernel) (by decide +kernel)
set_option maxRecDepth 20000 in
theorem gX0_endsOf_X0_goFrom : GoodIn wsX0_endsOf (wsV RX0 46 RX0 yX0_goFrom wsX0_goFrom) := goodIn_app (goodIn_of _ (by decide +kernel)) ggX0_endsOf_X0_goFrom
theorem dX0_endsOf_0 : decode cX0_endsOf 0 = .ok (.aload_n 0, 1) := by decide +kernel
theorem dX0_endsOf_1 : decode cX0_endsOf 1 = .ok (.aload_n 1, 1) := by decide +kernel
theorem dX0_endsOf_2 : decode cX0_endsOf 2 = .ok (.iload_n 2, 1) := by decide +kernel
theorem dX0_endsOf_3 : decode cX0_endsOf 3 = .ok (.aload_n 0, 1) := by decide +kernel
theorem dX0_endsOf_4 : decode cX0_endsOf 4 = .ok (.getfield 12, 3) := by decide +kernel
theorem dX0_endsOf_7 : decode cX0_endsOf 7 = .ok (.getfield 42, 3) := by decide +kernel
theorem dX0_endsOf_10 : decode cX0_endsOf 10 = .ok (.invokevirtual 46, 3) := by decide +kernel
theorem dX0_endsOf_13 : decode cX0_endsOf 13 = .ok (.ireturn, 1) := by decide +kernel
set_option maxRecDepth 20000 in
theorem ggX0_liars_X0_goFrom : GoodIn wsX0_liars wsX0_goFrom := goodIn_r _ [8, 9, 2, 10, 11, 12, 13, 14, 15, 16, 17, 18, 19, 20, 21, 22, 23, 24, 25, 26, 27, 28, 29, 30, 31, 32, 7, 33, 34, 35, 36, 37, 38, 39, 40, 41, 42, 43, 44, 45, 46, 47, 48, 49, 50, 51, 52, 53, 54, 55, 56, 57, 58, 59, 60, 61, 62, 63, 64, 65, 66, 67, 68, 69, 70, 71, 77, 78, 79, 80, 81, 82, 72, 73, 74, 75, 76, 83, 84, 85, 86, 87, 88] (by decide +kernel) (by decide +kernel)
set_option maxRecDepth 20000 in
theorem gX0_liars_X0_goFrom : GoodIn wsX0_liars (wsV RX0 46 RX0 yX0_goFrom wsX0_goFrom) := goodIn_app (goodIn_of _ (by decide +kernel)) ggX0_liars_X0_goFrom
theorem dX0_liars_0 : decode cX0_liars 0 = .ok (.iconst 0, 1) := by decide +kernel
theorem dX0_liars_1 : decode cX0_liars 1 = .ok (.istore_n 2, 1) := by decide +kernel
theorem dX0_liars_2 : decode cX0_liars 2 = .ok (.iconst 0, 1) := by decide +kernel
theorem dX0_liars_3 : decode cX0_liars 3 = .ok (.istore_n 3, 1) := by decide +kernel
theorem dX0_liars_4 : decode cX0_liars 4 = .ok (.iload_n 3, 1) := by decide +kernel
theorem dX0_liars_5 : decode cX0_liars 5 = .ok (.aload_n 1, 1) := by decide +kernel
theorem dX0_liars_6 : decode cX0_liars 6 = .ok (.getfield 50, 3) := by decide +kernel
theorem dX0_liars_9 : decode cX0_liars 9 = .ok (.if_icmp .ge 31, 3) := by decide +kernel
theorem dX0_liars_12 : decode cX0_liars 12 = .ok (.aload_n 0, 1) := by decide +kernel
theorem dX0_liars_13 : decode cX0_liars 13 = .ok (.aload_n 1, 1) := by decide +kernel
theorem dX0_liars_14 : decode cX0_liars 14 = .ok (.iload_n 3, 1) := by decide +kernel
theorem dX0_liars_15 : decode cX0_liars 15 = .ok (.aload_n 0, 1) := by decide +kernel
theorem dX0_liars_16 : decode cX0_liars 16 = .ok (.getfield 12, 3) := by decide +kernel
theorem dX0_liars_19 : decode cX0_liars 19 = .ok (.getfield 42, 3) := by decide +kernel
theorem dX0_liars_22 : decode cX0_liars 22 = .ok (.invokevirtual 46, 3) := by decide +kernel
theorem dX0_liars_25 : decode cX0_liars 25 = .ok (.ifCond .ne 9, 3) := by decide +kernel
theorem dX0_liars_28 : decode cX0_liars 28 = .ok (.iload_n 2, 1) := by decide +kernel
theorem dX0_liars_29 : decode cX0_liars 29 = .ok (.iconst 1, 1) := by decide +kernel
theorem dX0_liars_30 : decode cX0_liars 30 = .ok (.iload_n 3, 1) := by decide +kernel
theorem dX0_liars_31 : decode cX0_liars 31 = .ok (.ishl, 1) := by decide +kernel
theorem dX0_liars_32 : decode cX0_liars 32 = .ok (.ior, 1) := by decide +kernel
theorem dX0_liars_33 : decode cX0_liars 33 = .ok (.istore_n 2, 1) := by decide +kernel
theorem dX0_liars_34 : decode cX0_liars 34 = .ok (.iinc 3 1, 3) := by decide +kernel
theorem dX0_liars_37 : decode cX0_liars 37 = .ok (.goto (-33), 3) := by decide +kernel
theorem dX0_liars_40 : decode cX0_liars 40 = .ok (.iload_n 2, 1) := by decide +kernel
theorem dX0_liars_41 : decode cX0_liars 41 = .ok (.ireturn, 1) := by decide +kernel
set_option maxRecDepth 20000 in
theorem ggX0_comesBack_X1_places : GoodIn wsX0_comesBack wsX1_places := goodIn_r _ [6, 7, 8, 81, 82, 83, 84, 85, 86] (by decide +kernel) (by decide +kernel)
set_option maxRecDepth 20000 in
theorem gX0_comesBack_X1_places : GoodIn wsX0_comesBack (wsV RX0 34 RX1 yX1_places wsX1_places) := goodIn_app (goodIn_of _ (by decide +kernel)) ggX0_comesBack_X1_places
set_option maxRecDepth 20000 in
theorem ggX0_comesBack_X0_goFrom : GoodIn wsX0_comesBack wsX0_goFrom := goodIn_r _ [13, 14, 1, 15, 16, 17, 18, 19, 20, 21, 22, 23, 24, 25, 26, 27, 28, 29, 30, 31, 32, 33, 34, 35, 36, 37, 12, 38, 39, 40, 41, 42, 43, 44, 45, 46, 47, 5, 48, 49, 50, 51, 52, 53, 54, 55, 56, 8, 57, 58, 59, 60, 61, 62, 63, 64, 65, 66, 67, 68, 69, 70, 71, 72, 73, 74, 75, 76, 77, 78, 79, 80, 87, 88, 89, 90, 91, 81, 82, 83, 84, 85, 86] (by decide +kernel) (by decide +kernel)
set_option maxRecDepth 20000 in
theorem gX0_comesBack_X0_goFrom : GoodIn wsX0_comesBack (wsV RX0 46 RX0 yX0_goFrom wsX0_goFrom) := goodIn_app (goodIn_of _ (by decide +kernel)) ggX0_comesBack_X0_goFrom
theorem dX0_comesBack_0 : decode cX0_comesBack 0 = .ok (.iconst 0, 1) := by decide +kernel
theorem dX0_comesBack_1 : decode cX0_comesBack 1 = .ok (.istore_n 3, 1) := by decide +kernel
theorem dX0_comesBack_2 : decode cX0_comesBack 2 = .ok (.iload_n 3, 1) := by decide +kernel
theorem dX0_comesBack_3 : decode cX0_comesBack 3 = .ok (.aload_n 0, 1) := by decide +kernel
theorem dX0_comesBack_4 : decode cX0_comesBack 4 = .ok (.getfield 12, 3) := by decide +kernel
theorem dX0_comesBack_7 : decode cX0_comesBack 7 = .ok (.invokevirtual 34, 3) := by decide +kernel
theorem dX0_comesBack_10 : decode cX0_comesBack 10 = .ok (.if_icmp .ge 28, 3) := by decide +kernel
theorem dX0_comesBack_13 : decode cX0_comesBack 13 = .ok (.aload_n 0, 1) := by decide +kernel
theorem dX0_comesBack_14 : decode cX0_comesBack 14 = .ok (.aload_n 1, 1) := by decide +kernel
theorem dX0_comesBack_15 : decode cX0_comesBack 15 = .ok (.iload_n 2, 1) := by decide +kernel
theorem dX0_comesBack_16 : decode cX0_comesBack 16 = .ok (.iconst 1, 1) := by decide +kernel
theorem dX0_comesBack_17 : decode cX0_comesBack 17 = .ok (.iload_n 3, 1) := by decide +kernel
theorem dX0_comesBack_18 : decode cX0_comesBack 18 = .ok (.ishl, 1) := by decide +kernel
theorem dX0_comesBack_19 : decode cX0_comesBack 19 = .ok (.invokevirtual 46, 3) := by decide +kernel
theorem dX0_comesBack_22 : decode cX0_comesBack 22 = .ok (.iload_n 3, 1) := by decide +kernel
theorem dX0_comesBack_23 : decode cX0_comesBack 23 = .ok (.ishr, 1) := by decide +kernel
theorem dX0_comesBack_24 : decode cX0_comesBack 24 = .ok (.iconst 1, 1) := by decide +kernel
theorem dX0_comesBack_25 : decode cX0_comesBack 25 = .ok (.iand, 1) := by decide +kernel
theorem dX0_comesBack_26 : decode cX0_comesBack 26 = .ok (.iconst 1, 1) := by decide +kernel
theorem dX0_comesBack_27 : decode cX0_comesBack 27 = .ok (.if_icmp .ne 5, 3) := by decide +kernel
theorem dX0_comesBack_30 : decode cX0_comesBack 30 = .ok (.iconst 1, 1) := by decide +kernel
theorem dX0_comesBack_31 : decode cX0_comesBack 31 = .ok (.ireturn, 1) := by decide +kernel
theorem dX0_comesBack_32 : decode cX0_comesBack 32 = .ok (.iinc 3 1, 3) := by decide +kernel
theorem dX0_comesBack_35 : decode cX0_comesBack 35 = .ok (.goto (-33), 3) := by decide +kernel
theorem dX0_comesBack_38 : decode cX0_comesBack 38 = .ok (.iconst 0, 1) := by decide +kernel
theorem dX0_comesBack_39 : decode cX0_comesBack 39 = .ok (.ireturn, 1) := by decide +kernel
set_option maxRecDepth 20000 in
theorem ggX0_passed_X0_goFrom : GoodIn wsX0_passed wsX0_goFrom := goodIn_r _ [10, 4, 2, 11, 12, 13, 14, 15, 16, 17, 18, 19, 20, 21, 22, 23, 24, 25, 26, 27, 28, 29, 30, 31, 32, 33, 9, 34, 35, 36, 37, 38, 39, 40, 41, 42, 43, 44, 45, 46, 47, 48, 49, 50, 51, 52, 53, 54, 55, 56, 57, 58, 59, 60, 61, 62, 63, 64, 65, 66, 67, 68, 69, 70, 71, 72, 86, 87, 88, 89, 90, 91, 81, 82, 83, 84, 85, 92, 93, 94, 95, 96, 97] (by decide +kernel) (by decide +kernel)
set_option maxRecDepth 20000 in
theorem gX0_passed_X0_goFrom : GoodIn wsX0_passed (wsV RX0 46 RX0 yX0_goFrom wsX0_goFrom) := goodIn_app (goodIn_of _ (by decide +kernel)) ggX0_passed_X0_goFrom
set_option maxRecDepth 20000 in
theorem ggX0_passed_X0_goBack : GoodIn wsX0_passed wsX0_goBack := goodIn_r _ [76, 77, 78, 79, 80, 2, 3, 5, 39, 22, 23, 14, 24, 25, 40, 17, 18, 19, 20, 41, 42, 43, 44, 45, 46, 47, 48, 49, 50, 51, 52, 53, 54, 55, 56, 57, 58, 59, 60, 61, 62, 63, 64, 65, 66, 67, 68, 69, 70, 71, 72, 11, 12, 13, 15, 16, 21, 26, 27, 28, 29, 30, 31, 32, 33, 9, 34, 35, 36, 37, 38, 86, 87, 88, 89, 90, 91, 92, 93, 94, 95, 96, 97, 81, 82, 83, 84, 85] (by decide +kernel) (by decide +kernel)
set_option maxRecDepth 20000 in
theorem gX0_passed_X0_goBack : GoodIn wsX0_passed (wsV RX0 55 RX0 yX0_goBack wsX0_goBack) := goodIn_app (goodIn_of _ (by decide +kernel)) ggX0_passed_X0_goBack
set_option maxRecDepth 20000 in
theorem ggX0_passed_X5_sizeOf : GoodIn wsX0_passed wsX5_sizeOf := goodIn_r _ [24, 25, 81, 82, 83, 84, 85] (by decide +kernel) (by decide +kernel)
set_option maxRecDepth 20000 in
theorem gX0_passed_X5_sizeOf : GoodIn wsX0_passed (wsV RX0 59 RX5 yX5_sizeOf wsX5_sizeOf) := goodIn_app (goodIn_of _ (by decide +kernel)) ggX0_passed_X5_sizeOf
theorem dX0_passed_0 : decode cX0_passed 0 = .ok (.iconst 0, 1) := by decide +kernel
theorem dX0_passed_1 : decode cX0_passed 1 = .ok (.istore_n 2, 1) := by decide +kernel
theorem dX0_passed_2 : decode cX0_passed 2 = .ok (.iconst 0, 1) := by decide +kernel
theorem dX0_passed_3 : decode cX0_passed 3 = .ok (.istore_n 3, 1) := by decide +kernel
theorem dX0_passed_4 : decode cX0_passed 4 = .ok (.iload_n 3, 1) := by decide +kernel
theorem dX0_passed_5 : decode cX0_passed 5 = .ok (.aload_n 1, 1) := by decide +kernel
theorem dX0_passed_6 : decode cX0_passed 6 = .ok (.getfield 50, 3) := by decide +kernel
theorem dX0_passed_9 : decode cX0_passed 9 = .ok (.if_icmp .ge 72, 3) := by decide +kernel
theorem dX0_passed_12 : decode cX0_passed 12 = .ok (.aload_n 0, 1) := by decide +kernel
theorem dX0_passed_13 : decode cX0_passed 13 = .ok (.aload_n 1, 1) := by decide +kernel
theorem dX0_passed_14 : decode cX0_passed 14 = .ok (.iload_n 3, 1) := by decide +kernel
theorem dX0_passed_15 : decode cX0_passed 15 = .ok (.aload_n 0, 1) := by decide +kernel
theorem dX0_passed_16 : decode cX0_passed 16 = .ok (.getfield 12, 3) := by decide +kernel
theorem dX0_passed_19 : decode cX0_passed 19 = .ok (.getfield 42, 3) := by decide +kernel
theorem dX0_passed_22 : decode cX0_passed 22 = .ok (.invokevirtual 46, 3) := by decide +kernel
theorem dX0_passed_25 : decode cX0_passed 25 = .ok (.pop, 1) := by decide +kernel
theorem dX0_passed_26 : decode cX0_passed 26 = .ok (.aload_n 0, 1) := by decide +kernel
theorem dX0_passed_27 : decode cX0_passed 27 = .ok (.aload_n 1, 1) := by decide +kernel
theorem dX0_passed_28 : decode cX0_passed 28 = .ok (.iload_n 3, 1) := by decide +kernel
theorem dX0_passed_29 : decode cX0_passed 29 = .ok (.invokevirtual 55, 3) := by decide +kernel
theorem dX0_passed_32 : decode cX0_passed 32 = .ok (.iconst 0, 1) := by decide +kernel
theorem dX0_passed_33 : decode cX0_passed 33 = .ok (.istore 4, 2) := by decide +kernel
theorem dX0_passed_35 : decode cX0_passed 35 = .ok (.iload 4, 2) := by decide +kernel
theorem dX0_passed_37 : decode cX0_passed 37 = .ok (.aload_n 1, 1) := by decide +kernel
theorem dX0_passed_38 : decode cX0_passed 38 = .ok (.iload_n 3, 1) := by decide +kernel
theorem dX0_passed_39 : decode cX0_passed 39 = .ok (.invokevirtual 59, 3) := by decide +kernel
theorem dX0_passed_42 : decode cX0_passed 42 = .ok (.if_icmp .ge 33, 3) := by decide +kernel
theorem dX0_passed_45 : decode cX0_passed 45 = .ok (.iload 4, 2) := by decide +kernel
theorem dX0_passed_47 : decode cX0_passed 47 = .ok (.iconst 5, 1) := by decide +kernel
theorem dX0_passed_48 : decode cX0_passed 48 = .ok (.if_icmp .ge 27, 3) := by decide +kernel
theorem dX0_passed_51 : decode cX0_passed 51 = .ok (.iload_n 2, 1) := by decide +kernel
theorem dX0_passed_52 : decode cX0_passed 52 = .ok (.aload_n 0, 1) := by decide +kernel
theorem dX0_passed_53 : decode cX0_passed 53 = .ok (.getfield 22, 3) := by decide +kernel
theorem dX0_passed_56 : decode cX0_passed 56 = .ok (.iload 4, 2) := by decide +kernel
theorem dX0_passed_58 : decode cX0_passed 58 = .ok (.iaload, 1) := by decide +kernel
theorem dX0_passed_59 : decode cX0_passed 59 = .ok (.aload_n 0, 1) := by decide +kernel
theorem dX0_passed_60 : decode cX0_passed 60 = .ok (.getfield 25, 3) := by decide +kernel
theorem dX0_passed_63 : decode cX0_passed 63 = .ok (.iload 4, 2) := by decide +kernel
theorem dX0_passed_65 : decode cX0_passed 65 = .ok (.iaload, 1) := by decide +kernel
theorem dX0_passed_66 : decode cX0_passed 66 = .ok (.iand, 1) := by decide +kernel
theorem dX0_passed_67 : decode cX0_passed 67 = .ok (.ior, 1) := by decide +kernel
theorem dX0_passed_68 : decode cX0_passed 68 = .ok (.istore_n 2, 1) := by decide +kernel
theorem dX0_passed_69 : decode cX0_passed 69 = .ok (.iinc 4 1, 3) := by decide +kernel
theorem dX0_passed_72 : decode cX0_passed 72 = .ok (.goto (-37), 3) := by decide +kernel
theorem dX0_passed_75 : decode cX0_passed 75 = .ok (.iinc 3 1, 3) := by decide +kernel
theorem dX0_passed_78 : decode cX0_passed 78 = .ok (.goto (-74), 3) := by decide +kernel
theorem dX0_passed_81 : decode cX0_passed 81 = .ok (.iload_n 2, 1) := by decide +kernel
theorem dX0_passed_82 : decode cX0_passed 82 = .ok (.ireturn, 1) := by decide +kernel
set_option maxRecDepth 20000 in
theorem ggX0_onFirstRow_X0_goBack : GoodIn wsX0_onFirstRow wsX0_goBack := goodIn_r _ [7, 8, 9, 10, 11, 2, 12, 1, 13, 14, 15, 16, 17, 18, 19, 20, 21, 22, 23, 24, 25, 26, 27, 28, 29, 30, 31, 32, 33, 34, 35, 36, 37, 38, 39, 40, 41, 42, 43, 44, 45, 46, 47, 48, 49, 50, 51, 52, 53, 54, 55, 56, 57, 58, 59, 60, 61, 62, 63, 64, 65, 66, 67, 68, 69, 6, 70, 71, 72, 73, 74, 78, 79, 80, 81, 82, 83, 84, 85, 86, 87, 88, 89, 90, 91, 92, 93, 94] (by decide +kernel) (by decide +kernel)
set_option maxRecDepth 20000 in
theorem gX0_onFirstRow_X0_goBack : GoodIn wsX0_onFirstRow (wsV RX0 55 RX0 yX0_goBack wsX0_goBack) := goodIn_app (goodIn_of _ (by decide +kernel)) ggX0_onFirstRow_X0_goBack
set_option maxRecDepth 20000 in
theorem ggX0_onFirstRow_X0_lowest : GoodIn wsX0_onFirstRow wsX0_lowest := goodIn_r _ [77] (by decide +kernel) (by decide +kernel)
set_option maxRecDepth 20000 in
theorem gX0_onFirstRow_X0_lowest : GoodIn wsX0_onFirstRow (va_wsS RX0 63 yX0_lowest wsX0_lowest) := goodIn_app (goodIn_of _ (by decide +kernel)) ggX0_onFirstRow_X0_lowest
set_option maxRecDepth 20000 in
theorem ggX0_onFirstRow_X5_kindOf : GoodIn wsX0_onFirstRow wsX5_kindOf := goodIn_r _ [22, 23, 90, 91, 92, 93, 94] (by decide +kernel) (by decide +kernel)
set_option maxRecDepth 20000 in
theorem gX0_onFirstRow_X5_kindOf : GoodIn wsX0_onFirstRow (wsV RX0 66 RX5 yX5_kindOf wsX5_kindOf) := goodIn_app (goodIn_of _ (by decide +kernel)) ggX0_onFirstRow_X5_kindOf
set_option maxRecDepth 20000 in
theorem ggX0_onFirstRow_X1_reach : GoodIn wsX0_onFirstRow wsX1_reach := goodIn_r _ [28, 29, 30, 31, 27, 32, 33, 34, 35, 36, 37, 38, 39, 40, 41, 42, 43, 44, 45, 46, 47, 48, 49, 50, 51, 52, 53, 54, 55, 84, 85, 86, 87, 88, 89] (by decide +kernel) (by decide +kernel)
set_option maxRecDepth 20000 in
theorem gX0_onFirstRow_X1_reach : GoodIn wsX0_onFirstRow (wsV RX0 69 RX1 yX1_reach wsX1_reach) := goodIn_app (goodIn_of _ (by decide +kernel)) ggX0_onFirstRow_X1_reach
theorem dX0_onFirstRow_0 : decode cX0_onFirstRow 0 = .ok (.aload_n 0, 1) := by decide +kernel
theorem dX0_onFirstRow_1 : decode cX0_onFirstRow 1 = .ok (.aload_n 1, 1) := by decide +kernel
theorem dX0_onFirstRow_2 : decode cX0_onFirstRow 2 = .ok (.iload_n 2, 1) := by decide +kernel
theorem dX0_onFirstRow_3 : decode cX0_onFirstRow 3 = .ok (.invokevirtual 55, 3) := by decide +kernel
theorem dX0_onFirstRow_6 : decode cX0_onFirstRow 6 = .ok (.aload_n 0, 1) := by decide +kernel
theorem dX0_onFirstRow_7 : decode cX0_onFirstRow 7 = .ok (.getfield 25, 3) := by decide +kernel
theorem dX0_onFirstRow_10 : decode cX0_onFirstRow 10 = .ok (.iconst 0, 1) := by decide +kernel
theorem dX0_onFirstRow_11 : decode cX0_onFirstRow 11 = .ok (.iaload, 1) := by decide +kernel
theorem dX0_onFirstRow_12 : decode cX0_onFirstRow 12 = .ok (.invokestatic 63, 3) := by decide +kernel
theorem dX0_onFirstRow_15 : decode cX0_onFirstRow 15 = .ok (.istore 4, 2) := by decide +kernel
theorem dX0_onFirstRow_17 : decode cX0_onFirstRow 17 = .ok (.iconst 1, 1) := by decide +kernel
theorem dX0_onFirstRow_18 : decode cX0_onFirstRow 18 = .ok (.istore 5, 2) := by decide +kernel
theorem dX0_onFirstRow_20 : decode cX0_onFirstRow 20 = .ok (.iload 5, 2) := by decide +kernel
theorem dX0_onFirstRow_22 : decode cX0_onFirstRow 22 = .ok (.iload_n 3, 1) := by decide +kernel
theorem dX0_onFirstRow_23 : decode cX0_onFirstRow 23 = .ok (.if_icmp .gt 51, 3) := by decide +kernel
theorem dX0_onFirstRow_26 : decode cX0_onFirstRow 26 = .ok (.iload 5, 2) := by decide +kernel
theorem dX0_onFirstRow_28 : decode cX0_onFirstRow 28 = .ok (.iconst 5, 1) := by decide +kernel
theorem dX0_onFirstRow_29 : decode cX0_onFirstRow 29 = .ok (.if_icmp .ge 45, 3) := by decide +kernel
theorem dX0_onFirstRow_32 : decode cX0_onFirstRow 32 = .ok (.iload 4, 2) := by decide +kernel
theorem dX0_onFirstRow_34 : decode cX0_onFirstRow 34 = .ok (.bipush (-4), 2) := by decide +kernel
theorem dX0_onFirstRow_36 : decode cX0_onFirstRow 36 = .ok (.if_icmp .eq 38, 3) := by decide +kernel
theorem dX0_onFirstRow_39 : decode cX0_onFirstRow 39 = .ok (.aload_n 0, 1) := by decide +kernel
theorem dX0_onFirstRow_40 : decode cX0_onFirstRow 40 = .ok (.getfield 12, 3) := by decide +kernel
theorem dX0_onFirstRow_43 : decode cX0_onFirstRow 43 = .ok (.aload_n 1, 1) := by decide +kernel
theorem dX0_onFirstRow_44 : decode cX0_onFirstRow 44 = .ok (.iload_n 2, 1) := by decide +kernel
theorem dX0_onFirstRow_45 : decode cX0_onFirstRow 45 = .ok (.invokevirtual 66, 3) := by decide +kernel
theorem dX0_onFirstRow_48 : decode cX0_onFirstRow 48 = .ok (.iconst 1, 1) := by decide +kernel
theorem dX0_onFirstRow_49 : decode cX0_onFirstRow 49 = .ok (.iload 4, 2) := by decide +kernel
theorem dX0_onFirstRow_51 : decode cX0_onFirstRow 51 = .ok (.ishl, 1) := by decide +kernel
theorem dX0_onFirstRow_52 : decode cX0_onFirstRow 52 = .ok (.invokevirtual 69, 3) := by decide +kernel
theorem dX0_onFirstRow_55 : decode cX0_onFirstRow 55 = .ok (.aload_n 0, 1) := by decide +kernel
theorem dX0_onFirstRow_56 : decode cX0_onFirstRow 56 = .ok (.getfield 25, 3) := by decide +kernel
theorem dX0_onFirstRow_59 : decode cX0_onFirstRow 59 = .ok (.iload 5, 2) := by decide +kernel
theorem dX0_onFirstRow_61 : decode cX0_onFirstRow 61 = .ok (.iaload, 1) := by decide +kernel
theorem dX0_onFirstRow_62 : decode cX0_onFirstRow 62 = .ok (.iand, 1) := by decide +kernel
theorem dX0_onFirstRow_63 : decode cX0_onFirstRow 63 = .ok (.invokestatic 63, 3) := by decide +kernel
theorem dX0_onFirstRow_66 : decode cX0_onFirstRow 66 = .ok (.istore 4, 2) := by decide +kernel
theorem dX0_onFirstRow_68 : decode cX0_onFirstRow 68 = .ok (.iinc 5 1, 3) := by decide +kernel
theorem dX0_onFirstRow_71 : decode cX0_onFirstRow 71 = .ok (.goto (-51), 3) := by decide +kernel
theorem dX0_onFirstRow_74 : decode cX0_onFirstRow 74 = .ok (.iload 4, 2) := by decide +kernel
theorem dX0_onFirstRow_76 : decode cX0_onFirstRow 76 = .ok (.ireturn, 1) := by decide +kernel
set_option maxRecDepth 20000 in
theorem ggX0_rowsOf_X5_kindOf : GoodIn wsX0_rowsOf wsX5_kindOf := goodIn_r _ [6, 7, 81, 82, 83, 84, 85] (by decide +kernel) (by decide +kernel)
set_option maxRecDepth 20000 in
theorem gX0_rowsOf_X5_kindOf : GoodIn wsX0_rowsOf (wsV RX0 66 RX5 yX5_kindOf wsX5_kindOf) := goodIn_app (goodIn_of _ (by decide +kernel)) ggX0_rowsOf_X5_kindOf
set_option maxRecDepth 20000 in
theorem ggX0_rowsOf_X5_rowMark : GoodIn wsX0_rowsOf wsX5_rowMark := goodIn_r _ [11, 12, 3, 4, 5, 6, 7, 13, 14, 15, 16, 17, 18, 19, 20, 21, 22, 81, 82, 83, 84, 85] (by decide +kernel) (by decide +kernel)
set_option maxRecDepth 20000 in
theorem gX0_rowsOf_X5_rowMark : GoodIn wsX0_rowsOf (wsV RX0 73 RX5 yX5_rowMark wsX5_rowMark) := goodIn_app (goodIn_of _ (by decide +kernel)) ggX0_rowsOf_X5_rowMark
set_option maxRecDepth 20000 in
theorem ggX0_rowsOf_X0_placesOf : GoodIn wsX0_rowsOf wsX0_placesOf := goodIn_r _ [27, 28, 29, 30, 31, 75, 76, 77, 78, 79, 80] (by decide +kernel) (by decide +kernel)
set_option maxRecDepth 20000 in
theorem gX0_rowsOf_X0_placesOf : GoodIn wsX0_rowsOf (wsV RX0 76 RX0 yX0_placesOf wsX0_placesOf) := goodIn_app (goodIn_of _ (by decide +kernel)) ggX0_rowsOf_X0_placesOf
set_option maxRecDepth 20000 in
theorem ggX0_rowsOf_X5_sizeOf : GoodIn wsX0_rowsOf wsX5_sizeOf := goodIn_r _ [16, 17, 81, 82, 83, 84, 85] (by decide +kernel) (by decide +kernel)
set_option maxRecDepth 20000 in
theorem gX0_rowsOf_X5_sizeOf : GoodIn wsX0_rowsOf (wsV RX0 59 RX5 yX5_sizeOf wsX5_sizeOf) := goodIn_app (goodIn_of _ (by decide +kernel)) ggX0_rowsOf_X5_sizeOf
set_option maxRecDepth 20000 in
theorem ggX0_rowsOf_X0_addUp : GoodIn wsX0_rowsOf wsX0_addUp := goodIn_r _ [36, 37, 38, 1, 39, 40, 41, 42, 43, 44, 45, 46, 47, 48, 49, 50, 51, 52, 53, 54, 55, 56, 57, 58, 59, 60, 61, 62, 63, 64, 65, 66, 67, 68, 69, 70, 71, 72, 73, 74, 75, 76, 77, 78, 79, 80, 86, 87, 88, 89, 90, 91] (by decide +kernel) (by decide +kernel)
set_option maxRecDepth 20000 in
theorem gX0_rowsOf_X0_addUp : GoodIn wsX0_rowsOf (wsV RX0 79 RX0 yX0_addUp wsX0_addUp) := goodIn_app (goodIn_of _ (by decide +kernel)) ggX0_rowsOf_X0_addUp
theorem dX0_rowsOf_0 : decode cX0_rowsOf 0 = .ok (.aload_n 1, 1) := by decide +kernel
theorem dX0_rowsOf_1 : decode cX0_rowsOf 1 = .ok (.iload_n 2, 1) := by decide +kernel
theorem dX0_rowsOf_2 : decode cX0_rowsOf 2 = .ok (.invokevirtual 66, 3) := by decide +kernel
theorem dX0_rowsOf_5 : decode cX0_rowsOf 5 = .ok (.istore_n 3, 1) := by decide +kernel
theorem dX0_rowsOf_6 : decode cX0_rowsOf 6 = .ok (.aload_n 0, 1) := by decide +kernel
theorem dX0_rowsOf_7 : decode cX0_rowsOf 7 = .ok (.aload_n 1, 1) := by decide +kernel
theorem dX0_rowsOf_8 : decode cX0_rowsOf 8 = .ok (.iload_n 2, 1) := by decide +kernel
theorem dX0_rowsOf_9 : decode cX0_rowsOf 9 = .ok (.iconst 0, 1) := by decide +kernel
theorem dX0_rowsOf_10 : decode cX0_rowsOf 10 = .ok (.invokevirtual 73, 3) := by decide +kernel
theorem dX0_rowsOf_13 : decode cX0_rowsOf 13 = .ok (.invokevirtual 76, 3) := by decide +kernel
theorem dX0_rowsOf_16 : decode cX0_rowsOf 16 = .ok (.istore 4, 2) := by decide +kernel
theorem dX0_rowsOf_18 : decode cX0_rowsOf 18 = .ok (.iconst 0, 1) := by decide +kernel
theorem dX0_rowsOf_19 : decode cX0_rowsOf 19 = .ok (.istore 5, 2) := by decide +kernel
theorem dX0_rowsOf_21 : decode cX0_rowsOf 21 = .ok (.iload 5, 2) := by decide +kernel
theorem dX0_rowsOf_23 : decode cX0_rowsOf 23 = .ok (.bipush 16, 2) := by decide +kernel
theorem dX0_rowsOf_25 : decode cX0_rowsOf 25 = .ok (.if_icmp .ge 23, 3) := by decide +kernel
theorem dX0_rowsOf_28 : decode cX0_rowsOf 28 = .ok (.aload_n 0, 1) := by decide +kernel
theorem dX0_rowsOf_29 : decode cX0_rowsOf 29 = .ok (.getfield 28, 3) := by decide +kernel
theorem dX0_rowsOf_32 : decode cX0_rowsOf 32 = .ok (.iload 5, 2) := by decide +kernel
theorem dX0_rowsOf_34 : decode cX0_rowsOf 34 = .ok (.iload 4, 2) := by decide +kernel
theorem dX0_rowsOf_36 : decode cX0_rowsOf 36 = .ok (.iload 5, 2) := by decide +kernel
theorem dX0_rowsOf_38 : decode cX0_rowsOf 38 = .ok (.ishr, 1) := by decide +kernel
theorem dX0_rowsOf_39 : decode cX0_rowsOf 39 = .ok (.iconst 1, 1) := by decide +kernel
theorem dX0_rowsOf_40 : decode cX0_rowsOf 40 = .ok (.iand, 1) := by decide +kernel
theorem dX0_rowsOf_41 : decode cX0_rowsOf 41 = .ok (.iastore, 1) := by decide +kernel
theorem dX0_rowsOf_42 : decode cX0_rowsOf 42 = .ok (.iinc 5 1, 3) := by decide +kernel
theorem dX0_rowsOf_45 : decode cX0_rowsOf 45 = .ok (.goto (-24), 3) := by decide +kernel
theorem dX0_rowsOf_48 : decode cX0_rowsOf 48 = .ok (.iconst 1, 1) := by decide +kernel
theorem dX0_rowsOf_49 : decode cX0_rowsOf 49 = .ok (.istore 5, 2) := by decide +kernel
theorem dX0_rowsOf_51 : decode cX0_rowsOf 51 = .ok (.iload 5, 2) := by decide +kernel
theorem dX0_rowsOf_53 : decode cX0_rowsOf 53 = .ok (.aload_n 1, 1) := by decide +kernel
theorem dX0_rowsOf_54 : decode cX0_rowsOf 54 = .ok (.iload_n 2, 1) := by decide +kernel
theorem dX0_rowsOf_55 : decode cX0_rowsOf 55 = .ok (.invokevirtual 59, 3) := by decide +kernel
theorem dX0_rowsOf_58 : decode cX0_rowsOf 58 = .ok (.if_icmp .ge 25, 3) := by decide +kernel
theorem dX0_rowsOf_61 : decode cX0_rowsOf 61 = .ok (.aload_n 0, 1) := by decide +kernel
theorem dX0_rowsOf_62 : decode cX0_rowsOf 62 = .ok (.iload_n 3, 1) := by decide +kernel
theorem dX0_rowsOf_63 : decode cX0_rowsOf 63 = .ok (.aload_n 0, 1) := by decide +kernel
theorem dX0_rowsOf_64 : decode cX0_rowsOf 64 = .ok (.aload_n 1, 1) := by decide +kernel
theorem dX0_rowsOf_65 : decode cX0_rowsOf 65 = .ok (.iload_n 2, 1) := by decide +kernel
theorem dX0_rowsOf_66 : decode cX0_rowsOf 66 = .ok (.iload 5, 2) := by decide +kernel
theorem dX0_rowsOf_68 : decode cX0_rowsOf 68 = .ok (.invokevirtual 73, 3) := by decide +kernel
theorem dX0_rowsOf_71 : decode cX0_rowsOf 71 = .ok (.invokevirtual 76, 3) := by decide +kernel
theorem dX0_rowsOf_74 : decode cX0_rowsOf 74 = .ok (.invokevirtual 79, 3) := by decide +kernel
theorem dX0_rowsOf_77 : decode cX0_rowsOf 77 = .ok (.iinc 5 1, 3) := by decide +kernel
theorem dX0_rowsOf_80 : decode cX0_rowsOf 80 = .ok (.goto (-29), 3) := by decide +kernel
theorem dX0_rowsOf_83 : decode cX0_rowsOf 83 = .ok (.iconst 0, 1) := by decide +kernel
theorem dX0_rowsOf_84 : decode cX0_rowsOf 84 = .ok (.istore 5, 2) := by decide +kernel
theorem dX0_rowsOf_86 : decode cX0_rowsOf 86 = .ok (.iconst 0, 1) := by decide +kernel
theorem dX0_rowsOf_87 : decode cX0_rowsOf 87 = .ok (.istore 6, 2) := by decide +kernel
theorem dX0_rowsOf_89 : decode cX0_rowsOf 89 = .ok (.iload 6, 2) := by decide +kernel
theorem dX0_rowsOf_91 : decode cX0_rowsOf 91 = .ok (.bipush 16, 2) := by decide +kernel
theorem dX0_rowsOf_93 : decode cX0_rowsOf 93 = .ok (.if_icmp .ge 21, 3) := by decide +kernel
theorem dX0_rowsOf_96 : decode cX0_rowsOf 96 = .ok (.iload 5, 2) := by decide +kernel
theorem dX0_rowsOf_98 : decode cX0_rowsOf 98 = .ok (.aload_n 0, 1) := by decide +kernel
theorem dX0_rowsOf_99 : decode cX0_rowsOf 99 = .ok (.getfield 28, 3) := by decide +kernel
theorem dX0_rowsOf_102 : decode cX0_rowsOf 102 = .ok (.iload 6, 2) := by decide +kernel
theorem dX0_rowsOf_104 : decode cX0_rowsOf 104 = .ok (.iaload, 1) := by decide +kernel
theorem dX0_rowsOf_105 : decode cX0_rowsOf 105 = .ok (.iadd, 1) := by decide +kernel
theorem dX0_rowsOf_106 : decode cX0_rowsOf 106 = .ok (.istore 5, 2) := by decide +kernel
theorem dX0_rowsOf_108 : decode cX0_rowsOf 108 = .ok (.iinc 6 1, 3) := by decide +kernel
theorem dX0_rowsOf_111 : decode cX0_rowsOf 111 = .ok (.goto (-22), 3) := by decide +kernel
theorem dX0_rowsOf_114 : decode cX0_rowsOf 114 = .ok (.iload 5, 2) := by decide +kernel
theorem dX0_rowsOf_116 : decode cX0_rowsOf 116 = .ok (.ireturn, 1) := by decide +kernel
set_option maxRecDepth 20000 in
theorem ggX0_joined_X1_beside : GoodIn wsX0_joined wsX1_beside := goodIn_r _ [6, 7, 8, 9, 5, 10, 11, 12, 13, 14, 21, 22, 23, 24, 25, 26] (by decide +kernel) (by decide +kernel)
set_option maxRecDepth 20000 in
theorem gX0_joined_X1_beside : GoodIn wsX0_joined (wsV RX0 83 RX1 yX1_beside wsX1_beside) := goodIn_app (goodIn_of _ (by decide +kernel)) ggX0_joined_X1_beside
theorem dX0_joined_0 : decode cX0_joined 0 = .ok (.iload_n 1, 1) := by decide +kernel
theorem dX0_joined_1 : decode cX0_joined 1 = .ok (.istore_n 3, 1) := by decide +kernel
theorem dX0_joined_2 : decode cX0_joined 2 = .ok (.iconst 0, 1) := by decide +kernel
theorem dX0_joined_3 : decode cX0_joined 3 = .ok (.istore 4, 2) := by decide +kernel
theorem dX0_joined_5 : decode cX0_joined 5 = .ok (.iload 4, 2) := by decide +kernel
theorem dX0_joined_7 : decode cX0_joined 7 = .ok (.bipush 16, 2) := by decide +kernel
theorem dX0_joined_9 : decode cX0_joined 9 = .ok (.if_icmp .ge 22, 3) := by decide +kernel
theorem dX0_joined_12 : decode cX0_joined 12 = .ok (.iload_n 3, 1) := by decide +kernel
theorem dX0_joined_13 : decode cX0_joined 13 = .ok (.aload_n 0, 1) := by decide +kernel
theorem dX0_joined_14 : decode cX0_joined 14 = .ok (.getfield 12, 3) := by decide +kernel
theorem dX0_joined_17 : decode cX0_joined 17 = .ok (.iload_n 3, 1) := by decide +kernel
theorem dX0_joined_18 : decode cX0_joined 18 = .ok (.invokevirtual 83, 3) := by decide +kernel
theorem dX0_joined_21 : decode cX0_joined 21 = .ok (.iload_n 2, 1) := by decide +kernel
theorem dX0_joined_22 : decode cX0_joined 22 = .ok (.iand, 1) := by decide +kernel
theorem dX0_joined_23 : decode cX0_joined 23 = .ok (.ior, 1) := by decide +kernel
theorem dX0_joined_24 : decode cX0_joined 24 = .ok (.istore_n 3, 1) := by decide +kernel
theorem dX0_joined_25 : decode cX0_joined 25 = .ok (.iinc 4 1, 3) := by decide +kernel
theorem dX0_joined_28 : decode cX0_joined 28 = .ok (.goto (-23), 3) := by decide +kernel
theorem dX0_joined_31 : decode cX0_joined 31 = .ok (.iload_n 3, 1) := by decide +kernel
theorem dX0_joined_32 : decode cX0_joined 32 = .ok (.ireturn, 1) := by decide +kernel
set_option maxRecDepth 20000 in
theorem ggX0_goFrom_X5_rowMark : GoodIn wsX0_goFrom wsX5_rowMark := goodIn_r _ [7, 8, 9, 10, 6, 11, 12, 13, 14, 15, 16, 17, 18, 19, 20, 21, 22, 72, 73, 74, 75, 76] (by decide +kernel) (by decide +kernel)
set_option maxRecDepth 20000 in
theorem gX0_goFrom_X5_rowMark : GoodIn wsX0_goFrom (wsV RX0 73 RX5 yX5_rowMark wsX5_rowMark) := goodIn_app (goodIn_of _ (by decide +kernel)) ggX0_goFrom_X5_rowMark
set_option maxRecDepth 20000 in
theorem ggX0_goFrom_X0_placesOf : GoodIn wsX0_goFrom wsX0_placesOf := goodIn_r _ [27, 28, 29, 30, 31, 66, 67, 68, 69, 70, 71] (by decide +kernel) (by decide +kernel)
set_option maxRecDepth 20000 in
theorem gX0_goFrom_X0_placesOf : GoodIn wsX0_goFrom (wsV RX0 76 RX0 yX0_placesOf wsX0_placesOf) := goodIn_app (goodIn_of _ (by decide +kernel)) ggX0_goFrom_X0_placesOf
set_option maxRecDepth 20000 in
theorem ggX0_goFrom_X5_sizeOf : GoodIn wsX0_goFrom wsX5_sizeOf := goodIn_r _ [16, 17, 72, 73, 74, 75, 76] (by decide +kernel) (by decide +kernel)
set_option maxRecDepth 20000 in
theorem gX0_goFrom_X5_sizeOf : GoodIn wsX0_goFrom (wsV RX0 59 RX5 yX5_sizeOf wsX5_sizeOf) := goodIn_app (goodIn_of _ (by decide +kernel)) ggX0_goFrom_X5_sizeOf
set_option maxRecDepth 20000 in
theorem ggX0_goFrom_X5_kindOf : GoodIn wsX0_goFrom wsX5_kindOf := goodIn_r _ [11, 12, 72, 73, 74, 75, 76] (by decide +kernel) (by decide +kernel)
set_option maxRecDepth 20000 in
theorem gX0_goFrom_X5_kindOf : GoodIn wsX0_goFrom (wsV RX0 66 RX5 yX5_kindOf wsX5_kindOf) := goodIn_app (goodIn_of _ (by decide +kernel)) ggX0_goFrom_X5_kindOf
set_option maxRecDepth 20000 in
theorem ggX0_goFrom_X1_reach : GoodIn wsX0_goFrom wsX1_reach := goodIn_r _ [38, 39, 40, 41, 37, 42, 43, 44, 45, 46, 47, 48, 49, 50, 51, 52, 53, 54, 55, 56, 57, 58, 59, 60, 61, 62, 63, 64, 65, 77, 78, 79, 80, 81, 82] (by decide +kernel) (by decide +kernel)
set_option maxRecDepth 20000 in
theorem gX0_goFrom_X1_reach : GoodIn wsX0_goFrom (wsV RX0 69 RX1 yX1_reach wsX1_reach) := goodIn_app (goodIn_of _ (by decide +kernel)) ggX0_goFrom_X1_reach
theorem dX0_goFrom_0 : decode cX0_goFrom 0 = .ok (.iload_n 3, 1) := by decide +kernel
theorem dX0_goFrom_1 : decode cX0_goFrom 1 = .ok (.aload_n 0, 1) := by decide +kernel
theorem dX0_goFrom_2 : decode cX0_goFrom 2 = .ok (.aload_n 1, 1) := by decide +kernel
theorem dX0_goFrom_3 : decode cX0_goFrom 3 = .ok (.iload_n 2, 1) := by decide +kernel
theorem dX0_goFrom_4 : decode cX0_goFrom 4 = .ok (.iconst 0, 1) := by decide +kernel
theorem dX0_goFrom_5 : decode cX0_goFrom 5 = .ok (.invokevirtual 73, 3) := by decide +kernel
theorem dX0_goFrom_8 : decode cX0_goFrom 8 = .ok (.invokevirtual 76, 3) := by decide +kernel
theorem dX0_goFrom_11 : decode cX0_goFrom 11 = .ok (.iand, 1) := by decide +kernel
theorem dX0_goFrom_12 : decode cX0_goFrom 12 = .ok (.istore 4, 2) := by decide +kernel
theorem dX0_goFrom_14 : decode cX0_goFrom 14 = .ok (.aload_n 0, 1) := by decide +kernel
theorem dX0_goFrom_15 : decode cX0_goFrom 15 = .ok (.getfield 22, 3) := by decide +kernel
theorem dX0_goFrom_18 : decode cX0_goFrom 18 = .ok (.iconst 0, 1) := by decide +kernel
theorem dX0_goFrom_19 : decode cX0_goFrom 19 = .ok (.iload 4, 2) := by decide +kernel
theorem dX0_goFrom_21 : decode cX0_goFrom 21 = .ok (.iastore, 1) := by decide +kernel
theorem dX0_goFrom_22 : decode cX0_goFrom 22 = .ok (.iconst 1, 1) := by decide +kernel
theorem dX0_goFrom_23 : decode cX0_goFrom 23 = .ok (.istore 5, 2) := by decide +kernel
theorem dX0_goFrom_25 : decode cX0_goFrom 25 = .ok (.iload 5, 2) := by decide +kernel
theorem dX0_goFrom_27 : decode cX0_goFrom 27 = .ok (.aload_n 1, 1) := by decide +kernel
theorem dX0_goFrom_28 : decode cX0_goFrom 28 = .ok (.iload_n 2, 1) := by decide +kernel
theorem dX0_goFrom_29 : decode cX0_goFrom 29 = .ok (.invokevirtual 59, 3) := by decide +kernel
theorem dX0_goFrom_32 : decode cX0_goFrom 32 = .ok (.if_icmp .ge 52, 3) := by decide +kernel
theorem dX0_goFrom_35 : decode cX0_goFrom 35 = .ok (.iload 5, 2) := by decide +kernel
theorem dX0_goFrom_37 : decode cX0_goFrom 37 = .ok (.iconst 5, 1) := by decide +kernel
theorem dX0_goFrom_38 : decode cX0_goFrom 38 = .ok (.if_icmp .ge 46, 3) := by decide +kernel
theorem dX0_goFrom_41 : decode cX0_goFrom 41 = .ok (.aload_n 0, 1) := by decide +kernel
theorem dX0_goFrom_42 : decode cX0_goFrom 42 = .ok (.getfield 12, 3) := by decide +kernel
theorem dX0_goFrom_45 : decode cX0_goFrom 45 = .ok (.aload_n 1, 1) := by decide +kernel
theorem dX0_goFrom_46 : decode cX0_goFrom 46 = .ok (.iload_n 2, 1) := by decide +kernel
theorem dX0_goFrom_47 : decode cX0_goFrom 47 = .ok (.invokevirtual 66, 3) := by decide +kernel
theorem dX0_goFrom_50 : decode cX0_goFrom 50 = .ok (.iload 4, 2) := by decide +kernel
theorem dX0_goFrom_52 : decode cX0_goFrom 52 = .ok (.invokevirtual 69, 3) := by decide +kernel
theorem dX0_goFrom_55 : decode cX0_goFrom 55 = .ok (.aload_n 0, 1) := by decide +kernel
theorem dX0_goFrom_56 : decode cX0_goFrom 56 = .ok (.aload_n 1, 1) := by decide +kernel
theorem dX0_goFrom_57 : decode cX0_goFrom 57 = .ok (.iload_n 2, 1) := by decide +kernel
theorem dX0_goFrom_58 : decode cX0_goFrom 58 = .ok (.iload 5, 2) := by decide +kernel
theorem dX0_goFrom_60 : decode cX0_goFrom 60 = .ok (.invokevirtual 73, 3) := by decide +kernel
theorem dX0_goFrom_63 : decode cX0_goFrom 63 = .ok (.invokevirtual 76, 3) := by decide +kernel
theorem dX0_goFrom_66 : decode cX0_goFrom 66 = .ok (.iand, 1) := by decide +kernel
theorem dX0_goFrom_67 : decode cX0_goFrom 67 = .ok (.istore 4, 2) := by decide +kernel
theorem dX0_goFrom_69 : decode cX0_goFrom 69 = .ok (.aload_n 0, 1) := by decide +kernel
theorem dX0_goFrom_70 : decode cX0_goFrom 70 = .ok (.getfield 22, 3) := by decide +kernel
theorem dX0_goFrom_73 : decode cX0_goFrom 73 = .ok (.iload 5, 2) := by decide +kernel
theorem dX0_goFrom_75 : decode cX0_goFrom 75 = .ok (.iload 4, 2) := by decide +kernel
theorem dX0_goFrom_77 : decode cX0_goFrom 77 = .ok (.iastore, 1) := by decide +kernel
theorem dX0_goFrom_78 : decode cX0_goFrom 78 = .ok (.iinc 5 1, 3) := by decide +kernel
theorem dX0_goFrom_81 : decode cX0_goFrom 81 = .ok (.goto (-56), 3) := by decide +kernel
theorem dX0_goFrom_84 : decode cX0_goFrom 84 = .ok (.iload 4, 2) := by decide +kernel
theorem dX0_goFrom_86 : decode cX0_goFrom 86 = .ok (.ireturn, 1) := by decide +kernel
set_option maxRecDepth 20000 in
theorem ggX0_goBack_X5_sizeOf : GoodIn wsX0_goBack wsX5_sizeOf := goodIn_r _ [12, 13, 83, 84, 85, 86, 87] (by decide +kernel) (by decide +kernel)
set_option maxRecDepth 20000 in
theorem gX0_goBack_X5_sizeOf : GoodIn wsX0_goBack (wsV RX0 59 RX5 yX5_sizeOf wsX5_sizeOf) := goodIn_app (goodIn_of _ (by decide +kernel)) ggX0_goBack_X5_sizeOf
set_option maxRecDepth 20000 in
theorem ggX0_goBack_X5_kindOf : GoodIn wsX0_goBack wsX5_kindOf := goodIn_r _ [17, 18, 83, 84, 85, 86, 87] (by decide +kernel) (by decide +kernel)
set_option maxRecDepth 20000 in
theorem gX0_goBack_X5_kindOf : GoodIn wsX0_goBack (wsV RX0 66 RX5 yX5_kindOf wsX5_kindOf) := goodIn_app (goodIn_of _ (by decide +kernel)) ggX0_goBack_X5_kindOf
set_option maxRecDepth 20000 in
theorem ggX0_goBack_X1_reach : GoodIn wsX0_goBack wsX1_reach := goodIn_r _ [23, 24, 25, 26, 22, 27, 28, 29, 30, 31, 32, 33, 34, 35, 36, 37, 38, 39, 40, 41, 42, 43, 44, 45, 46, 47, 48, 49, 50, 77, 78, 79, 80, 81, 82] (by decide +kernel) (by decide +kernel)
set_option maxRecDepth 20000 in
theorem gX0_goBack_X1_reach : GoodIn wsX0_goBack (wsV RX0 69 RX1 yX1_reach wsX1_reach) := goodIn_app (goodIn_of _ (by decide +kernel)) ggX0_goBack_X1_reach
set_option maxRecDepth 20000 in
theorem ggX0_goBack_X5_rowMark : GoodIn wsX0_goBack wsX5_rowMark := goodIn_r _ [54, 55, 15, 16, 11, 17, 18, 56, 9, 10, 12, 13, 57, 58, 59, 60, 61, 83, 84, 85, 86, 87] (by decide +kernel) (by decide +kernel)
set_option maxRecDepth 20000 in
theorem gX0_goBack_X5_rowMark : GoodIn wsX0_goBack (wsV RX0 73 RX5 yX5_rowMark wsX5_rowMark) := goodIn_app (goodIn_of _ (by decide +kernel)) ggX0_goBack_X5_rowMark
set_option maxRecDepth 20000 in
theorem ggX0_goBack_X0_placesOf : GoodIn wsX0_goBack wsX0_placesOf := goodIn_r _ [66, 67, 68, 69, 70, 71, 72, 73, 74, 75, 76] (by decide +kernel) (by decide +kernel)
set_option maxRecDepth 20000 in
theorem gX0_goBack_X0_placesOf : GoodIn wsX0_goBack (wsV RX0 76 RX0 yX0_placesOf wsX0_placesOf) := goodIn_app (goodIn_of _ (by decide +kernel)) ggX0_goBack_X0_placesOf
theorem dX0_goBack_0 : decode cX0_goBack 0 = .ok (.aload_n 1, 1) := by decide +kernel
theorem dX0_goBack_1 : decode cX0_goBack 1 = .ok (.iload_n 2, 1) := by decide +kernel
theorem dX0_goBack_2 : decode cX0_goBack 2 = .ok (.invokevirtual 59, 3) := by decide +kernel
theorem dX0_goBack_5 : decode cX0_goBack 5 = .ok (.iconst 5, 1) := by decide +kernel
theorem dX0_goBack_6 : decode cX0_goBack 6 = .ok (.invokestatic 86, 3) := by decide +kernel
theorem dX0_goBack_9 : decode cX0_goBack 9 = .ok (.iconst 1, 1) := by decide +kernel
theorem dX0_goBack_10 : decode cX0_goBack 10 = .ok (.isub, 1) := by decide +kernel
theorem dX0_goBack_11 : decode cX0_goBack 11 = .ok (.istore_n 3, 1) := by decide +kernel
theorem dX0_goBack_12 : decode cX0_goBack 12 = .ok (.aload_n 0, 1) := by decide +kernel
theorem dX0_goBack_13 : decode cX0_goBack 13 = .ok (.getfield 12, 3) := by decide +kernel
theorem dX0_goBack_16 : decode cX0_goBack 16 = .ok (.getfield 42, 3) := by decide +kernel
theorem dX0_goBack_19 : decode cX0_goBack 19 = .ok (.istore 4, 2) := by decide +kernel
theorem dX0_goBack_21 : decode cX0_goBack 21 = .ok (.iload_n 3, 1) := by decide +kernel
theorem dX0_goBack_22 : decode cX0_goBack 22 = .ok (.istore 5, 2) := by decide +kernel
theorem dX0_goBack_24 : decode cX0_goBack 24 = .ok (.iload 5, 2) := by decide +kernel
theorem dX0_goBack_26 : decode cX0_goBack 26 = .ok (.ifCond .lt 57, 3) := by decide +kernel
theorem dX0_goBack_29 : decode cX0_goBack 29 = .ok (.iload 5, 2) := by decide +kernel
theorem dX0_goBack_31 : decode cX0_goBack 31 = .ok (.iload_n 3, 1) := by decide +kernel
theorem dX0_goBack_32 : decode cX0_goBack 32 = .ok (.if_icmp .ne 8, 3) := by decide +kernel
theorem dX0_goBack_35 : decode cX0_goBack 35 = .ok (.iload 4, 2) := by decide +kernel
theorem dX0_goBack_37 : decode cX0_goBack 37 = .ok (.goto 17, 3) := by decide +kernel
theorem dX0_goBack_40 : decode cX0_goBack 40 = .ok (.aload_n 0, 1) := by decide +kernel
theorem dX0_goBack_41 : decode cX0_goBack 41 = .ok (.getfield 12, 3) := by decide +kernel
theorem dX0_goBack_44 : decode cX0_goBack 44 = .ok (.aload_n 1, 1) := by decide +kernel
theorem dX0_goBack_45 : decode cX0_goBack 45 = .ok (.iload_n 2, 1) := by decide +kernel
theorem dX0_goBack_46 : decode cX0_goBack 46 = .ok (.invokevirtual 66, 3) := by decide +kernel
theorem dX0_goBack_49 : decode cX0_goBack 49 = .ok (.iload 4, 2) := by decide +kernel
theorem dX0_goBack_51 : decode cX0_goBack 51 = .ok (.invokevirtual 69, 3) := by decide +kernel
theorem dX0_goBack_54 : decode cX0_goBack 54 = .ok (.aload_n 0, 1) := by decide +kernel
theorem dX0_goBack_55 : decode cX0_goBack 55 = .ok (.aload_n 1, 1) := by decide +kernel
theorem dX0_goBack_56 : decode cX0_goBack 56 = .ok (.iload_n 2, 1) := by decide +kernel
theorem dX0_goBack_57 : decode cX0_goBack 57 = .ok (.iload 5, 2) := by decide +kernel
theorem dX0_goBack_59 : decode cX0_goBack 59 = .ok (.invokevirtual 73, 3) := by decide +kernel
theorem dX0_goBack_62 : decode cX0_goBack 62 = .ok (.invokevirtual 76, 3) := by decide +kernel
theorem dX0_goBack_65 : decode cX0_goBack 65 = .ok (.iand, 1) := by decide +kernel
theorem dX0_goBack_66 : decode cX0_goBack 66 = .ok (.istore 4, 2) := by decide +kernel
theorem dX0_goBack_68 : decode cX0_goBack 68 = .ok (.aload_n 0, 1) := by decide +kernel
theorem dX0_goBack_69 : decode cX0_goBack 69 = .ok (.getfield 25, 3) := by decide +kernel
theorem dX0_goBack_72 : decode cX0_goBack 72 = .ok (.iload 5, 2) := by decide +kernel
theorem dX0_goBack_74 : decode cX0_goBack 74 = .ok (.iload 4, 2) := by decide +kernel
theorem dX0_goBack_76 : decode cX0_goBack 76 = .ok (.iastore, 1) := by decide +kernel
theorem dX0_goBack_77 : decode cX0_goBack 77 = .ok (.iinc 5 (-1), 3) := by decide +kernel
theorem dX0_goBack_80 : decode cX0_goBack 80 = .ok (.goto (-56), 3) := by decide +kernel
theorem dX0_goBack_83 : decode cX0_goBack 83 = .ok (.return_, 1) := by decide +kernel
set_option maxRecDepth 20000 in
theorem ggX0_addUp_X1_reach : GoodIn wsX0_addUp wsX1_reach := goodIn_r _ [12, 13, 14, 15, 11, 16, 17, 18, 19, 20, 21, 22, 23, 24, 25, 26, 27, 28, 29, 30, 31, 32, 33, 34, 35, 36, 37, 38, 39, 46, 47, 48, 49, 50, 51] (by decide +kernel) (by decide +kernel)
set_option maxRecDepth 20000 in
theorem gX0_addUp_X1_reach : GoodIn wsX0_addUp (wsV RX0 69 RX1 yX1_reach wsX1_reach) := goodIn_app (goodIn_of _ (by decide +kernel)) ggX0_addUp_X1_reach
theorem dX0_addUp_0 : decode cX0_addUp 0 = .ok (.iconst 0, 1) := by decide +kernel
theorem dX0_addUp_1 : decode cX0_addUp 1 = .ok (.istore_n 3, 1) := by decide +kernel
theorem dX0_addUp_2 : decode cX0_addUp 2 = .ok (.iload_n 3, 1) := by decide +kernel
theorem dX0_addUp_3 : decode cX0_addUp 3 = .ok (.bipush 16, 2) := by decide +kernel
theorem dX0_addUp_5 : decode cX0_addUp 5 = .ok (.if_icmp .ge 85, 3) := by decide +kernel
theorem dX0_addUp_8 : decode cX0_addUp 8 = .ok (.aload_n 0, 1) := by decide +kernel
theorem dX0_addUp_9 : decode cX0_addUp 9 = .ok (.getfield 31, 3) := by decide +kernel
theorem dX0_addUp_12 : decode cX0_addUp 12 = .ok (.iload_n 3, 1) := by decide +kernel
theorem dX0_addUp_13 : decode cX0_addUp 13 = .ok (.iconst 0, 1) := by decide +kernel
theorem dX0_addUp_14 : decode cX0_addUp 14 = .ok (.iastore, 1) := by decide +kernel
theorem dX0_addUp_15 : decode cX0_addUp 15 = .ok (.iload_n 2, 1) := by decide +kernel
theorem dX0_addUp_16 : decode cX0_addUp 16 = .ok (.iload_n 3, 1) := by decide +kernel
theorem dX0_addUp_17 : decode cX0_addUp 17 = .ok (.ishr, 1) := by decide +kernel
theorem dX0_addUp_18 : decode cX0_addUp 18 = .ok (.iconst 1, 1) := by decide +kernel
theorem dX0_addUp_19 : decode cX0_addUp 19 = .ok (.iand, 1) := by decide +kernel
theorem dX0_addUp_20 : decode cX0_addUp 20 = .ok (.iconst 1, 1) := by decide +kernel
theorem dX0_addUp_21 : decode cX0_addUp 21 = .ok (.if_icmp .ne 17, 3) := by decide +kernel
theorem dX0_addUp_24 : decode cX0_addUp 24 = .ok (.aload_n 0, 1) := by decide +kernel
theorem dX0_addUp_25 : decode cX0_addUp 25 = .ok (.getfield 12, 3) := by decide +kernel
theorem dX0_addUp_28 : decode cX0_addUp 28 = .ok (.iload_n 1, 1) := by decide +kernel
theorem dX0_addUp_29 : decode cX0_addUp 29 = .ok (.iconst 1, 1) := by decide +kernel
theorem dX0_addUp_30 : decode cX0_addUp 30 = .ok (.iload_n 3, 1) := by decide +kernel
theorem dX0_addUp_31 : decode cX0_addUp 31 = .ok (.ishl, 1) := by decide +kernel
theorem dX0_addUp_32 : decode cX0_addUp 32 = .ok (.invokevirtual 69, 3) := by decide +kernel
theorem dX0_addUp_35 : decode cX0_addUp 35 = .ok (.goto 4, 3) := by decide +kernel
theorem dX0_addUp_38 : decode cX0_addUp 38 = .ok (.iconst 0, 1) := by decide +kernel
theorem dX0_addUp_39 : decode cX0_addUp 39 = .ok (.istore 4, 2) := by decide +kernel
theorem dX0_addUp_41 : decode cX0_addUp 41 = .ok (.iconst 0, 1) := by decide +kernel
theorem dX0_addUp_42 : decode cX0_addUp 42 = .ok (.istore 5, 2) := by decide +kernel
theorem dX0_addUp_44 : decode cX0_addUp 44 = .ok (.iload 5, 2) := by decide +kernel
theorem dX0_addUp_46 : decode cX0_addUp 46 = .ok (.bipush 16, 2) := by decide +kernel
theorem dX0_addUp_48 : decode cX0_addUp 48 = .ok (.if_icmp .ge 36, 3) := by decide +kernel
theorem dX0_addUp_51 : decode cX0_addUp 51 = .ok (.iload 4, 2) := by decide +kernel
theorem dX0_addUp_53 : decode cX0_addUp 53 = .ok (.iload 5, 2) := by decide +kernel
theorem dX0_addUp_55 : decode cX0_addUp 55 = .ok (.ishr, 1) := by decide +kernel
theorem dX0_addUp_56 : decode cX0_addUp 56 = .ok (.iconst 1, 1) := by decide +kernel
theorem dX0_addUp_57 : decode cX0_addUp 57 = .ok (.iand, 1) := by decide +kernel
theorem dX0_addUp_58 : decode cX0_addUp 58 = .ok (.iconst 1, 1) := by decide +kernel
theorem dX0_addUp_59 : decode cX0_addUp 59 = .ok (.if_icmp .ne 19, 3) := by decide +kernel
theorem dX0_addUp_62 : decode cX0_addUp 62 = .ok (.aload_n 0, 1) := by decide +kernel
theorem dX0_addUp_63 : decode cX0_addUp 63 = .ok (.getfield 31, 3) := by decide +kernel
theorem dX0_addUp_66 : decode cX0_addUp 66 = .ok (.iload_n 3, 1) := by decide +kernel
theorem dX0_addUp_67 : decode cX0_addUp 67 = .ok (.dup2, 1) := by decide +kernel
theorem dX0_addUp_68 : decode cX0_addUp 68 = .ok (.iaload, 1) := by decide +kernel
theorem dX0_addUp_69 : decode cX0_addUp 69 = .ok (.aload_n 0, 1) := by decide +kernel
theorem dX0_addUp_70 : decode cX0_addUp 70 = .ok (.getfield 28, 3) := by decide +kernel
theorem dX0_addUp_73 : decode cX0_addUp 73 = .ok (.iload 5, 2) := by decide +kernel
theorem dX0_addUp_75 : decode cX0_addUp 75 = .ok (.iaload, 1) := by decide +kernel
theorem dX0_addUp_76 : decode cX0_addUp 76 = .ok (.iadd, 1) := by decide +kernel
theorem dX0_addUp_77 : decode cX0_addUp 77 = .ok (.iastore, 1) := by decide +kernel
theorem dX0_addUp_78 : decode cX0_addUp 78 = .ok (.iinc 5 1, 3) := by decide +kernel
theorem dX0_addUp_81 : decode cX0_addUp 81 = .ok (.goto (-37), 3) := by decide +kernel
theorem dX0_addUp_84 : decode cX0_addUp 84 = .ok (.iinc 3 1, 3) := by decide +kernel
theorem dX0_addUp_87 : decode cX0_addUp 87 = .ok (.goto (-85), 3) := by decide +kernel
theorem dX0_addUp_90 : decode cX0_addUp 90 = .ok (.aload_n 0, 1) := by decide +kernel
theorem dX0_addUp_91 : decode cX0_addUp 91 = .ok (.getfield 31, 3) := by decide +kernel
theorem dX0_addUp_94 : decode cX0_addUp 94 = .ok (.iconst 0, 1) := by decide +kernel
theorem dX0_addUp_95 : decode cX0_addUp 95 = .ok (.aload_n 0, 1) := by decide +kernel
theorem dX0_addUp_96 : decode cX0_addUp 96 = .ok (.getfield 28, 3) := by decide +kernel
theorem dX0_addUp_99 : decode cX0_addUp 99 = .ok (.iconst 0, 1) := by decide +kernel
theorem dX0_addUp_100 : decode cX0_addUp 100 = .ok (.bipush 16, 2) := by decide +kernel
theorem dX0_addUp_102 : decode cX0_addUp 102 = .ok (.invokestatic 91, 3) := by decide +kernel
theorem dX0_addUp_105 : decode cX0_addUp 105 = .ok (.return_, 1) := by decide +kernel
theorem dX0_lowest_0 : decode cX0_lowest 0 = .ok (.iconst 0, 1) := by decide +kernel
theorem dX0_lowest_1 : decode cX0_lowest 1 = .ok (.istore_n 1, 1) := by decide +kernel
theorem dX0_lowest_2 : decode cX0_lowest 2 = .ok (.iload_n 1, 1) := by decide +kernel
theorem dX0_lowest_3 : decode cX0_lowest 3 = .ok (.bipush 16, 2) := by decide +kernel
theorem dX0_lowest_5 : decode cX0_lowest 5 = .ok (.if_icmp .ge 20, 3) := by decide +kernel
theorem dX0_lowest_8 : decode cX0_lowest 8 = .ok (.iload_n 0, 1) := by decide +kernel
theorem dX0_lowest_9 : decode cX0_lowest 9 = .ok (.iload_n 1, 1) := by decide +kernel
theorem dX0_lowest_10 : decode cX0_lowest 10 = .ok (.ishr, 1) := by decide +kernel
theorem dX0_lowest_11 : decode cX0_lowest 11 = .ok (.iconst 1, 1) := by decide +kernel
theorem dX0_lowest_12 : decode cX0_lowest 12 = .ok (.iand, 1) := by decide +kernel
theorem dX0_lowest_13 : decode cX0_lowest 13 = .ok (.iconst 1, 1) := by decide +kernel
theorem dX0_lowest_14 : decode cX0_lowest 14 = .ok (.if_icmp .ne 5, 3) := by decide +kernel
theorem dX0_lowest_17 : decode cX0_lowest 17 = .ok (.iload_n 1, 1) := by decide +kernel
theorem dX0_lowest_18 : decode cX0_lowest 18 = .ok (.ireturn, 1) := by decide +kernel
theorem dX0_lowest_19 : decode cX0_lowest 19 = .ok (.iinc 1 1, 3) := by decide +kernel
theorem dX0_lowest_22 : decode cX0_lowest 22 = .ok (.goto (-20), 3) := by decide +kernel
theorem dX0_lowest_25 : decode cX0_lowest 25 = .ok (.bipush (-4), 2) := by decide +kernel
theorem dX0_lowest_27 : decode cX0_lowest 27 = .ok (.ireturn, 1) := by decide +kernel
set_option maxRecDepth 20000 in
theorem ggX0_seen_X1_step : GoodIn wsX0_seen wsX1_step := goodIn_r _ [6, 7, 8, 9, 10, 26, 27, 28, 29, 30, 31] (by decide +kernel) (by decide +kernel)
set_option maxRecDepth 20000 in
theorem gX0_seen_X1_step : GoodIn wsX0_seen (wsV RX0 97 RX1 yX1_step wsX1_step) := goodIn_app (goodIn_of _ (by decide +kernel)) ggX0_seen_X1_step
set_option maxRecDepth 20000 in
theorem ggX0_seen_X0_placesOf : GoodIn wsX0_seen wsX0_placesOf := goodIn_r _ [15, 16, 17, 18, 19, 20, 21, 22, 23, 24, 25] (by decide +kernel) (by decide +kernel)
set_option maxRecDepth 20000 in
theorem gX0_seen_X0_placesOf : GoodIn wsX0_seen (wsV RX0 76 RX0 yX0_placesOf wsX0_placesOf) := goodIn_app (goodIn_of _ (by decide +kernel)) ggX0_seen_X0_placesOf
theorem dX0_seen_0 : decode cX0_seen 0 = .ok (.iconst 0, 1) := by decide +kernel
theorem dX0_seen_1 : decode cX0_seen 1 = .ok (.istore_n 2, 1) := by decide +kernel
theorem dX0_seen_2 : decode cX0_seen 2 = .ok (.iconst 0, 1) := by decide +kernel
theorem dX0_seen_3 : decode cX0_seen 3 = .ok (.istore_n 3, 1) := by decide +kernel
theorem dX0_seen_4 : decode cX0_seen 4 = .ok (.iload_n 3, 1) := by decide +kernel
theorem dX0_seen_5 : decode cX0_seen 5 = .ok (.iconst 4, 1) := by decide +kernel
theorem dX0_seen_6 : decode cX0_seen 6 = .ok (.if_icmp .ge 66, 3) := by decide +kernel
theorem dX0_seen_9 : decode cX0_seen 9 = .ok (.aload_n 0, 1) := by decide +kernel
theorem dX0_seen_10 : decode cX0_seen 10 = .ok (.getfield 12, 3) := by decide +kernel
theorem dX0_seen_13 : decode cX0_seen 13 = .ok (.iload_n 3, 1) := by decide +kernel
theorem dX0_seen_14 : decode cX0_seen 14 = .ok (.iconst 1, 1) := by decide +kernel
theorem dX0_seen_15 : decode cX0_seen 15 = .ok (.iload_n 1, 1) := by decide +kernel
theorem dX0_seen_16 : decode cX0_seen 16 = .ok (.ishl, 1) := by decide +kernel
theorem dX0_seen_17 : decode cX0_seen 17 = .ok (.invokevirtual 97, 3) := by decide +kernel
theorem dX0_seen_20 : decode cX0_seen 20 = .ok (.istore 4, 2) := by decide +kernel
theorem dX0_seen_22 : decode cX0_seen 22 = .ok (.iconst 0, 1) := by decide +kernel
theorem dX0_seen_23 : decode cX0_seen 23 = .ok (.istore 5, 2) := by decide +kernel
theorem dX0_seen_25 : decode cX0_seen 25 = .ok (.iload 5, 2) := by decide +kernel
theorem dX0_seen_27 : decode cX0_seen 27 = .ok (.bipush 16, 2) := by decide +kernel
theorem dX0_seen_29 : decode cX0_seen 29 = .ok (.if_icmp .ge 37, 3) := by decide +kernel
theorem dX0_seen_32 : decode cX0_seen 32 = .ok (.iload 4, 2) := by decide +kernel
theorem dX0_seen_34 : decode cX0_seen 34 = .ok (.ifCond .eq 32, 3) := by decide +kernel
theorem dX0_seen_37 : decode cX0_seen 37 = .ok (.iinc 2 1, 3) := by decide +kernel
theorem dX0_seen_40 : decode cX0_seen 40 = .ok (.aload_n 0, 1) := by decide +kernel
theorem dX0_seen_41 : decode cX0_seen 41 = .ok (.getfield 12, 3) := by decide +kernel
theorem dX0_seen_44 : decode cX0_seen 44 = .ok (.iload_n 3, 1) := by decide +kernel
theorem dX0_seen_45 : decode cX0_seen 45 = .ok (.iload 4, 2) := by decide +kernel
theorem dX0_seen_47 : decode cX0_seen 47 = .ok (.aload_n 0, 1) := by decide +kernel
theorem dX0_seen_48 : decode cX0_seen 48 = .ok (.iconst 1, 1) := by decide +kernel
theorem dX0_seen_49 : decode cX0_seen 49 = .ok (.invokevirtual 76, 3) := by decide +kernel
theorem dX0_seen_52 : decode cX0_seen 52 = .ok (.iconst (-1), 1) := by decide +kernel
theorem dX0_seen_53 : decode cX0_seen 53 = .ok (.ixor, 1) := by decide +kernel
theorem dX0_seen_54 : decode cX0_seen 54 = .ok (.iand, 1) := by decide +kernel
theorem dX0_seen_55 : decode cX0_seen 55 = .ok (.invokevirtual 97, 3) := by decide +kernel
theorem dX0_seen_58 : decode cX0_seen 58 = .ok (.istore 4, 2) := by decide +kernel
theorem dX0_seen_60 : decode cX0_seen 60 = .ok (.iinc 5 1, 3) := by decide +kernel
theorem dX0_seen_63 : decode cX0_seen 63 = .ok (.goto (-38), 3) := by decide +kernel
theorem dX0_seen_66 : decode cX0_seen 66 = .ok (.iinc 3 1, 3) := by decide +kernel
theorem dX0_seen_69 : decode cX0_seen 69 = .ok (.goto (-65), 3) := by decide +kernel
theorem dX0_seen_72 : decode cX0_seen 72 = .ok (.iload_n 2, 1) := by decide +kernel
theorem dX0_seen_73 : decode cX0_seen 73 = .ok (.ireturn, 1) := by decide +kernel
theorem dX1_init_0 : decode cX1_init 0 = .ok (.aload_n 0, 1) := by decide +kernel
theorem dX1_init_1 : decode cX1_init 1 = .ok (.invokespecial 3, 3) := by decide +kernel
theorem dX1_init_4 : decode cX1_init 4 = .ok (.aload_n 0, 1) := by decide +kernel
theorem dX1_init_5 : decode cX1_init 5 = .ok (.bipush 6, 2) := by decide +kernel
theorem dX1_init_7 : decode cX1_init 7 = .ok (.newarray .int, 2) := by decide +kernel
theorem dX1_init_9 : decode cX1_init 9 = .ok (.putfield 9, 3) := by decide +kernel
theorem dX1_init_12 : decode cX1_init 12 = .ok (.return_, 1) := by decide +kernel
theorem dX1_shape_0 : decode cX1_shape 0 = .ok (.aload_n 0, 1) := by decide +kernel
theorem dX1_shape_1 : decode cX1_shape 1 = .ok (.iload_n 1, 1) := by decide +kernel
theorem dX1_shape_2 : decode cX1_shape 2 = .ok (.putfield 15, 3) := by decide +kernel
theorem dX1_shape_5 : decode cX1_shape 5 = .ok (.aload_n 0, 1) := by decide +kernel
theorem dX1_shape_6 : decode cX1_shape 6 = .ok (.iload_n 2, 1) := by decide +kernel
theorem dX1_shape_7 : decode cX1_shape 7 = .ok (.putfield 19, 3) := by decide +kernel
theorem dX1_shape_10 : decode cX1_shape 10 = .ok (.aload_n 0, 1) := by decide +kernel
theorem dX1_shape_11 : decode cX1_shape 11 = .ok (.iconst 1, 1) := by decide +kernel
theorem dX1_shape_12 : decode cX1_shape 12 = .ok (.aload_n 0, 1) := by decide +kernel
theorem dX1_shape_13 : decode cX1_shape 13 = .ok (.getfield 15, 3) := by decide +kernel
theorem dX1_shape_16 : decode cX1_shape 16 = .ok (.aload_n 0, 1) := by decide +kernel
theorem dX1_shape_17 : decode cX1_shape 17 = .ok (.getfield 19, 3) := by decide +kernel
theorem dX1_shape_20 : decode cX1_shape 20 = .ok (.imul, 1) := by decide +kernel
theorem dX1_shape_21 : decode cX1_shape 21 = .ok (.ishl, 1) := by decide +kernel
theorem dX1_shape_22 : decode cX1_shape 22 = .ok (.iconst 1, 1) := by decide +kernel
theorem dX1_shape_23 : decode cX1_shape 23 = .ok (.isub, 1) := by decide +kernel
theorem dX1_shape_24 : decode cX1_shape 24 = .ok (.putfield 22, 3) := by decide +kernel
theorem dX1_shape_27 : decode cX1_shape 27 = .ok (.aload_n 0, 1) := by decide +kernel
theorem dX1_shape_28 : decode cX1_shape 28 = .ok (.iconst 0, 1) := by decide +kernel
theorem dX1_shape_29 : decode cX1_shape 29 = .ok (.putfield 25, 3) := by decide +kernel
theorem dX1_shape_32 : decode cX1_shape 32 = .ok (.iconst 0, 1) := by decide +kernel
theorem dX1_shape_33 : decode cX1_shape 33 = .ok (.istore_n 3, 1) := by decide +kernel
theorem dX1_shape_34 : decode cX1_shape 34 = .ok (.iload_n 3, 1) := by decide +kernel
theorem dX1_shape_35 : decode cX1_shape 35 = .ok (.aload_n 0, 1) := by decide +kernel
theorem dX1_shape_36 : decode cX1_shape 36 = .ok (.getfield 15, 3) := by decide +kernel
theorem dX1_shape_39 : decode cX1_shape 39 = .ok (.if_icmp .ge 26, 3) := by decide +kernel
theorem dX1_shape_42 : decode cX1_shape 42 = .ok (.aload_n 0, 1) := by decide +kernel
theorem dX1_shape_43 : decode cX1_shape 43 = .ok (.dup, 1) := by decide +kernel
theorem dX1_shape_44 : decode cX1_shape 44 = .ok (.getfield 25, 3) := by decide +kernel
theorem dX1_shape_47 : decode cX1_shape 47 = .ok (.iconst 1, 1) := by decide +kernel
theorem dX1_shape_48 : decode cX1_shape 48 = .ok (.iload_n 3, 1) := by decide +kernel
theorem dX1_shape_49 : decode cX1_shape 49 = .ok (.aload_n 0, 1) := by decide +kernel
theorem dX1_shape_50 : decode cX1_shape 50 = .ok (.getfield 19, 3) := by decide +kernel
theorem dX1_shape_53 : decode cX1_shape 53 = .ok (.imul, 1) := by decide +kernel
theorem dX1_shape_54 : decode cX1_shape 54 = .ok (.ishl, 1) := by decide +kernel
theorem dX1_shape_55 : decode cX1_shape 55 = .ok (.ior, 1) := by decide +kernel
theorem dX1_shape_56 : decode cX1_shape 56 = .ok (.putfield 25, 3) := by decide +kernel
theorem dX1_shape_59 : decode cX1_shape 59 = .ok (.iinc 3 1, 3) := by decide +kernel
theorem dX1_shape_62 : decode cX1_shape 62 = .ok (.goto (-28), 3) := by decide +kernel
theorem dX1_shape_65 : decode cX1_shape 65 = .ok (.aload_n 0, 1) := by decide +kernel
theorem dX1_shape_66 : decode cX1_shape 66 = .ok (.aload_n 0, 1) := by decide +kernel
theorem dX1_shape_67 : decode cX1_shape 67 = .ok (.getfield 25, 3) := by decide +kernel
theorem dX1_shape_70 : decode cX1_shape 70 = .ok (.aload_n 0, 1) := by decide +kernel
theorem dX1_shape_71 : decode cX1_shape 71 = .ok (.getfield 19, 3) := by decide +kernel
theorem dX1_shape_74 : decode cX1_shape 74 = .ok (.iconst 1, 1) := by decide +kernel
theorem dX1_shape_75 : decode cX1_shape 75 = .ok (.isub, 1) := by decide +kernel
theorem dX1_shape_76 : decode cX1_shape 76 = .ok (.ishl, 1) := by decide +kernel
theorem dX1_shape_77 : decode cX1_shape 77 = .ok (.putfield 28, 3) := by decide +kernel
theorem dX1_shape_80 : decode cX1_shape 80 = .ok (.return_, 1) := by decide +kernel
theorem dX1_places_0 : decode cX1_places 0 = .ok (.aload_n 0, 1) := by decide +kernel
theorem dX1_places_1 : decode cX1_places 1 = .ok (.getfield 15, 3) := by decide +kernel
theorem dX1_places_4 : decode cX1_places 4 = .ok (.aload_n 0, 1) := by decide +kernel
theorem dX1_places_5 : decode cX1_places 5 = .ok (.getfield 19, 3) := by decide +kernel
theorem dX1_places_8 : decode cX1_places 8 = .ok (.imul, 1) := by decide +kernel
theorem dX1_places_9 : decode cX1_places 9 = .ok (.ireturn, 1) := by decide +kernel
set_option maxRecDepth 20000 in
theorem ggX1_hungerOf_X7_isMark : GoodIn wsX1_hungerOf wsX7_isMark := goodIn_r _ [4] (by decide +kernel) (by decide +kernel)
set_option maxRecDepth 20000 in
theorem gX1_hungerOf_X7_isMark_n31 : GoodIn wsX1_hungerOf (wsX7_isMark) := ggX1_hungerOf_X7_isMark
theorem dX1_hungerOf_0 : decode cX1_hungerOf 0 = .ok (.iload_n 1, 1) := by decide +kernel
theorem dX1_hungerOf_1 : decode cX1_hungerOf 1 = .ok (.invokestatic 31, 3) := by decide +kernel
theorem dX1_hungerOf_4 : decode cX1_hungerOf 4 = .ok (.ifCond .eq 12, 3) := by decide +kernel
theorem dX1_hungerOf_7 : decode cX1_hungerOf 7 = .ok (.aload_n 0, 1) := by decide +kernel
theorem dX1_hungerOf_8 : decode cX1_hungerOf 8 = .ok (.getfield 9, 3) := by decide +kernel
theorem dX1_hungerOf_11 : decode cX1_hungerOf 11 = .ok (.iload_n 1, 1) := by decide +kernel
theorem dX1_hungerOf_12 : decode cX1_hungerOf 12 = .ok (.iaload, 1) := by decide +kernel
theorem dX1_hungerOf_13 : decode cX1_hungerOf 13 = .ok (.goto 4, 3) := by decide +kernel
theorem dX1_hungerOf_16 : decode cX1_hungerOf 16 = .ok (.iconst 0, 1) := by decide +kernel
theorem dX1_hungerOf_17 : decode cX1_hungerOf 17 = .ok (.ireturn, 1) := by decide +kernel
set_option maxRecDepth 20000 in
theorem ggX1_copy_X1_shape : GoodIn wsX1_copy wsX1_shape := goodIn_r _ [12, 1, 2, 13, 14, 15, 16, 17, 18, 19, 20, 21] (by decide +kernel) (by decide +kernel)
set_option maxRecDepth 20000 in
theorem gX1_copy_X1_shape : GoodIn wsX1_copy (wsV RX1 35 RX1 yX1_shape wsX1_shape) := goodIn_app (goodIn_of _ (by decide +kernel)) ggX1_copy_X1_shape
theorem dX1_copy_0 : decode cX1_copy 0 = .ok (.aload_n 0, 1) := by decide +kernel
theorem dX1_copy_1 : decode cX1_copy 1 = .ok (.aload_n 1, 1) := by decide +kernel
theorem dX1_copy_2 : decode cX1_copy 2 = .ok (.getfield 15, 3) := by decide +kernel
theorem dX1_copy_5 : decode cX1_copy 5 = .ok (.aload_n 1, 1) := by decide +kernel
theorem dX1_copy_6 : decode cX1_copy 6 = .ok (.getfield 19, 3) := by decide +kernel
theorem dX1_copy_9 : decode cX1_copy 9 = .ok (.invokevirtual 35, 3) := by decide +kernel
theorem dX1_copy_12 : decode cX1_copy 12 = .ok (.aload_n 1, 1) := by decide +kernel
theorem dX1_copy_13 : decode cX1_copy 13 = .ok (.getfield 9, 3) := by decide +kernel
theorem dX1_copy_16 : decode cX1_copy 16 = .ok (.iconst 0, 1) := by decide +kernel
theorem dX1_copy_17 : decode cX1_copy 17 = .ok (.aload_n 0, 1) := by decide +kernel
theorem dX1_copy_18 : decode cX1_copy 18 = .ok (.getfield 9, 3) := by decide +kernel
theorem dX1_copy_21 : decode cX1_copy 21 = .ok (.iconst 0, 1) := by decide +kernel
theorem dX1_copy_22 : decode cX1_copy 22 = .ok (.bipush 6, 2) := by decide +kernel
theorem dX1_copy_24 : decode cX1_copy 24 = .ok (.invokestatic 39, 3) := by decide +kernel
theorem dX1_copy_27 : decode cX1_copy 27 = .ok (.return_, 1) := by decide +kernel
theorem dX1_step_0 : decode cX1_step 0 = .ok (.iload_n 1, 1) := by decide +kernel
theorem dX1_step_1 : decode cX1_step 1 = .ok (.tableswitch 57 0 2 #[27, 34, 46], 27) := by decide +kernel
theorem dX1_step_28 : decode cX1_step 28 = .ok (.iload_n 2, 1) := by decide +kernel
theorem dX1_step_29 : decode cX1_step 29 = .ok (.aload_n 0, 1) := by decide +kernel
theorem dX1_step_30 : decode cX1_step 30 = .ok (.getfield 19, 3) := by decide +kernel
theorem dX1_step_33 : decode cX1_step 33 = .ok (.iushr, 1) := by decide +kernel
theorem dX1_step_34 : decode cX1_step 34 = .ok (.ireturn, 1) := by decide +kernel
theorem dX1_step_35 : decode cX1_step 35 = .ok (.iload_n 2, 1) := by decide +kernel
theorem dX1_step_36 : decode cX1_step 36 = .ok (.aload_n 0, 1) := by decide +kernel
theorem dX1_step_37 : decode cX1_step 37 = .ok (.getfield 19, 3) := by decide +kernel
theorem dX1_step_40 : decode cX1_step 40 = .ok (.ishl, 1) := by decide +kernel
theorem dX1_step_41 : decode cX1_step 41 = .ok (.aload_n 0, 1) := by decide +kernel
theorem dX1_step_42 : decode cX1_step 42 = .ok (.getfield 22, 3) := by decide +kernel
theorem dX1_step_45 : decode cX1_step 45 = .ok (.iand, 1) := by decide +kernel
theorem dX1_step_46 : decode cX1_step 46 = .ok (.ireturn, 1) := by decide +kernel
theorem dX1_step_47 : decode cX1_step 47 = .ok (.iload_n 2, 1) := by decide +kernel
theorem dX1_step_48 : decode cX1_step 48 = .ok (.aload_n 0, 1) := by decide +kernel
theorem dX1_step_49 : decode cX1_step 49 = .ok (.getfield 28, 3) := by decide +kernel
theorem dX1_step_52 : decode cX1_step 52 = .ok (.iconst (-1), 1) := by decide +kernel
theorem dX1_step_53 : decode cX1_step 53 = .ok (.ixor, 1) := by decide +kernel
theorem dX1_step_54 : decode cX1_step 54 = .ok (.iand, 1) := by decide +kernel
theorem dX1_step_55 : decode cX1_step 55 = .ok (.iconst 1, 1) := by decide +kernel
theorem dX1_step_56 : decode cX1_step 56 = .ok (.ishl, 1) := by decide +kernel
theorem dX1_step_57 : decode cX1_step 57 = .ok (.ireturn, 1) := by decide +kernel
theorem dX1_step_58 : decode cX1_step 58 = .ok (.iload_n 2, 1) := by decide +kernel
theorem dX1_step_59 : decode cX1_step 59 = .ok (.aload_n 0, 1) := by decide +kernel
theorem dX1_step_60 : decode cX1_step 60 = .ok (.getfield 25, 3) := by decide +kernel
theorem dX1_step_63 : decode cX1_step 63 = .ok (.iconst (-1), 1) := by decide +kernel
theorem dX1_step_64 : decode cX1_step 64 = .ok (.ixor, 1) := by decide +kernel
theorem dX1_step_65 : decode cX1_step 65 = .ok (.iand, 1) := by decide +kernel
theorem dX1_step_66 : decode cX1_step 66 = .ok (.iconst 1, 1) := by decide +kernel
theorem dX1_step_67 : decode cX1_step 67 = .ok (.iushr, 1) := by decide +kernel
theorem dX1_step_68 : decode cX1_step 68 = .ok (.ireturn, 1) := by decide +kernel
set_option maxRecDepth 20000 in
theorem ggX1_beside_X1_step : GoodIn wsX1_beside wsX1_step := goodIn_r _ [5, 6, 7, 8, 9, 10, 11, 12, 13, 14, 15] (by decide +kernel) (by decide +kernel)
set_option maxRecDepth 20000 in
theorem gX1_beside_X1_step : GoodIn wsX1_beside (wsV RX1 45 RX1 yX1_step wsX1_step) := goodIn_app (goodIn_of _ (by decide +kernel)) ggX1_beside_X1_step
theorem dX1_beside_0 : decode cX1_beside 0 = .ok (.aload_n 0, 1) := by decide +kernel
theorem dX1_beside_1 : decode cX1_beside 1 = .ok (.iconst 0, 1) := by decide +kernel
theorem dX1_beside_2 : decode cX1_beside 2 = .ok (.iload_n 1, 1) := by decide +kernel
theorem dX1_beside_3 : decode cX1_beside 3 = .ok (.invokevirtual 45, 3) := by decide +kernel
theorem dX1_beside_6 : decode cX1_beside 6 = .ok (.aload_n 0, 1) := by decide +kernel
theorem dX1_beside_7 : decode cX1_beside 7 = .ok (.iconst 1, 1) := by decide +kernel
theorem dX1_beside_8 : decode cX1_beside 8 = .ok (.iload_n 1, 1) := by decide +kernel
theorem dX1_beside_9 : decode cX1_beside 9 = .ok (.invokevirtual 45, 3) := by decide +kernel
theorem dX1_beside_12 : decode cX1_beside 12 = .ok (.ior, 1) := by decide +kernel
theorem dX1_beside_13 : decode cX1_beside 13 = .ok (.aload_n 0, 1) := by decide +kernel
theorem dX1_beside_14 : decode cX1_beside 14 = .ok (.iconst 2, 1) := by decide +kernel
theorem dX1_beside_15 : decode cX1_beside 15 = .ok (.iload_n 1, 1) := by decide +kernel
theorem dX1_beside_16 : decode cX1_beside 16 = .ok (.invokevirtual 45, 3) := by decide +kernel
theorem dX1_beside_19 : decode cX1_beside 19 = .ok (.ior, 1) := by decide +kernel
theorem dX1_beside_20 : decode cX1_beside 20 = .ok (.aload_n 0, 1) := by decide +kernel
theorem dX1_beside_21 : decode cX1_beside 21 = .ok (.iconst 3, 1) := by decide +kernel
theorem dX1_beside_22 : decode cX1_beside 22 = .ok (.iload_n 1, 1) := by decide +kernel
theorem dX1_beside_23 : decode cX1_beside 23 = .ok (.invokevirtual 45, 3) := by decide +kernel
theorem dX1_beside_26 : decode cX1_beside 26 = .ok (.ior, 1) := by decide +kernel
theorem dX1_beside_27 : decode cX1_beside 27 = .ok (.ireturn, 1) := by decide +kernel
set_option maxRecDepth 20000 in
theorem ggX1_withinTwo_X1_step : GoodIn wsX1_withinTwo wsX1_step := goodIn_r _ [5, 6, 7, 8, 9, 10, 11, 12, 13, 14, 15] (by decide +kernel) (by decide +kernel)
set_option maxRecDepth 20000 in
theorem gX1_withinTwo_X1_step : GoodIn wsX1_withinTwo (wsV RX1 45 RX1 yX1_step wsX1_step) := goodIn_app (goodIn_of _ (by decide +kernel)) ggX1_withinTwo_X1_step
theorem dX1_withinTwo_0 : decode cX1_withinTwo 0 = .ok (.aload_n 0, 1) := by decide +kernel
theorem dX1_withinTwo_1 : decode cX1_withinTwo 1 = .ok (.iconst 0, 1) := by decide +kernel
theorem dX1_withinTwo_2 : decode cX1_withinTwo 2 = .ok (.iload_n 1, 1) := by decide +kernel
theorem dX1_withinTwo_3 : decode cX1_withinTwo 3 = .ok (.invokevirtual 45, 3) := by decide +kernel
theorem dX1_withinTwo_6 : decode cX1_withinTwo 6 = .ok (.istore_n 2, 1) := by decide +kernel
theorem dX1_withinTwo_7 : decode cX1_withinTwo 7 = .ok (.aload_n 0, 1) := by decide +kernel
theorem dX1_withinTwo_8 : decode cX1_withinTwo 8 = .ok (.iconst 1, 1) := by decide +kernel
theorem dX1_withinTwo_9 : decode cX1_withinTwo 9 = .ok (.iload_n 1, 1) := by decide +kernel
theorem dX1_withinTwo_10 : decode cX1_withinTwo 10 = .ok (.invokevirtual 45, 3) := by decide +kernel
theorem dX1_withinTwo_13 : decode cX1_withinTwo 13 = .ok (.istore_n 3, 1) := by decide +kernel
theorem dX1_withinTwo_14 : decode cX1_withinTwo 14 = .ok (.aload_n 0, 1) := by decide +kernel
theorem dX1_withinTwo_15 : decode cX1_withinTwo 15 = .ok (.iconst 2, 1) := by decide +kernel
theorem dX1_withinTwo_16 : decode cX1_withinTwo 16 = .ok (.iload_n 1, 1) := by decide +kernel
theorem dX1_withinTwo_17 : decode cX1_withinTwo 17 = .ok (.invokevirtual 45, 3) := by decide +kernel
theorem dX1_withinTwo_20 : decode cX1_withinTwo 20 = .ok (.istore 4, 2) := by decide +kernel
theorem dX1_withinTwo_22 : decode cX1_withinTwo 22 = .ok (.aload_n 0, 1) := by decide +kernel
theorem dX1_withinTwo_23 : decode cX1_withinTwo 23 = .ok (.iconst 3, 1) := by decide +kernel
theorem dX1_withinTwo_24 : decode cX1_withinTwo 24 = .ok (.iload_n 1, 1) := by decide +kernel
theorem dX1_withinTwo_25 : decode cX1_withinTwo 25 = .ok (.invokevirtual 45, 3) := by decide +kernel
theorem dX1_withinTwo_28 : decode cX1_withinTwo 28 = .ok (.istore 5, 2) := by decide +kernel
theorem dX1_withinTwo_30 : decode cX1_withinTwo 30 = .ok (.iload_n 2, 1) := by decide +kernel
theorem dX1_withinTwo_31 : decode cX1_withinTwo 31 = .ok (.iload_n 3, 1) := by decide +kernel
theorem dX1_withinTwo_32 : decode cX1_withinTwo 32 = .ok (.ior, 1) := by decide +kernel
theorem dX1_withinTwo_33 : decode cX1_withinTwo 33 = .ok (.iload 4, 2) := by decide +kernel
theorem dX1_withinTwo_35 : decode cX1_withinTwo 35 = .ok (.ior, 1) := by decide +kernel
theorem dX1_withinTwo_36 : decode cX1_withinTwo 36 = .ok (.iload 5, 2) := by decide +kernel
theorem dX1_withinTwo_38 : decode cX1_withinTwo 38 = .ok (.ior, 1) := by decide +kernel
theorem dX1_withinTwo_39 : decode cX1_withinTwo 39 = .ok (.aload_n 0, 1) := by decide +kernel
theorem dX1_withinTwo_40 : decode cX1_withinTwo 40 = .ok (.iconst 0, 1) := by decide +kernel
theorem dX1_withinTwo_41 : decode cX1_withinTwo 41 = .ok (.iload_n 2, 1) := by decide +kernel
theorem dX1_withinTwo_42 : decode cX1_withinTwo 42 = .ok (.invokevirtual 45, 3) := by decide +kernel
theorem dX1_withinTwo_45 : decode cX1_withinTwo 45 = .ok (.ior, 1) := by decide +kernel
theorem dX1_withinTwo_46 : decode cX1_withinTwo 46 = .ok (.aload_n 0, 1) := by decide +kernel
theorem dX1_withinTwo_47 : decode cX1_withinTwo 47 = .ok (.iconst 1, 1) := by decide +kernel
theorem dX1_withinTwo_48 : decode cX1_withinTwo 48 = .ok (.iload_n 3, 1) := by decide +kernel
theorem dX1_withinTwo_49 : decode cX1_withinTwo 49 = .ok (.invokevirtual 45, 3) := by decide +kernel
theorem dX1_withinTwo_52 : decode cX1_withinTwo 52 = .ok (.ior, 1) := by decide +kernel
theorem dX1_withinTwo_53 : decode cX1_withinTwo 53 = .ok (.aload_n 0, 1) := by decide +kernel
theorem dX1_withinTwo_54 : decode cX1_withinTwo 54 = .ok (.iconst 2, 1) := by decide +kernel
theorem dX1_withinTwo_55 : decode cX1_withinTwo 55 = .ok (.iload 4, 2) := by decide +kernel
theorem dX1_withinTwo_57 : decode cX1_withinTwo 57 = .ok (.iload_n 2, 1) := by decide +kernel
theorem dX1_withinTwo_58 : decode cX1_withinTwo 58 = .ok (.ior, 1) := by decide +kernel
theorem dX1_withinTwo_59 : decode cX1_withinTwo 59 = .ok (.iload_n 3, 1) := by decide +kernel
theorem dX1_withinTwo_60 : decode cX1_withinTwo 60 = .ok (.ior, 1) := by decide +kernel
theorem dX1_withinTwo_61 : decode cX1_withinTwo 61 = .ok (.invokevirtual 45, 3) := by decide +kernel
theorem dX1_withinTwo_64 : decode cX1_withinTwo 64 = .ok (.ior, 1) := by decide +kernel
theorem dX1_withinTwo_65 : decode cX1_withinTwo 65 = .ok (.aload_n 0, 1) := by decide +kernel
theorem dX1_withinTwo_66 : decode cX1_withinTwo 66 = .ok (.iconst 3, 1) := by decide +kernel
theorem dX1_withinTwo_67 : decode cX1_withinTwo 67 = .ok (.iload 5, 2) := by decide +kernel
theorem dX1_withinTwo_69 : decode cX1_withinTwo 69 = .ok (.iload_n 2, 1) := by decide +kernel
theorem dX1_withinTwo_70 : decode cX1_withinTwo 70 = .ok (.ior, 1) := by decide +kernel
theorem dX1_withinTwo_71 : decode cX1_withinTwo 71 = .ok (.iload_n 3, 1) := by decide +kernel
theorem dX1_withinTwo_72 : decode cX1_withinTwo 72 = .ok (.ior, 1) := by decide +kernel
theorem dX1_withinTwo_73 : decode cX1_withinTwo 73 = .ok (.invokevirtual 45, 3) := by decide +kernel
theorem dX1_withinTwo_76 : decode cX1_withinTwo 76 = .ok (.ior, 1) := by decide +kernel
theorem dX1_withinTwo_77 : decode cX1_withinTwo 77 = .ok (.ireturn, 1) := by decide +kernel
set_option maxRecDepth 20000 in
theorem ggX1_elsewhere_J6_bitCount_0f7a4 : GoodIn wsX1_elsewhere wsJ6_bitCount_0f7a4 := goodIn_r _ [5, 6, 7, 8] (by decide +kernel) (by decide +kernel)
set_option maxRecDepth 20000 in
theorem gX1_elsewhere_J6_bitCount_0f7a4 : GoodIn wsX1_elsewhere (va_wsS RX1 49 yJ6_bitCount_0f7a4 wsJ6_bitCount_0f7a4) := goodIn_app (goodIn_of _ (by decide +kernel)) ggX1_elsewhere_J6_bitCount_0f7a4
theorem dX1_elsewhere_0 : decode cX1_elsewhere 0 = .ok (.iload_n 1, 1) := by decide +kernel
theorem dX1_elsewhere_1 : decode cX1_elsewhere 1 = .ok (.ifCond .ne 5, 3) := by decide +kernel
theorem dX1_elsewhere_4 : decode cX1_elsewhere 4 = .ok (.iconst 0, 1) := by decide +kernel
theorem dX1_elsewhere_5 : decode cX1_elsewhere 5 = .ok (.ireturn, 1) := by decide +kernel
theorem dX1_elsewhere_6 : decode cX1_elsewhere 6 = .ok (.iload_n 1, 1) := by decide +kernel
theorem dX1_elsewhere_7 : decode cX1_elsewhere 7 = .ok (.invokestatic 49, 3) := by decide +kernel
theorem dX1_elsewhere_10 : decode cX1_elsewhere 10 = .ok (.iconst 1, 1) := by decide +kernel
theorem dX1_elsewhere_11 : decode cX1_elsewhere 11 = .ok (.if_icmp .ne 14, 3) := by decide +kernel
theorem dX1_elsewhere_14 : decode cX1_elsewhere 14 = .ok (.aload_n 0, 1) := by decide +kernel
theorem dX1_elsewhere_15 : decode cX1_elsewhere 15 = .ok (.getfield 22, 3) := by decide +kernel
theorem dX1_elsewhere_18 : decode cX1_elsewhere 18 = .ok (.iload_n 1, 1) := by decide +kernel
theorem dX1_elsewhere_19 : decode cX1_elsewhere 19 = .ok (.iconst (-1), 1) := by decide +kernel
theorem dX1_elsewhere_20 : decode cX1_elsewhere 20 = .ok (.ixor, 1) := by decide +kernel
theorem dX1_elsewhere_21 : decode cX1_elsewhere 21 = .ok (.iand, 1) := by decide +kernel
theorem dX1_elsewhere_22 : decode cX1_elsewhere 22 = .ok (.goto 7, 3) := by decide +kernel
theorem dX1_elsewhere_25 : decode cX1_elsewhere 25 = .ok (.aload_n 0, 1) := by decide +kernel
theorem dX1_elsewhere_26 : decode cX1_elsewhere 26 = .ok (.getfield 22, 3) := by decide +kernel
theorem dX1_elsewhere_29 : decode cX1_elsewhere 29 = .ok (.ireturn, 1) := by decide +kernel
set_option maxRecDepth 20000 in
theorem ggX1_reach_X1_withinTwo : GoodIn wsX1_reach wsX1_withinTwo := goodIn_r _ [5, 6, 7, 8, 4, 9, 10, 11, 12, 13, 29, 30, 31, 32, 33, 34] (by decide +kernel) (by decide +kernel)
set_option maxRecDepth 20000 in
theorem gX1_reach_X1_withinTwo : GoodIn wsX1_reach (wsV RX1 55 RX1 yX1_withinTwo wsX1_withinTwo) := goodIn_app (goodIn_of _ (by decide +kernel)) ggX1_reach_X1_withinTwo
set_option maxRecDepth 20000 in
theorem ggX1_reach_X1_elsewhere : GoodIn wsX1_reach wsX1_elsewhere := goodIn_r _ [17, 11, 18, 19, 20, 21, 22, 23, 24, 29, 30, 31, 32, 33, 34] (by decide +kernel) (by decide +kernel)
set_option maxRecDepth 20000 in
theorem gX1_reach_X1_elsewhere : GoodIn wsX1_reach (wsV RX1 58 RX1 yX1_elsewhere wsX1_elsewhere) := goodIn_app (goodIn_of _ (by decide +kernel)) ggX1_reach_X1_elsewhere
set_option maxRecDepth 20000 in
theorem ggX1_reach_X1_beside : GoodIn wsX1_reach wsX1_beside := goodIn_r _ [28, 6, 7, 8, 4, 9, 10, 11, 12, 13, 29, 30, 31, 32, 33, 34] (by decide +kernel) (by decide +kernel)
set_option maxRecDepth 20000 in
theorem gX1_reach_X1_beside : GoodIn wsX1_reach (wsV RX1 61 RX1 yX1_beside wsX1_beside) := goodIn_app (goodIn_of _ (by decide +kernel)) ggX1_reach_X1_beside
theorem dX1_reach_0 : decode cX1_reach 0 = .ok (.iload_n 1, 1) := by decide +kernel
theorem dX1_reach_1 : decode cX1_reach 1 = .ok (.lookupswitch 39 #[(2, 27), (3, 33)], 27) := by decide +kernel
theorem dX1_reach_28 : decode cX1_reach 28 = .ok (.aload_n 0, 1) := by decide +kernel
theorem dX1_reach_29 : decode cX1_reach 29 = .ok (.iload_n 2, 1) := by decide +kernel
theorem dX1_reach_30 : decode cX1_reach 30 = .ok (.invokevirtual 55, 3) := by decide +kernel
theorem dX1_reach_33 : decode cX1_reach 33 = .ok (.ireturn, 1) := by decide +kernel
theorem dX1_reach_34 : decode cX1_reach 34 = .ok (.aload_n 0, 1) := by decide +kernel
theorem dX1_reach_35 : decode cX1_reach 35 = .ok (.iload_n 2, 1) := by decide +kernel
theorem dX1_reach_36 : decode cX1_reach 36 = .ok (.invokevirtual 58, 3) := by decide +kernel
theorem dX1_reach_39 : decode cX1_reach 39 = .ok (.ireturn, 1) := by decide +kernel
theorem dX1_reach_40 : decode cX1_reach 40 = .ok (.aload_n 0, 1) := by decide +kernel
theorem dX1_reach_41 : decode cX1_reach 41 = .ok (.iload_n 2, 1) := by decide +kernel
theorem dX1_reach_42 : decode cX1_reach 42 = .ok (.invokevirtual 61, 3) := by decide +kernel
theorem dX1_reach_45 : decode cX1_reach 45 = .ok (.ireturn, 1) := by decide +kernel
set_option maxRecDepth 20000 in
theorem ggX2_init_X5_init : GoodIn wsX2_init wsX5_init := goodIn_r _ [13, 14, 2, 3, 15, 16, 17, 18, 19, 22, 23, 24, 25, 26] (by decide +kernel) (by decide +kernel)
set_option maxRecDepth 20000 in
theorem gX2_init_X5_init_n21 : GoodIn wsX2_init (wsX5_init) := ggX2_init_X5_init
theorem dX2_init_0 : decode cX2_init 0 = .ok (.aload_n 0, 1) := by decide +kernel
theorem dX2_init_1 : decode cX2_init 1 = .ok (.invokespecial 1, 3) := by decide +kernel
theorem dX2_init_4 : decode cX2_init 4 = .ok (.aload_n 0, 1) := by decide +kernel
theorem dX2_init_5 : decode cX2_init 5 = .ok (.iload_n 1, 1) := by decide +kernel
theorem dX2_init_6 : decode cX2_init 6 = .ok (.iconst 1, 1) := by decide +kernel
theorem dX2_init_7 : decode cX2_init 7 = .ok (.invokestatic 7, 3) := by decide +kernel
theorem dX2_init_10 : decode cX2_init 10 = .ok (.anewarray 13, 3) := by decide +kernel
theorem dX2_init_13 : decode cX2_init 13 = .ok (.putfield 15, 3) := by decide +kernel
theorem dX2_init_16 : decode cX2_init 16 = .ok (.iconst 0, 1) := by decide +kernel
theorem dX2_init_17 : decode cX2_init 17 = .ok (.istore_n 2, 1) := by decide +kernel
theorem dX2_init_18 : decode cX2_init 18 = .ok (.iload_n 2, 1) := by decide +kernel
theorem dX2_init_19 : decode cX2_init 19 = .ok (.aload_n 0, 1) := by decide +kernel
theorem dX2_init_20 : decode cX2_init 20 = .ok (.getfield 15, 3) := by decide +kernel
theorem dX2_init_23 : decode cX2_init 23 = .ok (.arraylength, 1) := by decide +kernel
theorem dX2_init_24 : decode cX2_init 24 = .ok (.if_icmp .ge 22, 3) := by decide +kernel
theorem dX2_init_27 : decode cX2_init 27 = .ok (.aload_n 0, 1) := by decide +kernel
theorem dX2_init_28 : decode cX2_init 28 = .ok (.getfield 15, 3) := by decide +kernel
theorem dX2_init_31 : decode cX2_init 31 = .ok (.iload_n 2, 1) := by decide +kernel
theorem dX2_init_32 : decode cX2_init 32 = .ok (.new 13, 3) := by decide +kernel
theorem dX2_init_35 : decode cX2_init 35 = .ok (.dup, 1) := by decide +kernel
theorem dX2_init_36 : decode cX2_init 36 = .ok (.invokespecial 21, 3) := by decide +kernel
theorem dX2_init_39 : decode cX2_init 39 = .ok (.aastore, 1) := by decide +kernel
theorem dX2_init_40 : decode cX2_init 40 = .ok (.iinc 2 1, 3) := by decide +kernel
theorem dX2_init_43 : decode cX2_init 43 = .ok (.goto (-25), 3) := by decide +kernel
theorem dX2_init_46 : decode cX2_init 46 = .ok (.return_, 1) := by decide +kernel
theorem dX2_clear_0 : decode cX2_clear 0 = .ok (.aload_n 0, 1) := by decide +kernel
theorem dX2_clear_1 : decode cX2_clear 1 = .ok (.iconst 0, 1) := by decide +kernel
theorem dX2_clear_2 : decode cX2_clear 2 = .ok (.putfield 22, 3) := by decide +kernel
theorem dX2_clear_5 : decode cX2_clear 5 = .ok (.return_, 1) := by decide +kernel
set_option maxRecDepth 20000 in
theorem ggX2_push_X2_turnOldestUp : GoodIn wsX2_push wsX2_turnOldestUp := goodIn_r _ [7, 2, 22, 23] (by decide +kernel) (by decide +kernel)
set_option maxRecDepth 20000 in
theorem gX2_push_X2_turnOldestUp : GoodIn wsX2_push (wsV RX2 26 RX2 yX2_turnOldestUp wsX2_turnOldestUp) := goodIn_app (goodIn_of _ (by decide +kernel)) ggX2_push_X2_turnOldestUp
set_option maxRecDepth 20000 in
theorem ggX2_push_X5_copy : GoodIn wsX2_push wsX5_copy := goodIn_r _ [12, 13, 14, 15, 16, 17, 18, 19, 20, 21, 24, 25, 26, 27, 28] (by decide +kernel) (by decide +kernel)
set_option maxRecDepth 20000 in
theorem gX2_push_X5_copy : GoodIn wsX2_push (wsV RX2 29 RX5 yX5_copy wsX5_copy) := goodIn_app (goodIn_of _ (by decide +kernel)) ggX2_push_X5_copy
theorem dX2_push_0 : decode cX2_push 0 = .ok (.aload_n 0, 1) := by decide +kernel
theorem dX2_push_1 : decode cX2_push 1 = .ok (.getfield 22, 3) := by decide +kernel
theorem dX2_push_4 : decode cX2_push 4 = .ok (.aload_n 0, 1) := by decide +kernel
theorem dX2_push_5 : decode cX2_push 5 = .ok (.getfield 15, 3) := by decide +kernel
theorem dX2_push_8 : decode cX2_push 8 = .ok (.arraylength, 1) := by decide +kernel
theorem dX2_push_9 : decode cX2_push 9 = .ok (.if_icmp .lt 18, 3) := by decide +kernel
theorem dX2_push_12 : decode cX2_push 12 = .ok (.aload_n 0, 1) := by decide +kernel
theorem dX2_push_13 : decode cX2_push 13 = .ok (.invokevirtual 26, 3) := by decide +kernel
theorem dX2_push_16 : decode cX2_push 16 = .ok (.aload_n 0, 1) := by decide +kernel
theorem dX2_push_17 : decode cX2_push 17 = .ok (.aload_n 0, 1) := by decide +kernel
theorem dX2_push_18 : decode cX2_push 18 = .ok (.getfield 15, 3) := by decide +kernel
theorem dX2_push_21 : decode cX2_push 21 = .ok (.arraylength, 1) := by decide +kernel
theorem dX2_push_22 : decode cX2_push 22 = .ok (.iconst 1, 1) := by decide +kernel
theorem dX2_push_23 : decode cX2_push 23 = .ok (.isub, 1) := by decide +kernel
theorem dX2_push_24 : decode cX2_push 24 = .ok (.putfield 22, 3) := by decide +kernel
theorem dX2_push_27 : decode cX2_push 27 = .ok (.aload_n 0, 1) := by decide +kernel
theorem dX2_push_28 : decode cX2_push 28 = .ok (.getfield 15, 3) := by decide +kernel
theorem dX2_push_31 : decode cX2_push 31 = .ok (.aload_n 0, 1) := by decide +kernel
theorem dX2_push_32 : decode cX2_push 32 = .ok (.getfield 22, 3) := by decide +kernel
theorem dX2_push_35 : decode cX2_push 35 = .ok (.aaload, 1) := by decide +kernel
theorem dX2_push_36 : decode cX2_push 36 = .ok (.aload_n 1, 1) := by decide +kernel
theorem dX2_push_37 : decode cX2_push 37 = .ok (.invokevirtual 29, 3) := by decide +kernel
theorem dX2_push_40 : decode cX2_push 40 = .ok (.aload_n 0, 1) := by decide +kernel
theorem dX2_push_41 : decode cX2_push 41 = .ok (.dup, 1) := by decide +kernel
theorem dX2_push_42 : decode cX2_push 42 = .ok (.getfield 22, 3) := by decide +kernel
theorem dX2_push_45 : decode cX2_push 45 = .ok (.iconst 1, 1) := by decide +kernel
theorem dX2_push_46 : decode cX2_push 46 = .ok (.iadd, 1) := by decide +kernel
theorem dX2_push_47 : decode cX2_push 47 = .ok (.putfield 22, 3) := by decide +kernel
theorem dX2_push_50 : decode cX2_push 50 = .ok (.return_, 1) := by decide +kernel
set_option maxRecDepth 20000 in
theorem ggX2_pop_X5_copy : GoodIn wsX2_pop wsX5_copy := goodIn_r _ [7, 8, 9, 10, 11, 12, 13, 14, 15, 16, 19, 20, 21, 22, 23] (by decide +kernel) (by decide +kernel)
set_option maxRecDepth 20000 in
theorem gX2_pop_X5_copy : GoodIn wsX2_pop (wsV RX2 29 RX5 yX5_copy wsX5_copy) := goodIn_app (goodIn_of _ (by decide +kernel)) ggX2_pop_X5_copy
theorem dX2_pop_0 : decode cX2_pop 0 = .ok (.aload_n 0, 1) := by decide +kernel
theorem dX2_pop_1 : decode cX2_pop 1 = .ok (.getfield 22, 3) := by decide +kernel
theorem dX2_pop_4 : decode cX2_pop 4 = .ok (.ifCond .le 15, 3) := by decide +kernel
theorem dX2_pop_7 : decode cX2_pop 7 = .ok (.aload_n 0, 1) := by decide +kernel
theorem dX2_pop_8 : decode cX2_pop 8 = .ok (.getfield 22, 3) := by decide +kernel
theorem dX2_pop_11 : decode cX2_pop 11 = .ok (.aload_n 0, 1) := by decide +kernel
theorem dX2_pop_12 : decode cX2_pop 12 = .ok (.getfield 15, 3) := by decide +kernel
theorem dX2_pop_15 : decode cX2_pop 15 = .ok (.arraylength, 1) := by decide +kernel
theorem dX2_pop_16 : decode cX2_pop 16 = .ok (.if_icmp .le 5, 3) := by decide +kernel
theorem dX2_pop_19 : decode cX2_pop 19 = .ok (.iconst 0, 1) := by decide +kernel
theorem dX2_pop_20 : decode cX2_pop 20 = .ok (.ireturn, 1) := by decide +kernel
theorem dX2_pop_21 : decode cX2_pop 21 = .ok (.aload_n 0, 1) := by decide +kernel
theorem dX2_pop_22 : decode cX2_pop 22 = .ok (.dup, 1) := by decide +kernel
theorem dX2_pop_23 : decode cX2_pop 23 = .ok (.getfield 22, 3) := by decide +kernel
theorem dX2_pop_26 : decode cX2_pop 26 = .ok (.iconst 1, 1) := by decide +kernel
theorem dX2_pop_27 : decode cX2_pop 27 = .ok (.isub, 1) := by decide +kernel
theorem dX2_pop_28 : decode cX2_pop 28 = .ok (.putfield 22, 3) := by decide +kernel
theorem dX2_pop_31 : decode cX2_pop 31 = .ok (.aload_n 1, 1) := by decide +kernel
theorem dX2_pop_32 : decode cX2_pop 32 = .ok (.aload_n 0, 1) := by decide +kernel
theorem dX2_pop_33 : decode cX2_pop 33 = .ok (.getfield 15, 3) := by decide +kernel
theorem dX2_pop_36 : decode cX2_pop 36 = .ok (.aload_n 0, 1) := by decide +kernel
theorem dX2_pop_37 : decode cX2_pop 37 = .ok (.getfield 22, 3) := by decide +kernel
theorem dX2_pop_40 : decode cX2_pop 40 = .ok (.aaload, 1) := by decide +kernel
theorem dX2_pop_41 : decode cX2_pop 41 = .ok (.invokevirtual 29, 3) := by decide +kernel
theorem dX2_pop_44 : decode cX2_pop 44 = .ok (.iconst 1, 1) := by decide +kernel
theorem dX2_pop_45 : decode cX2_pop 45 = .ok (.ireturn, 1) := by decide +kernel
theorem dX2_turnOldestUp_0 : decode cX2_turnOldestUp 0 = .ok (.aload_n 0, 1) := by decide +kernel
theorem dX2_turnOldestUp_1 : decode cX2_turnOldestUp 1 = .ok (.getfield 15, 3) := by decide +kernel
theorem dX2_turnOldestUp_4 : decode cX2_turnOldestUp 4 = .ok (.iconst 0, 1) := by decide +kernel
theorem dX2_turnOldestUp_5 : decode cX2_turnOldestUp 5 = .ok (.aaload, 1) := by decide +kernel
theorem dX2_turnOldestUp_6 : decode cX2_turnOldestUp 6 = .ok (.astore_n 1, 1) := by decide +kernel
theorem dX2_turnOldestUp_7 : decode cX2_turnOldestUp 7 = .ok (.iconst 1, 1) := by decide +kernel
theorem dX2_turnOldestUp_8 : decode cX2_turnOldestUp 8 = .ok (.istore_n 2, 1) := by decide +kernel
theorem dX2_turnOldestUp_9 : decode cX2_turnOldestUp 9 = .ok (.iload_n 2, 1) := by decide +kernel
theorem dX2_turnOldestUp_10 : decode cX2_turnOldestUp 10 = .ok (.aload_n 0, 1) := by decide +kernel
theorem dX2_turnOldestUp_11 : decode cX2_turnOldestUp 11 = .ok (.getfield 15, 3) := by decide +kernel
theorem dX2_turnOldestUp_14 : decode cX2_turnOldestUp 14 = .ok (.arraylength, 1) := by decide +kernel
theorem dX2_turnOldestUp_15 : decode cX2_turnOldestUp 15 = .ok (.if_icmp .ge 23, 3) := by decide +kernel
theorem dX2_turnOldestUp_18 : decode cX2_turnOldestUp 18 = .ok (.aload_n 0, 1) := by decide +kernel
theorem dX2_turnOldestUp_19 : decode cX2_turnOldestUp 19 = .ok (.getfield 15, 3) := by decide +kernel
theorem dX2_turnOldestUp_22 : decode cX2_turnOldestUp 22 = .ok (.iload_n 2, 1) := by decide +kernel
theorem dX2_turnOldestUp_23 : decode cX2_turnOldestUp 23 = .ok (.iconst 1, 1) := by decide +kernel
theorem dX2_turnOldestUp_24 : decode cX2_turnOldestUp 24 = .ok (.isub, 1) := by decide +kernel
theorem dX2_turnOldestUp_25 : decode cX2_turnOldestUp 25 = .ok (.aload_n 0, 1) := by decide +kernel
theorem dX2_turnOldestUp_26 : decode cX2_turnOldestUp 26 = .ok (.getfield 15, 3) := by decide +kernel
theorem dX2_turnOldestUp_29 : decode cX2_turnOldestUp 29 = .ok (.iload_n 2, 1) := by decide +kernel
theorem dX2_turnOldestUp_30 : decode cX2_turnOldestUp 30 = .ok (.aaload, 1) := by decide +kernel
theorem dX2_turnOldestUp_31 : decode cX2_turnOldestUp 31 = .ok (.aastore, 1) := by decide +kernel
theorem dX2_turnOldestUp_32 : decode cX2_turnOldestUp 32 = .ok (.iinc 2 1, 3) := by decide +kernel
theorem dX2_turnOldestUp_35 : decode cX2_turnOldestUp 35 = .ok (.goto (-26), 3) := by decide +kernel
theorem dX2_turnOldestUp_38 : decode cX2_turnOldestUp 38 = .ok (.aload_n 0, 1) := by decide +kernel
theorem dX2_turnOldestUp_39 : decode cX2_turnOldestUp 39 = .ok (.getfield 15, 3) := by decide +kernel
theorem dX2_turnOldestUp_42 : decode cX2_turnOldestUp 42 = .ok (.aload_n 0, 1) := by decide +kernel
theorem dX2_turnOldestUp_43 : decode cX2_turnOldestUp 43 = .ok (.getfield 15, 3) := by decide +kernel
theorem dX2_turnOldestUp_46 : decode cX2_turnOldestUp 46 = .ok (.arraylength, 1) := by decide +kernel
theorem dX2_turnOldestUp_47 : decode cX2_turnOldestUp 47 = .ok (.iconst 1, 1) := by decide +kernel
theorem dX2_turnOldestUp_48 : decode cX2_turnOldestUp 48 = .ok (.isub, 1) := by decide +kernel
theorem dX2_turnOldestUp_49 : decode cX2_turnOldestUp 49 = .ok (.aload_n 1, 1) := by decide +kernel
theorem dX2_turnOldestUp_50 : decode cX2_turnOldestUp 50 = .ok (.aastore, 1) := by decide +kernel
theorem dX2_turnOldestUp_51 : decode cX2_turnOldestUp 51 = .ok (.return_, 1) := by decide +kernel
set_option maxRecDepth 20000 in
theorem ggX3_init_X1_init : GoodIn wsX3_init wsX1_init := goodIn_r _ [15, 16, 2, 3, 17, 18, 34, 35, 36, 37, 38, 39] (by decide +kernel) (by decide +kernel)
set_option maxRecDepth 20000 in
theorem gX3_init_X1_init_n17 : GoodIn wsX3_init (wsX1_init) := ggX3_init_X1_init
set_option maxRecDepth 20000 in
theorem ggX3_init_X5_init : GoodIn wsX3_init wsX5_init := goodIn_r _ [20, 21, 2, 3, 17, 22, 23, 24, 25, 40, 41, 42, 43, 44] (by decide +kernel) (by decide +kernel)
set_option maxRecDepth 20000 in
theorem gX3_init_X5_init_n24 : GoodIn wsX3_init (wsX5_init) := ggX3_init_X5_init
theorem dX3_init_0 : decode cX3_init 0 = .ok (.aload_n 0, 1) := by decide +kernel
theorem dX3_init_1 : decode cX3_init 1 = .ok (.invokespecial 3, 3) := by decide +kernel
theorem dX3_init_4 : decode cX3_init 4 = .ok (.aload_n 0, 1) := by decide +kernel
theorem dX3_init_5 : decode cX3_init 5 = .ok (.sipush 200, 3) := by decide +kernel
theorem dX3_init_8 : decode cX3_init 8 = .ok (.newarray .char, 2) := by decide +kernel
theorem dX3_init_10 : decode cX3_init 10 = .ok (.putfield 9, 3) := by decide +kernel
theorem dX3_init_13 : decode cX3_init 13 = .ok (.aload_n 0, 1) := by decide +kernel
theorem dX3_init_14 : decode cX3_init 14 = .ok (.new 15, 3) := by decide +kernel
theorem dX3_init_17 : decode cX3_init 17 = .ok (.dup, 1) := by decide +kernel
theorem dX3_init_18 : decode cX3_init 18 = .ok (.invokespecial 17, 3) := by decide +kernel
theorem dX3_init_21 : decode cX3_init 21 = .ok (.putfield 18, 3) := by decide +kernel
theorem dX3_init_24 : decode cX3_init 24 = .ok (.aload_n 0, 1) := by decide +kernel
theorem dX3_init_25 : decode cX3_init 25 = .ok (.new 22, 3) := by decide +kernel
theorem dX3_init_28 : decode cX3_init 28 = .ok (.dup, 1) := by decide +kernel
theorem dX3_init_29 : decode cX3_init 29 = .ok (.invokespecial 24, 3) := by decide +kernel
theorem dX3_init_32 : decode cX3_init 32 = .ok (.putfield 25, 3) := by decide +kernel
theorem dX3_init_35 : decode cX3_init 35 = .ok (.return_, 1) := by decide +kernel
theorem dX3_put_0 : decode cX3_put 0 = .ok (.aload_n 0, 1) := by decide +kernel
theorem dX3_put_1 : decode cX3_put 1 = .ok (.getfield 29, 3) := by decide +kernel
theorem dX3_put_4 : decode cX3_put 4 = .ok (.ifCond .lt 13, 3) := by decide +kernel
theorem dX3_put_7 : decode cX3_put 7 = .ok (.aload_n 0, 1) := by decide +kernel
theorem dX3_put_8 : decode cX3_put 8 = .ok (.getfield 29, 3) := by decide +kernel
theorem dX3_put_11 : decode cX3_put 11 = .ok (.sipush 200, 3) := by decide +kernel
theorem dX3_put_14 : decode cX3_put 14 = .ok (.if_icmp .lt 5, 3) := by decide +kernel
theorem dX3_put_17 : decode cX3_put 17 = .ok (.iconst 0, 1) := by decide +kernel
theorem dX3_put_18 : decode cX3_put 18 = .ok (.ireturn, 1) := by decide +kernel
theorem dX3_put_19 : decode cX3_put 19 = .ok (.aload_n 0, 1) := by decide +kernel
theorem dX3_put_20 : decode cX3_put 20 = .ok (.getfield 9, 3) := by decide +kernel
theorem dX3_put_23 : decode cX3_put 23 = .ok (.aload_n 0, 1) := by decide +kernel
theorem dX3_put_24 : decode cX3_put 24 = .ok (.getfield 29, 3) := by decide +kernel
theorem dX3_put_27 : decode cX3_put 27 = .ok (.iload_n 1, 1) := by decide +kernel
theorem dX3_put_28 : decode cX3_put 28 = .ok (.castore, 1) := by decide +kernel
theorem dX3_put_29 : decode cX3_put 29 = .ok (.aload_n 0, 1) := by decide +kernel
theorem dX3_put_30 : decode cX3_put 30 = .ok (.dup, 1) := by decide +kernel
theorem dX3_put_31 : decode cX3_put 31 = .ok (.getfield 29, 3) := by decide +kernel
theorem dX3_put_34 : decode cX3_put 34 = .ok (.iconst 1, 1) := by decide +kernel
theorem dX3_put_35 : decode cX3_put 35 = .ok (.iadd, 1) := by decide +kernel
theorem dX3_put_36 : decode cX3_put 36 = .ok (.putfield 29, 3) := by decide +kernel
theorem dX3_put_39 : decode cX3_put 39 = .ok (.iconst 1, 1) := by decide +kernel
theorem dX3_put_40 : decode cX3_put 40 = .ok (.ireturn, 1) := by decide +kernel
theorem dX3_clear_0 : decode cX3_clear 0 = .ok (.aload_n 0, 1) := by decide +kernel
theorem dX3_clear_1 : decode cX3_clear 1 = .ok (.iconst 0, 1) := by decide +kernel
theorem dX3_clear_2 : decode cX3_clear 2 = .ok (.putfield 29, 3) := by decide +kernel
theorem dX3_clear_5 : decode cX3_clear 5 = .ok (.return_, 1) := by decide +kernel
set_option maxRecDepth 20000 in
theorem ggX3_read_X1_shape : GoodIn wsX3_read wsX1_shape := goodIn_r _ [11, 12, 13, 14, 15, 16, 96, 97, 98, 99, 100, 101] (by decide +kernel) (by decide +kernel)
set_option maxRecDepth 20000 in
theorem gX3_read_X1_shape : GoodIn wsX3_read (wsV RX3 40 RX1 yX1_shape wsX1_shape) := goodIn_app (goodIn_of _ (by decide +kernel)) ggX3_read_X1_shape
set_option maxRecDepth 20000 in
theorem ggX3_read_X5_clear : GoodIn wsX3_read wsX5_clear := goodIn_r _ [21, 22, 23, 102, 103, 104, 105, 106] (by decide +kernel) (by decide +kernel)
set_option maxRecDepth 20000 in
theorem gX3_read_X5_clear : GoodIn wsX3_read (wsV RX3 48 RX5 yX5_clear wsX5_clear) := goodIn_app (goodIn_of _ (by decide +kernel)) ggX3_read_X5_clear
set_option maxRecDepth 20000 in
theorem ggX3_read_X3_readItem : GoodIn wsX3_read wsX3_readItem := goodIn_r _ [28, 2, 29, 30, 31, 27, 32, 1, 33, 34, 35, 36, 6, 37, 38, 39, 40, 41, 42, 43, 44, 45, 46, 47, 48, 49, 50, 51, 52, 53, 54, 3, 7, 8, 9, 10, 11, 12, 13, 14, 15, 16, 55, 56, 57, 58, 5, 59, 60, 61, 62, 63, 64, 65, 66, 67, 68, 69, 70, 4, 71, 72, 73, 74, 75, 76, 77, 78, 79, 20, 80, 23, 81, 82, 83, 84, 85, 86, 87, 88, 89, 90, 91, 92, 93, 94, 95, 96, 97, 98, 99, 100, 101, 102, 103, 104, 105, 106] (by decide +kernel) (by decide +kernel)
set_option maxRecDepth 20000 in
theorem gX3_read_X3_readItem : GoodIn wsX3_read (wsV RX3 51 RX3 yX3_readItem wsX3_readItem) := goodIn_app (goodIn_of _ (by decide +kernel)) ggX3_read_X3_readItem
theorem dX3_read_0 : decode cX3_read 0 = .ok (.aload_n 0, 1) := by decide +kernel
theorem dX3_read_1 : decode cX3_read 1 = .ok (.iconst 0, 1) := by decide +kernel
theorem dX3_read_2 : decode cX3_read 2 = .ok (.putfield 33, 3) := by decide +kernel
theorem dX3_read_5 : decode cX3_read 5 = .ok (.aload_n 0, 1) := by decide +kernel
theorem dX3_read_6 : decode cX3_read 6 = .ok (.iconst 1, 1) := by decide +kernel
theorem dX3_read_7 : decode cX3_read 7 = .ok (.putfield 36, 3) := by decide +kernel
theorem dX3_read_10 : decode cX3_read 10 = .ok (.aload_n 0, 1) := by decide +kernel
theorem dX3_read_11 : decode cX3_read 11 = .ok (.getfield 18, 3) := by decide +kernel
theorem dX3_read_14 : decode cX3_read 14 = .ok (.iconst 4, 1) := by decide +kernel
theorem dX3_read_15 : decode cX3_read 15 = .ok (.iconst 4, 1) := by decide +kernel
theorem dX3_read_16 : decode cX3_read 16 = .ok (.invokevirtual 40, 3) := by decide +kernel
theorem dX3_read_19 : decode cX3_read 19 = .ok (.iconst 0, 1) := by decide +kernel
theorem dX3_read_20 : decode cX3_read 20 = .ok (.istore_n 1, 1) := by decide +kernel
theorem dX3_read_21 : decode cX3_read 21 = .ok (.iload_n 1, 1) := by decide +kernel
theorem dX3_read_22 : decode cX3_read 22 = .ok (.bipush 6, 2) := by decide +kernel
theorem dX3_read_24 : decode cX3_read 24 = .ok (.if_icmp .ge 21, 3) := by decide +kernel
theorem dX3_read_27 : decode cX3_read 27 = .ok (.aload_n 0, 1) := by decide +kernel
theorem dX3_read_28 : decode cX3_read 28 = .ok (.getfield 18, 3) := by decide +kernel
theorem dX3_read_31 : decode cX3_read 31 = .ok (.getfield 44, 3) := by decide +kernel
theorem dX3_read_34 : decode cX3_read 34 = .ok (.iload_n 1, 1) := by decide +kernel
theorem dX3_read_35 : decode cX3_read 35 = .ok (.iload_n 1, 1) := by decide +kernel
theorem dX3_read_36 : decode cX3_read 36 = .ok (.iconst 1, 1) := by decide +kernel
theorem dX3_read_37 : decode cX3_read 37 = .ok (.iadd, 1) := by decide +kernel
theorem dX3_read_38 : decode cX3_read 38 = .ok (.iastore, 1) := by decide +kernel
theorem dX3_read_39 : decode cX3_read 39 = .ok (.iinc 1 1, 3) := by decide +kernel
theorem dX3_read_42 : decode cX3_read 42 = .ok (.goto (-21), 3) := by decide +kernel
theorem dX3_read_45 : decode cX3_read 45 = .ok (.aload_n 0, 1) := by decide +kernel
theorem dX3_read_46 : decode cX3_read 46 = .ok (.getfield 25, 3) := by decide +kernel
theorem dX3_read_49 : decode cX3_read 49 = .ok (.invokevirtual 48, 3) := by decide +kernel
theorem dX3_read_52 : decode cX3_read 52 = .ok (.iconst 0, 1) := by decide +kernel
theorem dX3_read_53 : decode cX3_read 53 = .ok (.istore_n 1, 1) := by decide +kernel
theorem dX3_read_54 : decode cX3_read 54 = .ok (.iload_n 1, 1) := by decide +kernel
theorem dX3_read_55 : decode cX3_read 55 = .ok (.sipush 200, 3) := by decide +kernel
theorem dX3_read_58 : decode cX3_read 58 = .ok (.if_icmp .ge 34, 3) := by decide +kernel
theorem dX3_read_61 : decode cX3_read 61 = .ok (.aload_n 0, 1) := by decide +kernel
theorem dX3_read_62 : decode cX3_read 62 = .ok (.getfield 33, 3) := by decide +kernel
theorem dX3_read_65 : decode cX3_read 65 = .ok (.aload_n 0, 1) := by decide +kernel
theorem dX3_read_66 : decode cX3_read 66 = .ok (.getfield 29, 3) := by decide +kernel
theorem dX3_read_69 : decode cX3_read 69 = .ok (.if_icmp .ge 23, 3) := by decide +kernel
theorem dX3_read_72 : decode cX3_read 72 = .ok (.aload_n 0, 1) := by decide +kernel
theorem dX3_read_73 : decode cX3_read 73 = .ok (.getfield 33, 3) := by decide +kernel
theorem dX3_read_76 : decode cX3_read 76 = .ok (.istore_n 2, 1) := by decide +kernel
theorem dX3_read_77 : decode cX3_read 77 = .ok (.aload_n 0, 1) := by decide +kernel
theorem dX3_read_78 : decode cX3_read 78 = .ok (.invokevirtual 51, 3) := by decide +kernel
theorem dX3_read_81 : decode cX3_read 81 = .ok (.ifCond .ne 5, 3) := by decide +kernel
theorem dX3_read_84 : decode cX3_read 84 = .ok (.iload_n 2, 1) := by decide +kernel
theorem dX3_read_85 : decode cX3_read 85 = .ok (.ireturn, 1) := by decide +kernel
theorem dX3_read_86 : decode cX3_read 86 = .ok (.iinc 1 1, 3) := by decide +kernel
theorem dX3_read_89 : decode cX3_read 89 = .ok (.goto (-35), 3) := by decide +kernel
theorem dX3_read_92 : decode cX3_read 92 = .ok (.bipush (-4), 2) := by decide +kernel
theorem dX3_read_94 : decode cX3_read 94 = .ok (.ireturn, 1) := by decide +kernel
set_option maxRecDepth 20000 in
theorem ggX3_readItem_X3_next : GoodIn wsX3_readItem wsX3_next := goodIn_r _ [6, 7, 8, 9, 10, 5, 11, 12, 13, 79, 80, 81, 82, 83, 84, 85, 86] (by decide +kernel) (by decide +kernel)
set_option maxRecDepth 20000 in
theorem gX3_readItem_X3_next : GoodIn wsX3_readItem (wsV RX3 55 RX3 yX3_next wsX3_next) := goodIn_app (goodIn_of _ (by decide +kernel)) ggX3_readItem_X3_next
set_option maxRecDepth 20000 in
theorem ggX3_readItem_X3_readPair : GoodIn wsX3_readItem wsX3_readPair := goodIn_r _ [17, 18, 19, 20, 21, 22, 5, 23, 7, 8, 9, 10, 11, 12, 13, 24, 25, 26, 2, 3, 4, 6, 79, 80, 81, 82, 83, 84, 85, 86] (by decide +kernel) (by decide +kernel)
set_option maxRecDepth 20000 in
theorem gX3_readItem_X3_readPair : GoodIn wsX3_readItem (wsV RX3 59 RX3 yX3_readPair wsX3_readPair) := goodIn_app (goodIn_of _ (by decide +kernel)) ggX3_readItem_X3_readPair
set_option maxRecDepth 20000 in
theorem ggX3_readItem_X3_takeShape : GoodIn wsX3_readItem wsX3_takeShape := goodIn_r _ [30, 18, 19, 31, 32, 33, 34, 35, 36, 37, 38, 39, 40, 41, 79, 80, 81, 82, 83, 84, 85, 86, 87, 88, 89, 90, 91, 92] (by decide +kernel) (by decide +kernel)
set_option maxRecDepth 20000 in
theorem gX3_readItem_X3_takeShape : GoodIn wsX3_readItem (wsV RX3 62 RX3 yX3_takeShape wsX3_takeShape) := goodIn_app (goodIn_of _ (by decide +kernel)) ggX3_readItem_X3_takeShape
set_option maxRecDepth 20000 in
theorem ggX3_readItem_X3_takeMark : GoodIn wsX3_readItem wsX3_takeMark := goodIn_r _ [45, 1, 18, 31, 19, 46, 47, 48, 49, 50, 35, 51, 37, 38, 52, 53, 54, 79, 80, 81, 82, 83, 84, 85, 86, 93, 94, 95, 96, 97, 87, 88, 89, 90, 91, 92] (by decide +kernel) (by decide +kernel)
set_option maxRecDepth 20000 in
theorem gX3_readItem_X3_takeMark : GoodIn wsX3_readItem (wsV RX3 65 RX3 yX3_takeMark wsX3_takeMark) := goodIn_app (goodIn_of _ (by decide +kernel)) ggX3_readItem_X3_takeMark
set_option maxRecDepth 20000 in
theorem ggX3_readItem_X3_takeHunger : GoodIn wsX3_readItem wsX3_takeHunger := goodIn_r _ [58, 1, 18, 19, 31, 59, 52, 53, 54, 79, 80, 81, 82, 83, 84, 85, 86, 87, 88, 89, 90, 91, 92] (by decide +kernel) (by decide +kernel)
set_option maxRecDepth 20000 in
theorem gX3_readItem_X3_takeHunger : GoodIn wsX3_readItem (wsV RX3 68 RX3 yX3_takeHunger wsX3_takeHunger) := goodIn_app (goodIn_of _ (by decide +kernel)) ggX3_readItem_X3_takeHunger
set_option maxRecDepth 20000 in
theorem ggX3_readItem_X3_readWalk : GoodIn wsX3_readItem wsX3_readWalk := goodIn_r _ [63, 1, 46, 2, 3, 4, 5, 6, 7, 8, 9, 10, 11, 12, 13, 24, 25, 26, 64, 53, 65, 66, 67, 68, 69, 70, 71, 72, 73, 52, 54, 74, 75, 76, 77, 78, 79, 80, 81, 82, 83, 84, 85, 86, 93, 94, 95, 96, 97] (by decide +kernel) (by decide +kernel)
set_option maxRecDepth 20000 in
theorem gX3_readItem_X3_readWalk : GoodIn wsX3_readItem (wsV RX3 71 RX3 yX3_readWalk wsX3_readWalk) := goodIn_app (goodIn_of _ (by decide +kernel)) ggX3_readItem_X3_readWalk
theorem dX3_readItem_0 : decode cX3_readItem 0 = .ok (.aload_n 0, 1) := by decide +kernel
theorem dX3_readItem_1 : decode cX3_readItem 1 = .ok (.invokevirtual 55, 3) := by decide +kernel
theorem dX3_readItem_4 : decode cX3_readItem 4 = .ok (.lookupswitch 116 #[(100, 44), (104, 91), (109, 71), (119, 111)], 44) := by decide +kernel
theorem dX3_readItem_48 : decode cX3_readItem 48 = .ok (.aload_n 0, 1) := by decide +kernel
theorem dX3_readItem_49 : decode cX3_readItem 49 = .ok (.getfield 36, 3) := by decide +kernel
theorem dX3_readItem_52 : decode cX3_readItem 52 = .ok (.ifCond .eq 21, 3) := by decide +kernel
theorem dX3_readItem_55 : decode cX3_readItem 55 = .ok (.aload_n 0, 1) := by decide +kernel
theorem dX3_readItem_56 : decode cX3_readItem 56 = .ok (.invokevirtual 59, 3) := by decide +kernel
theorem dX3_readItem_59 : decode cX3_readItem 59 = .ok (.ifCond .eq 14, 3) := by decide +kernel
theorem dX3_readItem_62 : decode cX3_readItem 62 = .ok (.aload_n 0, 1) := by decide +kernel
theorem dX3_readItem_63 : decode cX3_readItem 63 = .ok (.invokevirtual 62, 3) := by decide +kernel
theorem dX3_readItem_66 : decode cX3_readItem 66 = .ok (.ifCond .eq 7, 3) := by decide +kernel
theorem dX3_readItem_69 : decode cX3_readItem 69 = .ok (.iconst 1, 1) := by decide +kernel
theorem dX3_readItem_70 : decode cX3_readItem 70 = .ok (.goto 4, 3) := by decide +kernel
theorem dX3_readItem_73 : decode cX3_readItem 73 = .ok (.iconst 0, 1) := by decide +kernel
theorem dX3_readItem_74 : decode cX3_readItem 74 = .ok (.ireturn, 1) := by decide +kernel
theorem dX3_readItem_75 : decode cX3_readItem 75 = .ok (.aload_n 0, 1) := by decide +kernel
theorem dX3_readItem_76 : decode cX3_readItem 76 = .ok (.invokevirtual 59, 3) := by decide +kernel
theorem dX3_readItem_79 : decode cX3_readItem 79 = .ok (.ifCond .eq 14, 3) := by decide +kernel
theorem dX3_readItem_82 : decode cX3_readItem 82 = .ok (.aload_n 0, 1) := by decide +kernel
theorem dX3_readItem_83 : decode cX3_readItem 83 = .ok (.invokevirtual 65, 3) := by decide +kernel
theorem dX3_readItem_86 : decode cX3_readItem 86 = .ok (.ifCond .eq 7, 3) := by decide +kernel
theorem dX3_readItem_89 : decode cX3_readItem 89 = .ok (.iconst 1, 1) := by decide +kernel
theorem dX3_readItem_90 : decode cX3_readItem 90 = .ok (.goto 4, 3) := by decide +kernel
theorem dX3_readItem_93 : decode cX3_readItem 93 = .ok (.iconst 0, 1) := by decide +kernel
theorem dX3_readItem_94 : decode cX3_readItem 94 = .ok (.ireturn, 1) := by decide +kernel
theorem dX3_readItem_95 : decode cX3_readItem 95 = .ok (.aload_n 0, 1) := by decide +kernel
theorem dX3_readItem_96 : decode cX3_readItem 96 = .ok (.invokevirtual 59, 3) := by decide +kernel
theorem dX3_readItem_99 : decode cX3_readItem 99 = .ok (.ifCond .eq 14, 3) := by decide +kernel
theorem dX3_readItem_102 : decode cX3_readItem 102 = .ok (.aload_n 0, 1) := by decide +kernel
theorem dX3_readItem_103 : decode cX3_readItem 103 = .ok (.invokevirtual 68, 3) := by decide +kernel
theorem dX3_readItem_106 : decode cX3_readItem 106 = .ok (.ifCond .eq 7, 3) := by decide +kernel
theorem dX3_readItem_109 : decode cX3_readItem 109 = .ok (.iconst 1, 1) := by decide +kernel
theorem dX3_readItem_110 : decode cX3_readItem 110 = .ok (.goto 4, 3) := by decide +kernel
theorem dX3_readItem_113 : decode cX3_readItem 113 = .ok (.iconst 0, 1) := by decide +kernel
theorem dX3_readItem_114 : decode cX3_readItem 114 = .ok (.ireturn, 1) := by decide +kernel
theorem dX3_readItem_115 : decode cX3_readItem 115 = .ok (.aload_n 0, 1) := by decide +kernel
theorem dX3_readItem_116 : decode cX3_readItem 116 = .ok (.invokevirtual 71, 3) := by decide +kernel
theorem dX3_readItem_119 : decode cX3_readItem 119 = .ok (.ireturn, 1) := by decide +kernel
theorem dX3_readItem_120 : decode cX3_readItem 120 = .ok (.iconst 0, 1) := by decide +kernel
theorem dX3_readItem_121 : decode cX3_readItem 121 = .ok (.ireturn, 1) := by decide +kernel
set_option maxRecDepth 20000 in
theorem ggX3_takeShape_X1_shape : GoodIn wsX3_takeShape wsX1_shape := goodIn_r _ [8, 9, 10, 11, 12, 13, 22, 23, 24, 25, 26, 27] (by decide +kernel) (by decide +kernel)
set_option maxRecDepth 20000 in
theorem gX3_takeShape_X1_shape : GoodIn wsX3_takeShape (wsV RX3 40 RX1 yX1_shape wsX1_shape) := goodIn_app (goodIn_of _ (by decide +kernel)) ggX3_takeShape_X1_shape
theorem dX3_takeShape_0 : decode cX3_takeShape 0 = .ok (.aload_n 0, 1) := by decide +kernel
theorem dX3_takeShape_1 : decode cX3_takeShape 1 = .ok (.getfield 74, 3) := by decide +kernel
theorem dX3_takeShape_4 : decode cX3_takeShape 4 = .ok (.iconst 2, 1) := by decide +kernel
theorem dX3_takeShape_5 : decode cX3_takeShape 5 = .ok (.if_icmp .lt 27, 3) := by decide +kernel
theorem dX3_takeShape_8 : decode cX3_takeShape 8 = .ok (.aload_n 0, 1) := by decide +kernel
theorem dX3_takeShape_9 : decode cX3_takeShape 9 = .ok (.getfield 74, 3) := by decide +kernel
theorem dX3_takeShape_12 : decode cX3_takeShape 12 = .ok (.iconst 4, 1) := by decide +kernel
theorem dX3_takeShape_13 : decode cX3_takeShape 13 = .ok (.if_icmp .gt 19, 3) := by decide +kernel
theorem dX3_takeShape_16 : decode cX3_takeShape 16 = .ok (.aload_n 0, 1) := by decide +kernel
theorem dX3_takeShape_17 : decode cX3_takeShape 17 = .ok (.getfield 77, 3) := by decide +kernel
theorem dX3_takeShape_20 : decode cX3_takeShape 20 = .ok (.iconst 2, 1) := by decide +kernel
theorem dX3_takeShape_21 : decode cX3_takeShape 21 = .ok (.if_icmp .lt 11, 3) := by decide +kernel
theorem dX3_takeShape_24 : decode cX3_takeShape 24 = .ok (.aload_n 0, 1) := by decide +kernel
theorem dX3_takeShape_25 : decode cX3_takeShape 25 = .ok (.getfield 77, 3) := by decide +kernel
theorem dX3_takeShape_28 : decode cX3_takeShape 28 = .ok (.iconst 4, 1) := by decide +kernel
theorem dX3_takeShape_29 : decode cX3_takeShape 29 = .ok (.if_icmp .le 5, 3) := by decide +kernel
theorem dX3_takeShape_32 : decode cX3_takeShape 32 = .ok (.iconst 0, 1) := by decide +kernel
theorem dX3_takeShape_33 : decode cX3_takeShape 33 = .ok (.ireturn, 1) := by decide +kernel
theorem dX3_takeShape_34 : decode cX3_takeShape 34 = .ok (.aload_n 0, 1) := by decide +kernel
theorem dX3_takeShape_35 : decode cX3_takeShape 35 = .ok (.getfield 18, 3) := by decide +kernel
theorem dX3_takeShape_38 : decode cX3_takeShape 38 = .ok (.aload_n 0, 1) := by decide +kernel
theorem dX3_takeShape_39 : decode cX3_takeShape 39 = .ok (.getfield 74, 3) := by decide +kernel
theorem dX3_takeShape_42 : decode cX3_takeShape 42 = .ok (.aload_n 0, 1) := by decide +kernel
theorem dX3_takeShape_43 : decode cX3_takeShape 43 = .ok (.getfield 77, 3) := by decide +kernel
theorem dX3_takeShape_46 : decode cX3_takeShape 46 = .ok (.invokevirtual 40, 3) := by decide +kernel
theorem dX3_takeShape_49 : decode cX3_takeShape 49 = .ok (.iconst 1, 1) := by decide +kernel
theorem dX3_takeShape_50 : decode cX3_takeShape 50 = .ok (.ireturn, 1) := by decide +kernel
set_option maxRecDepth 20000 in
theorem ggX3_takeMark_X1_places : GoodIn wsX3_takeMark wsX1_places := goodIn_r _ [11, 12, 13, 30, 31, 32, 33, 34, 35] (by decide +kernel) (by decide +kernel)
set_option maxRecDepth 20000 in
theorem gX3_takeMark_X1_places : GoodIn wsX3_takeMark (wsV RX3 80 RX1 yX1_places wsX1_places) := goodIn_app (goodIn_of _ (by decide +kernel)) ggX3_takeMark_X1_places
set_option maxRecDepth 20000 in
theorem ggX3_takeMark_X7_isMark : GoodIn wsX3_takeMark wsX7_isMark := goodIn_r _ [16] (by decide +kernel) (by decide +kernel)
set_option maxRecDepth 20000 in
theorem gX3_takeMark_X7_isMark_n83 : GoodIn wsX3_takeMark (wsX7_isMark) := ggX3_takeMark_X7_isMark
theorem dX3_takeMark_0 : decode cX3_takeMark 0 = .ok (.aload_n 0, 1) := by decide +kernel
theorem dX3_takeMark_1 : decode cX3_takeMark 1 = .ok (.iconst 0, 1) := by decide +kernel
theorem dX3_takeMark_2 : decode cX3_takeMark 2 = .ok (.putfield 36, 3) := by decide +kernel
theorem dX3_takeMark_5 : decode cX3_takeMark 5 = .ok (.aload_n 0, 1) := by decide +kernel
theorem dX3_takeMark_6 : decode cX3_takeMark 6 = .ok (.getfield 74, 3) := by decide +kernel
theorem dX3_takeMark_9 : decode cX3_takeMark 9 = .ok (.ifCond .lt 36, 3) := by decide +kernel
theorem dX3_takeMark_12 : decode cX3_takeMark 12 = .ok (.aload_n 0, 1) := by decide +kernel
theorem dX3_takeMark_13 : decode cX3_takeMark 13 = .ok (.getfield 74, 3) := by decide +kernel
theorem dX3_takeMark_16 : decode cX3_takeMark 16 = .ok (.aload_n 0, 1) := by decide +kernel
theorem dX3_takeMark_17 : decode cX3_takeMark 17 = .ok (.getfield 18, 3) := by decide +kernel
theorem dX3_takeMark_20 : decode cX3_takeMark 20 = .ok (.invokevirtual 80, 3) := by decide +kernel
theorem dX3_takeMark_23 : decode cX3_takeMark 23 = .ok (.if_icmp .ge 22, 3) := by decide +kernel
theorem dX3_takeMark_26 : decode cX3_takeMark 26 = .ok (.aload_n 0, 1) := by decide +kernel
theorem dX3_takeMark_27 : decode cX3_takeMark 27 = .ok (.getfield 74, 3) := by decide +kernel
theorem dX3_takeMark_30 : decode cX3_takeMark 30 = .ok (.bipush 16, 2) := by decide +kernel
theorem dX3_takeMark_32 : decode cX3_takeMark 32 = .ok (.if_icmp .ge 13, 3) := by decide +kernel
theorem dX3_takeMark_35 : decode cX3_takeMark 35 = .ok (.aload_n 0, 1) := by decide +kernel
theorem dX3_takeMark_36 : decode cX3_takeMark 36 = .ok (.getfield 77, 3) := by decide +kernel
theorem dX3_takeMark_39 : decode cX3_takeMark 39 = .ok (.invokestatic 83, 3) := by decide +kernel
theorem dX3_takeMark_42 : decode cX3_takeMark 42 = .ok (.ifCond .ne 5, 3) := by decide +kernel
theorem dX3_takeMark_45 : decode cX3_takeMark 45 = .ok (.iconst 0, 1) := by decide +kernel
theorem dX3_takeMark_46 : decode cX3_takeMark 46 = .ok (.ireturn, 1) := by decide +kernel
theorem dX3_takeMark_47 : decode cX3_takeMark 47 = .ok (.aload_n 0, 1) := by decide +kernel
theorem dX3_takeMark_48 : decode cX3_takeMark 48 = .ok (.getfield 25, 3) := by decide +kernel
theorem dX3_takeMark_51 : decode cX3_takeMark 51 = .ok (.getfield 87, 3) := by decide +kernel
theorem dX3_takeMark_54 : decode cX3_takeMark 54 = .ok (.aload_n 0, 1) := by decide +kernel
theorem dX3_takeMark_55 : decode cX3_takeMark 55 = .ok (.getfield 74, 3) := by decide +kernel
theorem dX3_takeMark_58 : decode cX3_takeMark 58 = .ok (.aload_n 0, 1) := by decide +kernel
theorem dX3_takeMark_59 : decode cX3_takeMark 59 = .ok (.getfield 77, 3) := by decide +kernel
theorem dX3_takeMark_62 : decode cX3_takeMark 62 = .ok (.iastore, 1) := by decide +kernel
theorem dX3_takeMark_63 : decode cX3_takeMark 63 = .ok (.iconst 1, 1) := by decide +kernel
theorem dX3_takeMark_64 : decode cX3_takeMark 64 = .ok (.ireturn, 1) := by decide +kernel
set_option maxRecDepth 20000 in
theorem ggX3_takeHunger_X7_isMark : GoodIn wsX3_takeHunger wsX7_isMark := goodIn_r _ [8] (by decide +kernel) (by decide +kernel)
set_option maxRecDepth 20000 in
theorem gX3_takeHunger_X7_isMark_n83 : GoodIn wsX3_takeHunger (wsX7_isMark) := ggX3_takeHunger_X7_isMark
theorem dX3_takeHunger_0 : decode cX3_takeHunger 0 = .ok (.aload_n 0, 1) := by decide +kernel
theorem dX3_takeHunger_1 : decode cX3_takeHunger 1 = .ok (.iconst 0, 1) := by decide +kernel
theorem dX3_takeHunger_2 : decode cX3_takeHunger 2 = .ok (.putfield 36, 3) := by decide +kernel
theorem dX3_takeHunger_5 : decode cX3_takeHunger 5 = .ok (.aload_n 0, 1) := by decide +kernel
theorem dX3_takeHunger_6 : decode cX3_takeHunger 6 = .ok (.getfield 74, 3) := by decide +kernel
theorem dX3_takeHunger_9 : decode cX3_takeHunger 9 = .ok (.invokestatic 83, 3) := by decide +kernel
theorem dX3_takeHunger_12 : decode cX3_takeHunger 12 = .ok (.ifCond .eq 20, 3) := by decide +kernel
theorem dX3_takeHunger_15 : decode cX3_takeHunger 15 = .ok (.aload_n 0, 1) := by decide +kernel
theorem dX3_takeHunger_16 : decode cX3_takeHunger 16 = .ok (.getfield 77, 3) := by decide +kernel
theorem dX3_takeHunger_19 : decode cX3_takeHunger 19 = .ok (.iconst 1, 1) := by decide +kernel
theorem dX3_takeHunger_20 : decode cX3_takeHunger 20 = .ok (.if_icmp .lt 12, 3) := by decide +kernel
theorem dX3_takeHunger_23 : decode cX3_takeHunger 23 = .ok (.aload_n 0, 1) := by decide +kernel
theorem dX3_takeHunger_24 : decode cX3_takeHunger 24 = .ok (.getfield 77, 3) := by decide +kernel
theorem dX3_takeHunger_27 : decode cX3_takeHunger 27 = .ok (.bipush 9, 2) := by decide +kernel
theorem dX3_takeHunger_29 : decode cX3_takeHunger 29 = .ok (.if_icmp .le 5, 3) := by decide +kernel
theorem dX3_takeHunger_32 : decode cX3_takeHunger 32 = .ok (.iconst 0, 1) := by decide +kernel
theorem dX3_takeHunger_33 : decode cX3_takeHunger 33 = .ok (.ireturn, 1) := by decide +kernel
theorem dX3_takeHunger_34 : decode cX3_takeHunger 34 = .ok (.aload_n 0, 1) := by decide +kernel
theorem dX3_takeHunger_35 : decode cX3_takeHunger 35 = .ok (.getfield 18, 3) := by decide +kernel
theorem dX3_takeHunger_38 : decode cX3_takeHunger 38 = .ok (.getfield 44, 3) := by decide +kernel
theorem dX3_takeHunger_41 : decode cX3_takeHunger 41 = .ok (.aload_n 0, 1) := by decide +kernel
theorem dX3_takeHunger_42 : decode cX3_takeHunger 42 = .ok (.getfield 74, 3) := by decide +kernel
theorem dX3_takeHunger_45 : decode cX3_takeHunger 45 = .ok (.aload_n 0, 1) := by decide +kernel
theorem dX3_takeHunger_46 : decode cX3_takeHunger 46 = .ok (.getfield 77, 3) := by decide +kernel
theorem dX3_takeHunger_49 : decode cX3_takeHunger 49 = .ok (.iastore, 1) := by decide +kernel
theorem dX3_takeHunger_50 : decode cX3_takeHunger 50 = .ok (.iconst 1, 1) := by decide +kernel
theorem dX3_takeHunger_51 : decode cX3_takeHunger 51 = .ok (.ireturn, 1) := by decide +kernel
set_option maxRecDepth 20000 in
theorem ggX3_readWalk_X3_next : GoodIn wsX3_readWalk wsX3_next := goodIn_r _ [7, 8, 9, 10, 11, 6, 12, 13, 14, 36, 37, 38, 39, 40, 41, 42, 43] (by decide +kernel) (by decide +kernel)
set_option maxRecDepth 20000 in
theorem gX3_readWalk_X3_next : GoodIn wsX3_readWalk (wsV RX3 55 RX3 yX3_next wsX3_next) := goodIn_app (goodIn_of _ (by decide +kernel)) ggX3_readWalk_X3_next
set_option maxRecDepth 20000 in
theorem ggX3_readWalk_X3_figure : GoodIn wsX3_readWalk wsX3_figure := goodIn_r _ [17] (by decide +kernel) (by decide +kernel)
set_option maxRecDepth 20000 in
theorem gX3_readWalk_X3_figure : GoodIn wsX3_readWalk (va_wsS RX3 90 yX3_figure wsX3_figure) := goodIn_app (goodIn_of _ (by decide +kernel)) ggX3_readWalk_X3_figure
set_option maxRecDepth 20000 in
theorem ggX3_readWalk_X7_isKind : GoodIn wsX3_readWalk wsX7_isKind := goodIn_r _ [20] (by decide +kernel) (by decide +kernel)
set_option maxRecDepth 20000 in
theorem gX3_readWalk_X7_isKind_n94 : GoodIn wsX3_readWalk (wsX7_isKind) := ggX3_readWalk_X7_isKind
set_option maxRecDepth 20000 in
theorem ggX3_readWalk_X5_begin : GoodIn wsX3_readWalk wsX5_begin := goodIn_r _ [25, 26, 27, 28, 44, 45, 46, 47, 48] (by decide +kernel) (by decide +kernel)
set_option maxRecDepth 20000 in
theorem gX3_readWalk_X5_begin : GoodIn wsX3_readWalk (wsV RX3 97 RX5 yX5_begin wsX5_begin) := goodIn_app (goodIn_of _ (by decide +kernel)) ggX3_readWalk_X5_begin
set_option maxRecDepth 20000 in
theorem ggX3_readWalk_X7_isMark : GoodIn wsX3_readWalk wsX7_isMark := goodIn_r _ [30] (by decide +kernel) (by decide +kernel)
set_option maxRecDepth 20000 in
theorem gX3_readWalk_X7_isMark_n83 : GoodIn wsX3_readWalk (wsX7_isMark) := ggX3_readWalk_X7_isMark
set_option maxRecDepth 20000 in
theorem ggX3_readWalk_X5_append : GoodIn wsX3_readWalk wsX5_append := goodIn_r _ [34, 26, 28, 35, 44, 45, 46, 47, 48] (by decide +kernel) (by decide +kernel)
set_option maxRecDepth 20000 in
theorem gX3_readWalk_X5_append : GoodIn wsX3_readWalk (wsV RX3 100 RX5 yX5_append wsX5_append) := goodIn_app (goodIn_of _ (by decide +kernel)) ggX3_readWalk_X5_append
theorem dX3_readWalk_0 : decode cX3_readWalk 0 = .ok (.aload_n 0, 1) := by decide +kernel
theorem dX3_readWalk_1 : decode cX3_readWalk 1 = .ok (.iconst 0, 1) := by decide +kernel
theorem dX3_readWalk_2 : decode cX3_readWalk 2 = .ok (.putfield 36, 3) := by decide +kernel
theorem dX3_readWalk_5 : decode cX3_readWalk 5 = .ok (.aload_n 0, 1) := by decide +kernel
theorem dX3_readWalk_6 : decode cX3_readWalk 6 = .ok (.invokevirtual 55, 3) := by decide +kernel
theorem dX3_readWalk_9 : decode cX3_readWalk 9 = .ok (.invokestatic 90, 3) := by decide +kernel
theorem dX3_readWalk_12 : decode cX3_readWalk 12 = .ok (.istore_n 1, 1) := by decide +kernel
theorem dX3_readWalk_13 : decode cX3_readWalk 13 = .ok (.iload_n 1, 1) := by decide +kernel
theorem dX3_readWalk_14 : decode cX3_readWalk 14 = .ok (.invokestatic 94, 3) := by decide +kernel
theorem dX3_readWalk_17 : decode cX3_readWalk 17 = .ok (.ifCond .eq 14, 3) := by decide +kernel
theorem dX3_readWalk_20 : decode cX3_readWalk 20 = .ok (.aload_n 0, 1) := by decide +kernel
theorem dX3_readWalk_21 : decode cX3_readWalk 21 = .ok (.getfield 25, 3) := by decide +kernel
theorem dX3_readWalk_24 : decode cX3_readWalk 24 = .ok (.iload_n 1, 1) := by decide +kernel
theorem dX3_readWalk_25 : decode cX3_readWalk 25 = .ok (.invokevirtual 97, 3) := by decide +kernel
theorem dX3_readWalk_28 : decode cX3_readWalk 28 = .ok (.ifCond .ne 5, 3) := by decide +kernel
theorem dX3_readWalk_31 : decode cX3_readWalk 31 = .ok (.iconst 0, 1) := by decide +kernel
theorem dX3_readWalk_32 : decode cX3_readWalk 32 = .ok (.ireturn, 1) := by decide +kernel
theorem dX3_readWalk_33 : decode cX3_readWalk 33 = .ok (.iconst 0, 1) := by decide +kernel
theorem dX3_readWalk_34 : decode cX3_readWalk 34 = .ok (.istore_n 2, 1) := by decide +kernel
theorem dX3_readWalk_35 : decode cX3_readWalk 35 = .ok (.iconst 0, 1) := by decide +kernel
theorem dX3_readWalk_36 : decode cX3_readWalk 36 = .ok (.istore_n 3, 1) := by decide +kernel
theorem dX3_readWalk_37 : decode cX3_readWalk 37 = .ok (.iload_n 3, 1) := by decide +kernel
theorem dX3_readWalk_38 : decode cX3_readWalk 38 = .ok (.iconst 5, 1) := by decide +kernel
theorem dX3_readWalk_39 : decode cX3_readWalk 39 = .ok (.if_icmp .gt 65, 3) := by decide +kernel
theorem dX3_readWalk_42 : decode cX3_readWalk 42 = .ok (.aload_n 0, 1) := by decide +kernel
theorem dX3_readWalk_43 : decode cX3_readWalk 43 = .ok (.invokevirtual 55, 3) := by decide +kernel
theorem dX3_readWalk_46 : decode cX3_readWalk 46 = .ok (.istore 4, 2) := by decide +kernel
theorem dX3_readWalk_48 : decode cX3_readWalk 48 = .ok (.iload 4, 2) := by decide +kernel
theorem dX3_readWalk_50 : decode cX3_readWalk 50 = .ok (.bipush 59, 2) := by decide +kernel
theorem dX3_readWalk_52 : decode cX3_readWalk 52 = .ok (.if_icmp .ne 14, 3) := by decide +kernel
theorem dX3_readWalk_55 : decode cX3_readWalk 55 = .ok (.iload_n 2, 1) := by decide +kernel
theorem dX3_readWalk_56 : decode cX3_readWalk 56 = .ok (.iconst 2, 1) := by decide +kernel
theorem dX3_readWalk_57 : decode cX3_readWalk 57 = .ok (.if_icmp .lt 7, 3) := by decide +kernel
theorem dX3_readWalk_60 : decode cX3_readWalk 60 = .ok (.iconst 1, 1) := by decide +kernel
theorem dX3_readWalk_61 : decode cX3_readWalk 61 = .ok (.goto 4, 3) := by decide +kernel
theorem dX3_readWalk_64 : decode cX3_readWalk 64 = .ok (.iconst 0, 1) := by decide +kernel
theorem dX3_readWalk_65 : decode cX3_readWalk 65 = .ok (.ireturn, 1) := by decide +kernel
theorem dX3_readWalk_66 : decode cX3_readWalk 66 = .ok (.iload 4, 2) := by decide +kernel
theorem dX3_readWalk_68 : decode cX3_readWalk 68 = .ok (.invokestatic 90, 3) := by decide +kernel
theorem dX3_readWalk_71 : decode cX3_readWalk 71 = .ok (.istore 5, 2) := by decide +kernel
theorem dX3_readWalk_73 : decode cX3_readWalk 73 = .ok (.iload 5, 2) := by decide +kernel
theorem dX3_readWalk_75 : decode cX3_readWalk 75 = .ok (.invokestatic 83, 3) := by decide +kernel
theorem dX3_readWalk_78 : decode cX3_readWalk 78 = .ok (.ifCond .eq 15, 3) := by decide +kernel
theorem dX3_readWalk_81 : decode cX3_readWalk 81 = .ok (.aload_n 0, 1) := by decide +kernel
theorem dX3_readWalk_82 : decode cX3_readWalk 82 = .ok (.getfield 25, 3) := by decide +kernel
theorem dX3_readWalk_85 : decode cX3_readWalk 85 = .ok (.iload 5, 2) := by decide +kernel
theorem dX3_readWalk_87 : decode cX3_readWalk 87 = .ok (.invokevirtual 100, 3) := by decide +kernel
theorem dX3_readWalk_90 : decode cX3_readWalk 90 = .ok (.ifCond .ne 5, 3) := by decide +kernel
theorem dX3_readWalk_93 : decode cX3_readWalk 93 = .ok (.iconst 0, 1) := by decide +kernel
theorem dX3_readWalk_94 : decode cX3_readWalk 94 = .ok (.ireturn, 1) := by decide +kernel
theorem dX3_readWalk_95 : decode cX3_readWalk 95 = .ok (.iinc 2 1, 3) := by decide +kernel
theorem dX3_readWalk_98 : decode cX3_readWalk 98 = .ok (.iinc 3 1, 3) := by decide +kernel
theorem dX3_readWalk_101 : decode cX3_readWalk 101 = .ok (.goto (-64), 3) := by decide +kernel
theorem dX3_readWalk_104 : decode cX3_readWalk 104 = .ok (.iconst 0, 1) := by decide +kernel
theorem dX3_readWalk_105 : decode cX3_readWalk 105 = .ok (.ireturn, 1) := by decide +kernel
set_option maxRecDepth 20000 in
theorem ggX3_readPair_X3_number : GoodIn wsX3_readPair wsX3_number := goodIn_r _ [7, 8, 9, 10, 11, 6, 12, 13, 14, 15, 16, 17, 22, 23, 24, 25, 26, 27, 28, 29] (by decide +kernel) (by decide +kernel)
set_option maxRecDepth 20000 in
theorem gX3_readPair_X3_number : GoodIn wsX3_readPair (wsV RX3 103 RX3 yX3_number wsX3_number) := goodIn_app (goodIn_of _ (by decide +kernel)) ggX3_readPair_X3_number
set_option maxRecDepth 20000 in
theorem ggX3_readPair_X3_next : GoodIn wsX3_readPair wsX3_next := goodIn_r _ [21, 8, 9, 10, 11, 6, 12, 13, 14, 22, 23, 24, 25, 26, 27, 28, 29] (by decide +kernel) (by decide +kernel)
set_option maxRecDepth 20000 in
theorem gX3_readPair_X3_next : GoodIn wsX3_readPair (wsV RX3 55 RX3 yX3_next wsX3_next) := goodIn_app (goodIn_of _ (by decide +kernel)) ggX3_readPair_X3_next
theorem dX3_readPair_0 : decode cX3_readPair 0 = .ok (.aload_n 0, 1) := by decide +kernel
theorem dX3_readPair_1 : decode cX3_readPair 1 = .ok (.aload_n 0, 1) := by decide +kernel
theorem dX3_readPair_2 : decode cX3_readPair 2 = .ok (.invokevirtual 103, 3) := by decide +kernel
theorem dX3_readPair_5 : decode cX3_readPair 5 = .ok (.putfield 74, 3) := by decide +kernel
theorem dX3_readPair_8 : decode cX3_readPair 8 = .ok (.aload_n 0, 1) := by decide +kernel
theorem dX3_readPair_9 : decode cX3_readPair 9 = .ok (.getfield 74, 3) := by decide +kernel
theorem dX3_readPair_12 : decode cX3_readPair 12 = .ok (.ifCond .lt 12, 3) := by decide +kernel
theorem dX3_readPair_15 : decode cX3_readPair 15 = .ok (.aload_n 0, 1) := by decide +kernel
theorem dX3_readPair_16 : decode cX3_readPair 16 = .ok (.invokevirtual 55, 3) := by decide +kernel
theorem dX3_readPair_19 : decode cX3_readPair 19 = .ok (.bipush 44, 2) := by decide +kernel
theorem dX3_readPair_21 : decode cX3_readPair 21 = .ok (.if_icmp .eq 5, 3) := by decide +kernel
theorem dX3_readPair_24 : decode cX3_readPair 24 = .ok (.iconst 0, 1) := by decide +kernel
theorem dX3_readPair_25 : decode cX3_readPair 25 = .ok (.ireturn, 1) := by decide +kernel
theorem dX3_readPair_26 : decode cX3_readPair 26 = .ok (.aload_n 0, 1) := by decide +kernel
theorem dX3_readPair_27 : decode cX3_readPair 27 = .ok (.aload_n 0, 1) := by decide +kernel
theorem dX3_readPair_28 : decode cX3_readPair 28 = .ok (.invokevirtual 103, 3) := by decide +kernel
theorem dX3_readPair_31 : decode cX3_readPair 31 = .ok (.putfield 77, 3) := by decide +kernel
theorem dX3_readPair_34 : decode cX3_readPair 34 = .ok (.aload_n 0, 1) := by decide +kernel
theorem dX3_readPair_35 : decode cX3_readPair 35 = .ok (.getfield 77, 3) := by decide +kernel
theorem dX3_readPair_38 : decode cX3_readPair 38 = .ok (.ifCond .lt 16, 3) := by decide +kernel
theorem dX3_readPair_41 : decode cX3_readPair 41 = .ok (.aload_n 0, 1) := by decide +kernel
theorem dX3_readPair_42 : decode cX3_readPair 42 = .ok (.invokevirtual 55, 3) := by decide +kernel
theorem dX3_readPair_45 : decode cX3_readPair 45 = .ok (.bipush 59, 2) := by decide +kernel
theorem dX3_readPair_47 : decode cX3_readPair 47 = .ok (.if_icmp .ne 7, 3) := by decide +kernel
theorem dX3_readPair_50 : decode cX3_readPair 50 = .ok (.iconst 1, 1) := by decide +kernel
theorem dX3_readPair_51 : decode cX3_readPair 51 = .ok (.goto 4, 3) := by decide +kernel
theorem dX3_readPair_54 : decode cX3_readPair 54 = .ok (.iconst 0, 1) := by decide +kernel
theorem dX3_readPair_55 : decode cX3_readPair 55 = .ok (.ireturn, 1) := by decide +kernel
set_option maxRecDepth 20000 in
theorem ggX3_number_X3_peek : GoodIn wsX3_number wsX3_peek := goodIn_r _ [6, 1, 7, 8, 12, 13, 14, 15, 16, 17, 18, 19] (by decide +kernel) (by decide +kernel)
set_option maxRecDepth 20000 in
theorem gX3_number_X3_peek : GoodIn wsX3_number (wsV RX3 106 RX3 yX3_peek wsX3_peek) := goodIn_app (goodIn_of _ (by decide +kernel)) ggX3_number_X3_peek
set_option maxRecDepth 20000 in
theorem ggX3_number_X3_figure : GoodIn wsX3_number wsX3_figure := goodIn_r _ [11] (by decide +kernel) (by decide +kernel)
set_option maxRecDepth 20000 in
theorem gX3_number_X3_figure : GoodIn wsX3_number (va_wsS RX3 90 yX3_figure wsX3_figure) := goodIn_app (goodIn_of _ (by decide +kernel)) ggX3_number_X3_figure
theorem dX3_number_0 : decode cX3_number 0 = .ok (.aload_n 0, 1) := by decide +kernel
theorem dX3_number_1 : decode cX3_number 1 = .ok (.invokevirtual 106, 3) := by decide +kernel
theorem dX3_number_4 : decode cX3_number 4 = .ok (.invokestatic 90, 3) := by decide +kernel
theorem dX3_number_7 : decode cX3_number 7 = .ok (.istore_n 1, 1) := by decide +kernel
theorem dX3_number_8 : decode cX3_number 8 = .ok (.aload_n 0, 1) := by decide +kernel
theorem dX3_number_9 : decode cX3_number 9 = .ok (.dup, 1) := by decide +kernel
theorem dX3_number_10 : decode cX3_number 10 = .ok (.getfield 33, 3) := by decide +kernel
theorem dX3_number_13 : decode cX3_number 13 = .ok (.iconst 1, 1) := by decide +kernel
theorem dX3_number_14 : decode cX3_number 14 = .ok (.iadd, 1) := by decide +kernel
theorem dX3_number_15 : decode cX3_number 15 = .ok (.putfield 33, 3) := by decide +kernel
theorem dX3_number_18 : decode cX3_number 18 = .ok (.aload_n 0, 1) := by decide +kernel
theorem dX3_number_19 : decode cX3_number 19 = .ok (.invokevirtual 106, 3) := by decide +kernel
theorem dX3_number_22 : decode cX3_number 22 = .ok (.invokestatic 90, 3) := by decide +kernel
theorem dX3_number_25 : decode cX3_number 25 = .ok (.istore_n 2, 1) := by decide +kernel
theorem dX3_number_26 : decode cX3_number 26 = .ok (.iload_n 1, 1) := by decide +kernel
theorem dX3_number_27 : decode cX3_number 27 = .ok (.ifCond .lt 7, 3) := by decide +kernel
theorem dX3_number_30 : decode cX3_number 30 = .ok (.iload_n 2, 1) := by decide +kernel
theorem dX3_number_31 : decode cX3_number 31 = .ok (.ifCond .ge 5, 3) := by decide +kernel
theorem dX3_number_34 : decode cX3_number 34 = .ok (.iload_n 1, 1) := by decide +kernel
theorem dX3_number_35 : decode cX3_number 35 = .ok (.ireturn, 1) := by decide +kernel
theorem dX3_number_36 : decode cX3_number 36 = .ok (.aload_n 0, 1) := by decide +kernel
theorem dX3_number_37 : decode cX3_number 37 = .ok (.dup, 1) := by decide +kernel
theorem dX3_number_38 : decode cX3_number 38 = .ok (.getfield 33, 3) := by decide +kernel
theorem dX3_number_41 : decode cX3_number 41 = .ok (.iconst 1, 1) := by decide +kernel
theorem dX3_number_42 : decode cX3_number 42 = .ok (.iadd, 1) := by decide +kernel
theorem dX3_number_43 : decode cX3_number 43 = .ok (.putfield 33, 3) := by decide +kernel
theorem dX3_number_46 : decode cX3_number 46 = .ok (.bipush 10, 2) := by decide +kernel
theorem dX3_number_48 : decode cX3_number 48 = .ok (.iload_n 1, 1) := by decide +kernel
theorem dX3_number_49 : decode cX3_number 49 = .ok (.imul, 1) := by decide +kernel
theorem dX3_number_50 : decode cX3_number 50 = .ok (.iload_n 2, 1) := by decide +kernel
theorem dX3_number_51 : decode cX3_number 51 = .ok (.iadd, 1) := by decide +kernel
theorem dX3_number_52 : decode cX3_number 52 = .ok (.ireturn, 1) := by decide +kernel
set_option maxRecDepth 20000 in
theorem ggX3_next_X3_peek : GoodIn wsX3_next wsX3_peek := goodIn_r _ [6, 1, 7, 8, 9, 10, 11, 12, 13, 14, 15, 16] (by decide +kernel) (by decide +kernel)
set_option maxRecDepth 20000 in
theorem gX3_next_X3_peek : GoodIn wsX3_next (wsV RX3 106 RX3 yX3_peek wsX3_peek) := goodIn_app (goodIn_of _ (by decide +kernel)) ggX3_next_X3_peek
theorem dX3_next_0 : decode cX3_next 0 = .ok (.aload_n 0, 1) := by decide +kernel
theorem dX3_next_1 : decode cX3_next 1 = .ok (.invokevirtual 106, 3) := by decide +kernel
theorem dX3_next_4 : decode cX3_next 4 = .ok (.istore_n 1, 1) := by decide +kernel
theorem dX3_next_5 : decode cX3_next 5 = .ok (.aload_n 0, 1) := by decide +kernel
theorem dX3_next_6 : decode cX3_next 6 = .ok (.dup, 1) := by decide +kernel
theorem dX3_next_7 : decode cX3_next 7 = .ok (.getfield 33, 3) := by decide +kernel
theorem dX3_next_10 : decode cX3_next 10 = .ok (.iconst 1, 1) := by decide +kernel
theorem dX3_next_11 : decode cX3_next 11 = .ok (.iadd, 1) := by decide +kernel
theorem dX3_next_12 : decode cX3_next 12 = .ok (.putfield 33, 3) := by decide +kernel
theorem dX3_next_15 : decode cX3_next 15 = .ok (.iload_n 1, 1) := by decide +kernel
theorem dX3_next_16 : decode cX3_next 16 = .ok (.ireturn, 1) := by decide +kernel
theorem dX3_peek_0 : decode cX3_peek 0 = .ok (.aload_n 0, 1) := by decide +kernel
theorem dX3_peek_1 : decode cX3_peek 1 = .ok (.getfield 33, 3) := by decide +kernel
theorem dX3_peek_4 : decode cX3_peek 4 = .ok (.ifCond .lt 36, 3) := by decide +kernel
theorem dX3_peek_7 : decode cX3_peek 7 = .ok (.aload_n 0, 1) := by decide +kernel
theorem dX3_peek_8 : decode cX3_peek 8 = .ok (.getfield 33, 3) := by decide +kernel
theorem dX3_peek_11 : decode cX3_peek 11 = .ok (.aload_n 0, 1) := by decide +kernel
theorem dX3_peek_12 : decode cX3_peek 12 = .ok (.getfield 29, 3) := by decide +kernel
theorem dX3_peek_15 : decode cX3_peek 15 = .ok (.if_icmp .ge 25, 3) := by decide +kernel
theorem dX3_peek_18 : decode cX3_peek 18 = .ok (.aload_n 0, 1) := by decide +kernel
theorem dX3_peek_19 : decode cX3_peek 19 = .ok (.getfield 33, 3) := by decide +kernel
theorem dX3_peek_22 : decode cX3_peek 22 = .ok (.sipush 200, 3) := by decide +kernel
theorem dX3_peek_25 : decode cX3_peek 25 = .ok (.if_icmp .ge 15, 3) := by decide +kernel
theorem dX3_peek_28 : decode cX3_peek 28 = .ok (.aload_n 0, 1) := by decide +kernel
theorem dX3_peek_29 : decode cX3_peek 29 = .ok (.getfield 9, 3) := by decide +kernel

theorem dX7_round_1 : decode cX7_round 1 = .ok (.iload_n 1, 1) := by decide +kernel
theorem dX7_round_2 : decode cX7_round 2 = .ok (.invokevirtual 118, 3) := by decide +kernel
theorem dX7_round_5 : decode cX7_round 5 = .ok (.ifCond .ne 5, 3) := by decide +kernel
theorem dX7_round_8 : decode cX7_round 8 = .ok (.iconst (-1), 1) := by decide +kernel
theorem dX7_round_9 : decode cX7_round 9 = .ok (.ireturn, 1) := by decide +kernel
theorem dX7_round_10 : decode cX7_round 10 = .ok (.aload_n 0, 1) := by decide +kernel
theorem dX7_round_11 : decode cX7_round 11 = .ok (.invokevirtual 110, 3) := by decide +kernel
theorem dX7_round_14 : decode cX7_round 14 = .ok (.aload_n 0, 1) := by decide +kernel
theorem dX7_round_15 : decode cX7_round 15 = .ok (.getfield 31, 3) := by decide +kernel
theorem dX7_round_18 : decode cX7_round 18 = .ok (.iload_n 1, 1) := by decide +kernel
theorem dX7_round_19 : decode cX7_round 19 = .ok (.invokevirtual 205, 3) := by decide +kernel
theorem dX7_round_22 : decode cX7_round 22 = .ok (.ifCond .eq 7, 3) := by decide +kernel
theorem dX7_round_25 : decode cX7_round 25 = .ok (.iconst 1, 1) := by decide +kernel
theorem dX7_round_26 : decode cX7_round 26 = .ok (.goto 4, 3) := by decide +kernel
theorem dX7_round_29 : decode cX7_round 29 = .ok (.iconst 0, 1) := by decide +kernel
theorem dX7_round_30 : decode cX7_round 30 = .ok (.ireturn, 1) := by decide +kernel
set_option maxRecDepth 20000 in
theorem ggX7_meet_X7_isWalk : GoodIn wsX7_meet wsX7_isWalk := goodIn_r _ [7, 2, 8, 96, 97, 98, 99, 100, 101, 102, 103, 104, 105, 106, 107, 108, 109] (by decide +kernel) (by decide +kernel)
set_option maxRecDepth 20000 in
theorem gX7_meet_X7_isWalk : GoodIn wsX7_meet (wsV RX7 118 RX7 yX7_isWalk wsX7_isWalk) := goodIn_app (goodIn_of _ (by decide +kernel)) ggX7_meet_X7_isWalk
set_option maxRecDepth 20000 in
theorem ggX7_meet_X7_present : GoodIn wsX7_meet wsX7_present := goodIn_r _ [12, 1, 2, 13, 14, 15, 16, 17, 18, 19, 20, 21, 22, 23, 24, 25, 26, 27, 28, 6, 29, 96, 97, 98, 99, 100, 101, 102, 103, 104, 105, 106, 107, 108, 109, 110, 111, 112, 113, 114, 115, 116, 117, 118, 119, 120, 121] (by decide +kernel) (by decide +kernel)
set_option maxRecDepth 20000 in
theorem gX7_meet_X7_present : GoodIn wsX7_meet (wsV RX7 110 RX7 yX7_present wsX7_present) := goodIn_app (goodIn_of _ (by decide +kernel)) ggX7_meet_X7_present
set_option maxRecDepth 20000 in
theorem ggX7_meet_X0_endsOf : GoodIn wsX7_meet wsX0_endsOf := goodIn_r _ [33, 20, 34, 35, 36, 37, 17, 38, 39, 40, 41, 42, 43, 44, 45, 46, 47, 48, 49, 50, 51, 52, 53, 54, 55, 56, 57, 58, 59, 60, 61, 62, 63, 19, 28, 6, 29, 64, 65, 66, 67, 68, 24, 69, 70, 71, 72, 73, 74, 75, 76, 77, 27, 78, 79, 80, 81, 82, 83, 84, 85, 86, 87, 88, 89, 90, 91, 92, 93, 94, 95, 110, 111, 112, 113, 114, 115, 116, 117, 118, 119, 120, 121, 105, 106, 107, 108, 109] (by decide +kernel) (by decide +kernel)
set_option maxRecDepth 20000 in
theorem gX7_meet_X0_endsOf : GoodIn wsX7_meet (wsV RX7 175 RX0 yX0_endsOf wsX0_endsOf) := goodIn_app (goodIn_of _ (by decide +kernel)) ggX7_meet_X0_endsOf
theorem dX7_meet_0 : decode cX7_meet 0 = .ok (.aload_n 0, 1) := by decide +kernel
theorem dX7_meet_1 : decode cX7_meet 1 = .ok (.iload_n 1, 1) := by decide +kernel
theorem dX7_meet_2 : decode cX7_meet 2 = .ok (.invokevirtual 118, 3) := by decide +kernel
theorem dX7_meet_5 : decode cX7_meet 5 = .ok (.ifCond .eq 16, 3) := by decide +kernel
theorem dX7_meet_8 : decode cX7_meet 8 = .ok (.aload_n 0, 1) := by decide +kernel
theorem dX7_meet_9 : decode cX7_meet 9 = .ok (.iload_n 2, 1) := by decide +kernel
theorem dX7_meet_10 : decode cX7_meet 10 = .ok (.invokevirtual 118, 3) := by decide +kernel
theorem dX7_meet_13 : decode cX7_meet 13 = .ok (.ifCond .eq 8, 3) := by decide +kernel
theorem dX7_meet_16 : decode cX7_meet 16 = .ok (.iload_n 1, 1) := by decide +kernel
theorem dX7_meet_17 : decode cX7_meet 17 = .ok (.iload_n 2, 1) := by decide +kernel
theorem dX7_meet_18 : decode cX7_meet 18 = .ok (.if_icmp .ne 5, 3) := by decide +kernel
theorem dX7_meet_21 : decode cX7_meet 21 = .ok (.iconst (-1), 1) := by decide +kernel
theorem dX7_meet_22 : decode cX7_meet 22 = .ok (.ireturn, 1) := by decide +kernel
theorem dX7_meet_23 : decode cX7_meet 23 = .ok (.aload_n 0, 1) := by decide +kernel
theorem dX7_meet_24 : decode cX7_meet 24 = .ok (.invokevirtual 110, 3) := by decide +kernel
theorem dX7_meet_27 : decode cX7_meet 27 = .ok (.pop, 1) := by decide +kernel
theorem dX7_meet_28 : decode cX7_meet 28 = .ok (.aload_n 0, 1) := by decide +kernel
theorem dX7_meet_29 : decode cX7_meet 29 = .ok (.getfield 19, 3) := by decide +kernel
theorem dX7_meet_32 : decode cX7_meet 32 = .ok (.aload_n 0, 1) := by decide +kernel
theorem dX7_meet_33 : decode cX7_meet 33 = .ok (.getfield 31, 3) := by decide +kernel
theorem dX7_meet_36 : decode cX7_meet 36 = .ok (.iload_n 1, 1) := by decide +kernel
theorem dX7_meet_37 : decode cX7_meet 37 = .ok (.invokevirtual 175, 3) := by decide +kernel
theorem dX7_meet_40 : decode cX7_meet 40 = .ok (.aload_n 0, 1) := by decide +kernel
theorem dX7_meet_41 : decode cX7_meet 41 = .ok (.getfield 19, 3) := by decide +kernel
theorem dX7_meet_44 : decode cX7_meet 44 = .ok (.aload_n 0, 1) := by decide +kernel
theorem dX7_meet_45 : decode cX7_meet 45 = .ok (.getfield 31, 3) := by decide +kernel
theorem dX7_meet_48 : decode cX7_meet 48 = .ok (.iload_n 2, 1) := by decide +kernel
theorem dX7_meet_49 : decode cX7_meet 49 = .ok (.invokevirtual 175, 3) := by decide +kernel
theorem dX7_meet_52 : decode cX7_meet 52 = .ok (.iand, 1) := by decide +kernel
theorem dX7_meet_53 : decode cX7_meet 53 = .ok (.ireturn, 1) := by decide +kernel
set_option maxRecDepth 20000 in
theorem ggX7_road_X7_isPlace : GoodIn wsX7_road wsX7_isPlace := goodIn_r _ [10, 2, 11, 12, 13, 14, 15, 16, 17, 66, 67, 68, 69, 70, 71, 72, 73, 74, 83, 84, 85, 86, 87, 88] (by decide +kernel) (by decide +kernel)
set_option maxRecDepth 20000 in
theorem gX7_road_X7_isPlace : GoodIn wsX7_road (wsV RX7 99 RX7 yX7_isPlace wsX7_isPlace) := goodIn_app (goodIn_of _ (by decide +kernel)) ggX7_road_X7_isPlace
set_option maxRecDepth 20000 in
theorem ggX7_road_X7_isChoice : GoodIn wsX7_road wsX7_isChoice := goodIn_r _ [20] (by decide +kernel) (by decide +kernel)
set_option maxRecDepth 20000 in
theorem gX7_road_X7_isChoice : GoodIn wsX7_road (va_wsS RX7 103 yX7_isChoice wsX7_isChoice) := goodIn_app (goodIn_of _ (by decide +kernel)) ggX7_road_X7_isChoice
set_option maxRecDepth 20000 in
theorem ggX7_road_X6_measure : GoodIn wsX7_road wsX6_measure := goodIn_r _ [25, 26, 27, 28, 12, 13, 14, 15, 16, 17, 29, 30, 31, 24, 32, 33, 34, 35, 36, 37, 38, 39, 40, 41, 42, 43, 44, 45, 46, 47, 48, 49, 50, 51, 52, 53, 54, 55, 56, 57, 58, 59, 60, 9, 61, 80, 81, 82, 83, 84, 85, 86, 87, 88] (by decide +kernel) (by decide +kernel)
set_option maxRecDepth 20000 in
theorem gX7_road_X6_measure : GoodIn wsX7_road (wsV RX7 209 RX6 yX6_measure wsX6_measure) := goodIn_app (goodIn_of _ (by decide +kernel)) ggX7_road_X6_measure
set_option maxRecDepth 20000 in
theorem ggX7_road_X6_next : GoodIn wsX7_road wsX6_next := goodIn_r _ [65, 26, 37, 38, 24, 39, 40, 41, 42, 14, 43, 44, 45, 46, 47, 17, 48, 49, 50, 51, 52, 53, 54, 27, 55, 56, 57, 58, 59, 60, 9, 61, 80, 81, 82, 83, 84, 85, 86, 87, 88] (by decide +kernel) (by decide +kernel)
set_option maxRecDepth 20000 in
theorem gX7_road_X6_next : GoodIn wsX7_road (wsV RX7 216 RX6 yX6_next wsX6_next) := goodIn_app (goodIn_of _ (by decide +kernel)) ggX7_road_X6_next
theorem dX7_road_0 : decode cX7_road 0 = .ok (.aload_n 0, 1) := by decide +kernel
theorem dX7_road_1 : decode cX7_road 1 = .ok (.iload_n 1, 1) := by decide +kernel
theorem dX7_road_2 : decode cX7_road 2 = .ok (.invokevirtual 99, 3) := by decide +kernel
theorem dX7_road_5 : decode cX7_road 5 = .ok (.ifCond .eq 18, 3) := by decide +kernel
theorem dX7_road_8 : decode cX7_road 8 = .ok (.aload_n 0, 1) := by decide +kernel
theorem dX7_road_9 : decode cX7_road 9 = .ok (.iload_n 2, 1) := by decide +kernel
theorem dX7_road_10 : decode cX7_road 10 = .ok (.invokevirtual 99, 3) := by decide +kernel
theorem dX7_road_13 : decode cX7_road 13 = .ok (.ifCond .eq 10, 3) := by decide +kernel
theorem dX7_road_16 : decode cX7_road 16 = .ok (.iload_n 3, 1) := by decide +kernel
theorem dX7_road_17 : decode cX7_road 17 = .ok (.invokestatic 103, 3) := by decide +kernel
theorem dX7_road_20 : decode cX7_road 20 = .ok (.ifCond .ne 5, 3) := by decide +kernel
theorem dX7_road_23 : decode cX7_road 23 = .ok (.iconst (-1), 1) := by decide +kernel
theorem dX7_road_24 : decode cX7_road 24 = .ok (.ireturn, 1) := by decide +kernel
theorem dX7_road_25 : decode cX7_road 25 = .ok (.aload_n 0, 1) := by decide +kernel
theorem dX7_road_26 : decode cX7_road 26 = .ok (.getfield 53, 3) := by decide +kernel
theorem dX7_road_29 : decode cX7_road 29 = .ok (.aload_n 0, 1) := by decide +kernel
theorem dX7_road_30 : decode cX7_road 30 = .ok (.getfield 27, 3) := by decide +kernel
theorem dX7_road_33 : decode cX7_road 33 = .ok (.aload_n 0, 1) := by decide +kernel
theorem dX7_road_34 : decode cX7_road 34 = .ok (.getfield 31, 3) := by decide +kernel
theorem dX7_road_37 : decode cX7_road 37 = .ok (.getfield 106, 3) := by decide +kernel
theorem dX7_road_40 : decode cX7_road 40 = .ok (.iload_n 2, 1) := by decide +kernel
theorem dX7_road_41 : decode cX7_road 41 = .ok (.invokevirtual 209, 3) := by decide +kernel
theorem dX7_road_44 : decode cX7_road 44 = .ok (.iload_n 3, 1) := by decide +kernel
theorem dX7_road_45 : decode cX7_road 45 = .ok (.ifCond .ne 15, 3) := by decide +kernel
theorem dX7_road_48 : decode cX7_road 48 = .ok (.aload_n 0, 1) := by decide +kernel
theorem dX7_road_49 : decode cX7_road 49 = .ok (.getfield 53, 3) := by decide +kernel
theorem dX7_road_52 : decode cX7_road 52 = .ok (.getfield 213, 3) := by decide +kernel
theorem dX7_road_55 : decode cX7_road 55 = .ok (.iload_n 1, 1) := by decide +kernel
theorem dX7_road_56 : decode cX7_road 56 = .ok (.iaload, 1) := by decide +kernel
theorem dX7_road_57 : decode cX7_road 57 = .ok (.goto 22, 3) := by decide +kernel
theorem dX7_road_60 : decode cX7_road 60 = .ok (.aload_n 0, 1) := by decide +kernel
theorem dX7_road_61 : decode cX7_road 61 = .ok (.getfield 53, 3) := by decide +kernel
theorem dX7_road_64 : decode cX7_road 64 = .ok (.aload_n 0, 1) := by decide +kernel
theorem dX7_road_65 : decode cX7_road 65 = .ok (.getfield 27, 3) := by decide +kernel
theorem dX7_road_68 : decode cX7_road 68 = .ok (.aload_n 0, 1) := by decide +kernel
theorem dX7_road_69 : decode cX7_road 69 = .ok (.getfield 31, 3) := by decide +kernel
theorem dX7_road_72 : decode cX7_road 72 = .ok (.getfield 106, 3) := by decide +kernel
theorem dX7_road_75 : decode cX7_road 75 = .ok (.iload_n 1, 1) := by decide +kernel
theorem dX7_road_76 : decode cX7_road 76 = .ok (.invokevirtual 216, 3) := by decide +kernel
theorem dX7_road_79 : decode cX7_road 79 = .ok (.ireturn, 1) := by decide +kernel
set_option maxRecDepth 20000 in
theorem ggX7_fear_X7_present : GoodIn wsX7_fear wsX7_present := goodIn_r _ [6, 1, 7, 8, 9, 10, 11, 12, 13, 14, 15, 16, 17, 18, 19, 20, 21, 22, 23, 5, 24, 29, 30, 31, 32, 33, 34, 35, 36, 37, 38, 39, 40, 41, 42, 43, 44, 45, 46, 47, 48, 49, 50, 51, 52, 53, 54] (by decide +kernel) (by decide +kernel)
set_option maxRecDepth 20000 in
theorem gX7_fear_X7_present : GoodIn wsX7_fear (wsV RX7 110 RX7 yX7_present wsX7_present) := goodIn_app (goodIn_of _ (by decide +kernel)) ggX7_fear_X7_present
set_option maxRecDepth 20000 in
theorem ggX7_fear_X0_placesOf : GoodIn wsX7_fear wsX0_placesOf := goodIn_r _ [28, 14, 23, 5, 24, 43, 44, 45, 46, 47, 48] (by decide +kernel) (by decide +kernel)
set_option maxRecDepth 20000 in
theorem gX7_fear_X0_placesOf : GoodIn wsX7_fear (wsV RX7 220 RX0 yX0_placesOf wsX0_placesOf) := goodIn_app (goodIn_of _ (by decide +kernel)) ggX7_fear_X0_placesOf
theorem dX7_fear_0 : decode cX7_fear 0 = .ok (.aload_n 0, 1) := by decide +kernel
theorem dX7_fear_1 : decode cX7_fear 1 = .ok (.invokevirtual 110, 3) := by decide +kernel
theorem dX7_fear_4 : decode cX7_fear 4 = .ok (.pop, 1) := by decide +kernel
theorem dX7_fear_5 : decode cX7_fear 5 = .ok (.iconst 0, 1) := by decide +kernel
theorem dX7_fear_6 : decode cX7_fear 6 = .ok (.istore_n 1, 1) := by decide +kernel
theorem dX7_fear_7 : decode cX7_fear 7 = .ok (.iconst 0, 1) := by decide +kernel
theorem dX7_fear_8 : decode cX7_fear 8 = .ok (.istore_n 2, 1) := by decide +kernel
theorem dX7_fear_9 : decode cX7_fear 9 = .ok (.iload_n 2, 1) := by decide +kernel
theorem dX7_fear_10 : decode cX7_fear 10 = .ok (.bipush 6, 2) := by decide +kernel
theorem dX7_fear_12 : decode cX7_fear 12 = .ok (.if_icmp .ge 26, 3) := by decide +kernel
theorem dX7_fear_15 : decode cX7_fear 15 = .ok (.aload_n 0, 1) := by decide +kernel
theorem dX7_fear_16 : decode cX7_fear 16 = .ok (.getfield 19, 3) := by decide +kernel
theorem dX7_fear_19 : decode cX7_fear 19 = .ok (.iload_n 2, 1) := by decide +kernel
theorem dX7_fear_20 : decode cX7_fear 20 = .ok (.invokevirtual 220, 3) := by decide +kernel
theorem dX7_fear_23 : decode cX7_fear 23 = .ok (.ifCond .ne 9, 3) := by decide +kernel
theorem dX7_fear_26 : decode cX7_fear 26 = .ok (.iload_n 1, 1) := by decide +kernel
theorem dX7_fear_27 : decode cX7_fear 27 = .ok (.iconst 1, 1) := by decide +kernel
theorem dX7_fear_28 : decode cX7_fear 28 = .ok (.iload_n 2, 1) := by decide +kernel
theorem dX7_fear_29 : decode cX7_fear 29 = .ok (.ishl, 1) := by decide +kernel
theorem dX7_fear_30 : decode cX7_fear 30 = .ok (.ior, 1) := by decide +kernel
theorem dX7_fear_31 : decode cX7_fear 31 = .ok (.istore_n 1, 1) := by decide +kernel
theorem dX7_fear_32 : decode cX7_fear 32 = .ok (.iinc 2 1, 3) := by decide +kernel
theorem dX7_fear_35 : decode cX7_fear 35 = .ok (.goto (-26), 3) := by decide +kernel
theorem dX7_fear_38 : decode cX7_fear 38 = .ok (.iload_n 1, 1) := by decide +kernel
theorem dX7_fear_39 : decode cX7_fear 39 = .ok (.ireturn, 1) := by decide +kernel
set_option maxRecDepth 20000 in
theorem ggX7_lost_X7_isWalk : GoodIn wsX7_lost wsX7_isWalk := goodIn_r _ [7, 1, 8, 88, 89, 90, 91, 92, 93, 94, 95, 96, 97, 98, 99, 100, 101] (by decide +kernel) (by decide +kernel)
set_option maxRecDepth 20000 in
theorem gX7_lost_X7_isWalk : GoodIn wsX7_lost (wsV RX7 118 RX7 yX7_isWalk wsX7_isWalk) := goodIn_app (goodIn_of _ (by decide +kernel)) ggX7_lost_X7_isWalk
set_option maxRecDepth 20000 in
theorem ggX7_lost_X5_kindOf : GoodIn wsX7_lost wsX5_kindOf := goodIn_r _ [13, 14, 97, 98, 99, 100, 101] (by decide +kernel) (by decide +kernel)
set_option maxRecDepth 20000 in
theorem gX7_lost_X5_kindOf : GoodIn wsX7_lost (wsV RX7 121 RX5 yX5_kindOf wsX5_kindOf) := goodIn_app (goodIn_of _ (by decide +kernel)) ggX7_lost_X5_kindOf
set_option maxRecDepth 20000 in
theorem ggX7_lost_X5_sizeOf : GoodIn wsX7_lost wsX5_sizeOf := goodIn_r _ [18, 19, 97, 98, 99, 100, 101] (by decide +kernel) (by decide +kernel)
set_option maxRecDepth 20000 in
theorem gX7_lost_X5_sizeOf : GoodIn wsX7_lost (wsV RX7 124 RX5 yX5_sizeOf wsX5_sizeOf) := goodIn_app (goodIn_of _ (by decide +kernel)) ggX7_lost_X5_sizeOf
set_option maxRecDepth 20000 in
theorem ggX7_lost_X7_present : GoodIn wsX7_lost wsX7_present := goodIn_r _ [23, 24, 1, 25, 26, 27, 28, 29, 30, 31, 32, 33, 34, 35, 36, 37, 38, 39, 40, 6, 41, 88, 89, 90, 91, 92, 93, 94, 95, 96, 97, 98, 99, 100, 101, 102, 103, 104, 105, 106, 107, 108, 109, 110, 111, 112, 113] (by decide +kernel) (by decide +kernel)
set_option maxRecDepth 20000 in
theorem gX7_lost_X7_present : GoodIn wsX7_lost (wsV RX7 110 RX7 yX7_present wsX7_present) := goodIn_app (goodIn_of _ (by decide +kernel)) ggX7_lost_X7_present
set_option maxRecDepth 20000 in
theorem ggX7_lost_X6_chance : GoodIn wsX7_lost wsX6_chance := goodIn_r _ [46, 47, 48, 49, 50, 51, 52, 53, 12, 54, 55, 56, 57, 58, 29, 59, 31, 40, 6, 41, 60, 34, 35, 36, 37, 38, 39, 61, 62, 63, 45, 64, 65, 66, 67, 68, 69, 70, 71, 72, 73, 74, 75, 76, 77, 78, 79, 80, 81, 82, 83, 84, 85, 86, 87, 114, 115, 116, 102, 103, 104, 105, 106, 107, 97, 98, 99, 100, 101, 108, 109, 110, 111, 112, 113] (by decide +kernel) (by decide +kernel)
set_option maxRecDepth 20000 in
theorem gX7_lost_X6_chance : GoodIn wsX7_lost (wsV RX7 223 RX6 yX6_chance wsX6_chance) := goodIn_app (goodIn_of _ (by decide +kernel)) ggX7_lost_X6_chance
theorem dX7_lost_0 : decode cX7_lost 0 = .ok (.aload_n 0, 1) := by decide +kernel
theorem dX7_lost_1 : decode cX7_lost 1 = .ok (.iload_n 1, 1) := by decide +kernel
theorem dX7_lost_2 : decode cX7_lost 2 = .ok (.invokevirtual 118, 3) := by decide +kernel
theorem dX7_lost_5 : decode cX7_lost 5 = .ok (.ifCond .eq 12, 3) := by decide +kernel
theorem dX7_lost_8 : decode cX7_lost 8 = .ok (.iload_n 2, 1) := by decide +kernel
theorem dX7_lost_9 : decode cX7_lost 9 = .ok (.ifCond .lt 8, 3) := by decide +kernel
theorem dX7_lost_12 : decode cX7_lost 12 = .ok (.iload_n 2, 1) := by decide +kernel
theorem dX7_lost_13 : decode cX7_lost 13 = .ok (.iconst 5, 1) := by decide +kernel
theorem dX7_lost_14 : decode cX7_lost 14 = .ok (.if_icmp .lt 5, 3) := by decide +kernel
theorem dX7_lost_17 : decode cX7_lost 17 = .ok (.iconst (-1), 1) := by decide +kernel
theorem dX7_lost_18 : decode cX7_lost 18 = .ok (.ireturn, 1) := by decide +kernel
theorem dX7_lost_19 : decode cX7_lost 19 = .ok (.aload_n 0, 1) := by decide +kernel
theorem dX7_lost_20 : decode cX7_lost 20 = .ok (.getfield 31, 3) := by decide +kernel
theorem dX7_lost_23 : decode cX7_lost 23 = .ok (.iload_n 1, 1) := by decide +kernel
theorem dX7_lost_24 : decode cX7_lost 24 = .ok (.invokevirtual 121, 3) := by decide +kernel
theorem dX7_lost_27 : decode cX7_lost 27 = .ok (.ifCond .ne 15, 3) := by decide +kernel
theorem dX7_lost_30 : decode cX7_lost 30 = .ok (.aload_n 0, 1) := by decide +kernel
theorem dX7_lost_31 : decode cX7_lost 31 = .ok (.getfield 31, 3) := by decide +kernel
theorem dX7_lost_34 : decode cX7_lost 34 = .ok (.iload_n 1, 1) := by decide +kernel
theorem dX7_lost_35 : decode cX7_lost 35 = .ok (.invokevirtual 124, 3) := by decide +kernel
theorem dX7_lost_38 : decode cX7_lost 38 = .ok (.iload_n 2, 1) := by decide +kernel
theorem dX7_lost_39 : decode cX7_lost 39 = .ok (.if_icmp .gt 6, 3) := by decide +kernel
theorem dX7_lost_42 : decode cX7_lost 42 = .ok (.bipush (-2), 2) := by decide +kernel
theorem dX7_lost_44 : decode cX7_lost 44 = .ok (.ireturn, 1) := by decide +kernel
theorem dX7_lost_45 : decode cX7_lost 45 = .ok (.aload_n 0, 1) := by decide +kernel
theorem dX7_lost_46 : decode cX7_lost 46 = .ok (.getfield 53, 3) := by decide +kernel
theorem dX7_lost_49 : decode cX7_lost 49 = .ok (.aload_n 0, 1) := by decide +kernel
theorem dX7_lost_50 : decode cX7_lost 50 = .ok (.invokevirtual 110, 3) := by decide +kernel
theorem dX7_lost_53 : decode cX7_lost 53 = .ok (.aload_n 0, 1) := by decide +kernel
theorem dX7_lost_54 : decode cX7_lost 54 = .ok (.getfield 31, 3) := by decide +kernel
theorem dX7_lost_57 : decode cX7_lost 57 = .ok (.iload_n 1, 1) := by decide +kernel
theorem dX7_lost_58 : decode cX7_lost 58 = .ok (.iload_n 2, 1) := by decide +kernel
theorem dX7_lost_59 : decode cX7_lost 59 = .ok (.invokevirtual 223, 3) := by decide +kernel
theorem dX7_lost_62 : decode cX7_lost 62 = .ok (.ireturn, 1) := by decide +kernel
set_option maxRecDepth 20000 in
theorem ggX7_huts_X7_isChoice : GoodIn wsX7_huts wsX7_isChoice := goodIn_r _ [10] (by decide +kernel) (by decide +kernel)
set_option maxRecDepth 20000 in
theorem gX7_huts_X7_isChoice : GoodIn wsX7_huts (va_wsS RX7 103 yX7_isChoice wsX7_isChoice) := goodIn_app (goodIn_of _ (by decide +kernel)) ggX7_huts_X7_isChoice
set_option maxRecDepth 20000 in
theorem ggX7_huts_X7_present : GoodIn wsX7_huts wsX7_present := goodIn_r _ [14, 1, 15, 16, 17, 18, 19, 20, 21, 22, 23, 24, 25, 26, 27, 28, 29, 30, 31, 9, 32, 60, 61, 62, 63, 64, 65, 66, 67, 68, 69, 70, 71, 72, 73, 74, 75, 76, 77, 78, 79, 80, 81, 82, 83, 84, 85] (by decide +kernel) (by decide +kernel)
set_option maxRecDepth 20000 in
theorem gX7_huts_X7_present : GoodIn wsX7_huts (wsV RX7 110 RX7 yX7_present wsX7_present) := goodIn_app (goodIn_of _ (by decide +kernel)) ggX7_huts_X7_present
set_option maxRecDepth 20000 in
theorem ggX7_huts_X0_placesOf : GoodIn wsX7_huts wsX0_placesOf := goodIn_r _ [36, 22, 31, 9, 32, 74, 75, 76, 77, 78, 79] (by decide +kernel) (by decide +kernel)
set_option maxRecDepth 20000 in
theorem gX7_huts_X0_placesOf : GoodIn wsX7_huts (wsV RX7 220 RX0 yX0_placesOf wsX0_placesOf) := goodIn_app (goodIn_of _ (by decide +kernel)) ggX7_huts_X0_placesOf
set_option maxRecDepth 20000 in
theorem ggX7_huts_X1_places : GoodIn wsX7_huts wsX1_places := goodIn_r _ [28, 29, 30, 80, 81, 82, 83, 84, 85] (by decide +kernel) (by decide +kernel)
set_option maxRecDepth 20000 in
theorem gX7_huts_X1_places : GoodIn wsX7_huts (wsV RX7 94 RX1 yX1_places wsX1_places) := goodIn_app (goodIn_of _ (by decide +kernel)) ggX7_huts_X1_places
set_option maxRecDepth 20000 in
theorem ggX7_huts_X0_joined : GoodIn wsX7_huts wsX0_joined := goodIn_r _ [41, 23, 42, 43, 44, 27, 45, 46, 47, 48, 49, 30, 50, 51, 52, 74, 75, 76, 77, 78, 79, 80, 81, 82, 83, 84, 85] (by decide +kernel) (by decide +kernel)
set_option maxRecDepth 20000 in
theorem gX7_huts_X0_joined : GoodIn wsX7_huts (wsV RX7 227 RX0 yX0_joined wsX0_joined) := goodIn_app (goodIn_of _ (by decide +kernel)) ggX7_huts_X0_joined
set_option maxRecDepth 20000 in
theorem ggX7_huts_J6_bitCount_0f7a4 : GoodIn wsX7_huts wsJ6_bitCount_0f7a4 := goodIn_r _ [56, 57, 58, 59] (by decide +kernel) (by decide +kernel)
set_option maxRecDepth 20000 in
theorem gX7_huts_J6_bitCount_0f7a4 : GoodIn wsX7_huts (va_wsS RX7 230 yJ6_bitCount_0f7a4 wsJ6_bitCount_0f7a4) := goodIn_app (goodIn_of _ (by decide +kernel)) ggX7_huts_J6_bitCount_0f7a4
theorem dX7_huts_0 : decode cX7_huts 0 = .ok (.iload_n 1, 1) := by decide +kernel
theorem dX7_huts_1 : decode cX7_huts 1 = .ok (.invokestatic 103, 3) := by decide +kernel
theorem dX7_huts_4 : decode cX7_huts 4 = .ok (.ifCond .ne 5, 3) := by decide +kernel
theorem dX7_huts_7 : decode cX7_huts 7 = .ok (.iconst (-1), 1) := by decide +kernel
theorem dX7_huts_8 : decode cX7_huts 8 = .ok (.ireturn, 1) := by decide +kernel
theorem dX7_huts_9 : decode cX7_huts 9 = .ok (.aload_n 0, 1) := by decide +kernel
theorem dX7_huts_10 : decode cX7_huts 10 = .ok (.invokevirtual 110, 3) := by decide +kernel
theorem dX7_huts_13 : decode cX7_huts 13 = .ok (.pop, 1) := by decide +kernel
theorem dX7_huts_14 : decode cX7_huts 14 = .ok (.aload_n 0, 1) := by decide +kernel
theorem dX7_huts_15 : decode cX7_huts 15 = .ok (.getfield 19, 3) := by decide +kernel
theorem dX7_huts_18 : decode cX7_huts 18 = .ok (.iconst 2, 1) := by decide +kernel
theorem dX7_huts_19 : decode cX7_huts 19 = .ok (.invokevirtual 220, 3) := by decide +kernel
theorem dX7_huts_22 : decode cX7_huts 22 = .ok (.istore_n 2, 1) := by decide +kernel
theorem dX7_huts_23 : decode cX7_huts 23 = .ok (.iconst 0, 1) := by decide +kernel
theorem dX7_huts_24 : decode cX7_huts 24 = .ok (.istore_n 3, 1) := by decide +kernel
theorem dX7_huts_25 : decode cX7_huts 25 = .ok (.iconst 0, 1) := by decide +kernel
theorem dX7_huts_26 : decode cX7_huts 26 = .ok (.istore 4, 2) := by decide +kernel
theorem dX7_huts_28 : decode cX7_huts 28 = .ok (.iconst 0, 1) := by decide +kernel
theorem dX7_huts_29 : decode cX7_huts 29 = .ok (.istore 5, 2) := by decide +kernel
theorem dX7_huts_31 : decode cX7_huts 31 = .ok (.iload 5, 2) := by decide +kernel
theorem dX7_huts_33 : decode cX7_huts 33 = .ok (.aload_n 0, 1) := by decide +kernel
theorem dX7_huts_34 : decode cX7_huts 34 = .ok (.getfield 27, 3) := by decide +kernel
theorem dX7_huts_37 : decode cX7_huts 37 = .ok (.invokevirtual 94, 3) := by decide +kernel
theorem dX7_huts_40 : decode cX7_huts 40 = .ok (.if_icmp .ge 55, 3) := by decide +kernel
theorem dX7_huts_43 : decode cX7_huts 43 = .ok (.iload_n 2, 1) := by decide +kernel
theorem dX7_huts_44 : decode cX7_huts 44 = .ok (.iload 5, 2) := by decide +kernel
theorem dX7_huts_46 : decode cX7_huts 46 = .ok (.ishr, 1) := by decide +kernel
theorem dX7_huts_47 : decode cX7_huts 47 = .ok (.iconst 1, 1) := by decide +kernel
theorem dX7_huts_48 : decode cX7_huts 48 = .ok (.iand, 1) := by decide +kernel
theorem dX7_huts_49 : decode cX7_huts 49 = .ok (.iconst 1, 1) := by decide +kernel
theorem dX7_huts_50 : decode cX7_huts 50 = .ok (.if_icmp .ne 39, 3) := by decide +kernel
theorem dX7_huts_53 : decode cX7_huts 53 = .ok (.aload_n 0, 1) := by decide +kernel
theorem dX7_huts_54 : decode cX7_huts 54 = .ok (.getfield 19, 3) := by decide +kernel
theorem dX7_huts_57 : decode cX7_huts 57 = .ok (.iconst 1, 1) := by decide +kernel
theorem dX7_huts_58 : decode cX7_huts 58 = .ok (.iload 5, 2) := by decide +kernel
theorem dX7_huts_60 : decode cX7_huts 60 = .ok (.ishl, 1) := by decide +kernel
theorem dX7_huts_61 : decode cX7_huts 61 = .ok (.iload_n 2, 1) := by decide +kernel
theorem dX7_huts_62 : decode cX7_huts 62 = .ok (.invokevirtual 227, 3) := by decide +kernel
theorem dX7_huts_65 : decode cX7_huts 65 = .ok (.istore 6, 2) := by decide +kernel
theorem dX7_huts_67 : decode cX7_huts 67 = .ok (.iload_n 2, 1) := by decide +kernel
theorem dX7_huts_68 : decode cX7_huts 68 = .ok (.iload 6, 2) := by decide +kernel
theorem dX7_huts_70 : decode cX7_huts 70 = .ok (.iconst (-1), 1) := by decide +kernel
theorem dX7_huts_71 : decode cX7_huts 71 = .ok (.ixor, 1) := by decide +kernel
theorem dX7_huts_72 : decode cX7_huts 72 = .ok (.iand, 1) := by decide +kernel
theorem dX7_huts_73 : decode cX7_huts 73 = .ok (.istore_n 2, 1) := by decide +kernel
theorem dX7_huts_74 : decode cX7_huts 74 = .ok (.iinc 3 1, 3) := by decide +kernel
theorem dX7_huts_77 : decode cX7_huts 77 = .ok (.iload 4, 2) := by decide +kernel
theorem dX7_huts_79 : decode cX7_huts 79 = .ok (.iload 6, 2) := by decide +kernel
theorem dX7_huts_81 : decode cX7_huts 81 = .ok (.invokestatic 230, 3) := by decide +kernel
theorem dX7_huts_84 : decode cX7_huts 84 = .ok (.invokestatic 235, 3) := by decide +kernel
theorem dX7_huts_87 : decode cX7_huts 87 = .ok (.istore 4, 2) := by decide +kernel
theorem dX7_huts_89 : decode cX7_huts 89 = .ok (.iinc 5 1, 3) := by decide +kernel
theorem dX7_huts_92 : decode cX7_huts 92 = .ok (.goto (-61), 3) := by decide +kernel
theorem dX7_huts_95 : decode cX7_huts 95 = .ok (.iload_n 1, 1) := by decide +kernel
theorem dX7_huts_96 : decode cX7_huts 96 = .ok (.ifCond .ne 7, 3) := by decide +kernel
theorem dX7_huts_99 : decode cX7_huts 99 = .ok (.iload_n 3, 1) := by decide +kernel
theorem dX7_huts_100 : decode cX7_huts 100 = .ok (.goto 5, 3) := by decide +kernel
theorem dX7_huts_103 : decode cX7_huts 103 = .ok (.iload 4, 2) := by decide +kernel
theorem dX7_huts_105 : decode cX7_huts 105 = .ok (.ireturn, 1) := by decide +kernel
set_option maxRecDepth 20000 in
theorem ggX7_flood_X7_isChoice : GoodIn wsX7_flood wsX7_isChoice := goodIn_r _ [8] (by decide +kernel) (by decide +kernel)
set_option maxRecDepth 20000 in
theorem gX7_flood_X7_isChoice : GoodIn wsX7_flood (va_wsS RX7 103 yX7_isChoice wsX7_isChoice) := goodIn_app (goodIn_of _ (by decide +kernel)) ggX7_flood_X7_isChoice
set_option maxRecDepth 20000 in
theorem ggX7_flood_X5_copy : GoodIn wsX7_flood wsX5_copy := goodIn_r _ [13, 14, 15, 16, 17, 18, 19, 20, 21, 22, 132, 133, 134, 135, 136] (by decide +kernel) (by decide +kernel)
set_option maxRecDepth 20000 in
theorem gX7_flood_X5_copy : GoodIn wsX7_flood (wsV RX7 188 RX5 yX5_copy wsX5_copy) := goodIn_app (goodIn_of _ (by decide +kernel)) ggX7_flood_X5_copy
set_option maxRecDepth 20000 in
theorem ggX7_flood_X7_wash : GoodIn wsX7_flood wsX7_wash := goodIn_r _ [26, 27, 28, 29, 30, 31, 1, 32, 33, 34, 35, 36, 37, 38, 39, 40, 41, 12, 42, 14, 123, 124, 125, 126, 127, 128, 129, 130, 131, 137, 138, 139, 140, 141, 142, 132, 133, 134, 135, 136] (by decide +kernel) (by decide +kernel)
set_option maxRecDepth 20000 in
theorem gX7_flood_X7_wash : GoodIn wsX7_flood (wsV RX7 240 RX7 yX7_wash wsX7_wash) := goodIn_app (goodIn_of _ (by decide +kernel)) ggX7_flood_X7_wash
set_option maxRecDepth 20000 in
theorem ggX7_flood_X7_allCanLie : GoodIn wsX7_flood wsX7_allCanLie := goodIn_r _ [46, 3, 4, 47, 27, 48, 49, 50, 51, 52, 53, 54, 55, 56, 33, 34, 35, 36, 37, 38, 57, 7, 58, 59, 60, 61, 62, 63, 64, 65, 66, 12, 67, 68, 69, 70, 71, 19, 72, 73, 74, 75, 20, 76, 77, 78, 79, 21, 80, 81, 82, 83, 84, 85, 86, 87, 88, 89, 90, 91, 92, 93, 94, 95, 96, 97, 98, 99, 100, 101, 102, 103, 104, 105, 106, 107, 108, 109, 110, 111, 112, 113, 114, 115, 123, 124, 125, 126, 127, 128, 129, 130, 131, 132, 133, 134, 135, 136, 137, 138, 139, 140, 141, 142, 143, 144, 145, 146, 147, 148] (by decide +kernel) (by decide +kernel)
set_option maxRecDepth 20000 in
theorem gX7_flood_X7_allCanLie : GoodIn wsX7_flood (wsV RX7 191 RX7 yX7_allCanLie wsX7_allCanLie) := goodIn_app (goodIn_of _ (by decide +kernel)) ggX7_flood_X7_allCanLie
set_option maxRecDepth 20000 in
theorem ggX7_flood_X0_look : GoodIn wsX7_flood wsX0_look := goodIn_r _ [53, 54, 55, 56, 33, 34, 35, 36, 37, 38, 57, 7, 58, 143, 144, 145, 146, 147, 148, 137, 138, 139, 140, 141, 142] (by decide +kernel) (by decide +kernel)
set_option maxRecDepth 20000 in
theorem gX7_flood_X0_look : GoodIn wsX7_flood (wsV RX7 243 RX0 yX0_look wsX0_look) := goodIn_app (goodIn_of _ (by decide +kernel)) ggX7_flood_X0_look
set_option maxRecDepth 20000 in
theorem ggX7_flood_X0_liars : GoodIn wsX7_flood wsX0_liars := goodIn_r _ [119, 120, 55, 121, 122, 60, 61, 52, 62, 63, 64, 65, 66, 12, 67, 68, 69, 70, 71, 19, 72, 73, 74, 75, 20, 76, 77, 78, 79, 21, 80, 81, 82, 83, 54, 57, 7, 58, 84, 85, 86, 87, 88, 35, 89, 90, 91, 92, 93, 94, 95, 96, 97, 38, 98, 99, 100, 101, 102, 103, 104, 105, 106, 107, 108, 109, 110, 111, 112, 113, 114, 115, 132, 133, 134, 135, 136, 143, 144, 145, 146, 147, 148, 137, 138, 139, 140, 141, 142] (by decide +kernel) (by decide +kernel)
set_option maxRecDepth 20000 in
theorem gX7_flood_X0_liars : GoodIn wsX7_flood (wsV RX7 178 RX0 yX0_liars wsX0_liars) := goodIn_app (goodIn_of _ (by decide +kernel)) ggX7_flood_X0_liars
theorem dX7_flood_0 : decode cX7_flood 0 = .ok (.iload_n 1, 1) := by decide +kernel
theorem dX7_flood_1 : decode cX7_flood 1 = .ok (.ifCond .lt 28, 3) := by decide +kernel
theorem dX7_flood_4 : decode cX7_flood 4 = .ok (.iload_n 1, 1) := by decide +kernel
theorem dX7_flood_5 : decode cX7_flood 5 = .ok (.sipush 9999, 3) := by decide +kernel
theorem dX7_flood_8 : decode cX7_flood 8 = .ok (.if_icmp .gt 21, 3) := by decide +kernel
theorem dX7_flood_11 : decode cX7_flood 11 = .ok (.iload_n 2, 1) := by decide +kernel
theorem dX7_flood_12 : decode cX7_flood 12 = .ok (.iconst 1, 1) := by decide +kernel
theorem dX7_flood_13 : decode cX7_flood 13 = .ok (.if_icmp .lt 16, 3) := by decide +kernel
theorem dX7_flood_16 : decode cX7_flood 16 = .ok (.iload_n 2, 1) := by decide +kernel
theorem dX7_flood_17 : decode cX7_flood 17 = .ok (.bipush 40, 2) := by decide +kernel
theorem dX7_flood_19 : decode cX7_flood 19 = .ok (.if_icmp .gt 10, 3) := by decide +kernel
theorem dX7_flood_22 : decode cX7_flood 22 = .ok (.iload_n 3, 1) := by decide +kernel
theorem dX7_flood_23 : decode cX7_flood 23 = .ok (.invokestatic 103, 3) := by decide +kernel
theorem dX7_flood_26 : decode cX7_flood 26 = .ok (.ifCond .ne 5, 3) := by decide +kernel
theorem dX7_flood_29 : decode cX7_flood 29 = .ok (.iconst (-1), 1) := by decide +kernel
theorem dX7_flood_30 : decode cX7_flood 30 = .ok (.ireturn, 1) := by decide +kernel
theorem dX7_flood_31 : decode cX7_flood 31 = .ok (.aload_n 0, 1) := by decide +kernel
theorem dX7_flood_32 : decode cX7_flood 32 = .ok (.getfield 35, 3) := by decide +kernel
theorem dX7_flood_35 : decode cX7_flood 35 = .ok (.aload_n 0, 1) := by decide +kernel
theorem dX7_flood_36 : decode cX7_flood 36 = .ok (.getfield 31, 3) := by decide +kernel
theorem dX7_flood_39 : decode cX7_flood 39 = .ok (.invokevirtual 188, 3) := by decide +kernel
theorem dX7_flood_42 : decode cX7_flood 42 = .ok (.iconst 0, 1) := by decide +kernel
theorem dX7_flood_43 : decode cX7_flood 43 = .ok (.istore 4, 2) := by decide +kernel
theorem dX7_flood_45 : decode cX7_flood 45 = .ok (.iload 4, 2) := by decide +kernel
theorem dX7_flood_47 : decode cX7_flood 47 = .ok (.iload_n 2, 1) := by decide +kernel
theorem dX7_flood_48 : decode cX7_flood 48 = .ok (.if_icmp .ge 37, 3) := by decide +kernel
theorem dX7_flood_51 : decode cX7_flood 51 = .ok (.aload_n 0, 1) := by decide +kernel
theorem dX7_flood_52 : decode cX7_flood 52 = .ok (.iload_n 1, 1) := by decide +kernel
theorem dX7_flood_53 : decode cX7_flood 53 = .ok (.iload 4, 2) := by decide +kernel
theorem dX7_flood_55 : decode cX7_flood 55 = .ok (.invokevirtual 240, 3) := by decide +kernel
theorem dX7_flood_58 : decode cX7_flood 58 = .ok (.iload_n 3, 1) := by decide +kernel
theorem dX7_flood_59 : decode cX7_flood 59 = .ok (.iconst 1, 1) := by decide +kernel
theorem dX7_flood_60 : decode cX7_flood 60 = .ok (.if_icmp .ne 19, 3) := by decide +kernel
theorem dX7_flood_63 : decode cX7_flood 63 = .ok (.aload_n 0, 1) := by decide +kernel
theorem dX7_flood_64 : decode cX7_flood 64 = .ok (.aload_n 0, 1) := by decide +kernel
theorem dX7_flood_65 : decode cX7_flood 65 = .ok (.getfield 35, 3) := by decide +kernel
theorem dX7_flood_68 : decode cX7_flood 68 = .ok (.invokevirtual 191, 3) := by decide +kernel
theorem dX7_flood_71 : decode cX7_flood 71 = .ok (.ifCond .ne 8, 3) := by decide +kernel
theorem dX7_flood_74 : decode cX7_flood 74 = .ok (.iload 4, 2) := by decide +kernel
theorem dX7_flood_76 : decode cX7_flood 76 = .ok (.iconst 1, 1) := by decide +kernel
theorem dX7_flood_77 : decode cX7_flood 77 = .ok (.iadd, 1) := by decide +kernel
theorem dX7_flood_78 : decode cX7_flood 78 = .ok (.ireturn, 1) := by decide +kernel
theorem dX7_flood_79 : decode cX7_flood 79 = .ok (.iinc 4 1, 3) := by decide +kernel
theorem dX7_flood_82 : decode cX7_flood 82 = .ok (.goto (-37), 3) := by decide +kernel
theorem dX7_flood_85 : decode cX7_flood 85 = .ok (.iload_n 3, 1) := by decide +kernel
theorem dX7_flood_86 : decode cX7_flood 86 = .ok (.iconst 1, 1) := by decide +kernel
theorem dX7_flood_87 : decode cX7_flood 87 = .ok (.if_icmp .ne 6, 3) := by decide +kernel
theorem dX7_flood_90 : decode cX7_flood 90 = .ok (.bipush (-4), 2) := by decide +kernel
theorem dX7_flood_92 : decode cX7_flood 92 = .ok (.ireturn, 1) := by decide +kernel
theorem dX7_flood_93 : decode cX7_flood 93 = .ok (.aload_n 0, 1) := by decide +kernel
theorem dX7_flood_94 : decode cX7_flood 94 = .ok (.getfield 19, 3) := by decide +kernel
theorem dX7_flood_97 : decode cX7_flood 97 = .ok (.aload_n 0, 1) := by decide +kernel
theorem dX7_flood_98 : decode cX7_flood 98 = .ok (.getfield 35, 3) := by decide +kernel
theorem dX7_flood_101 : decode cX7_flood 101 = .ok (.getfield 106, 3) := by decide +kernel
theorem dX7_flood_104 : decode cX7_flood 104 = .ok (.invokevirtual 243, 3) := by decide +kernel
theorem dX7_flood_107 : decode cX7_flood 107 = .ok (.aload_n 0, 1) := by decide +kernel
theorem dX7_flood_108 : decode cX7_flood 108 = .ok (.getfield 19, 3) := by decide +kernel
theorem dX7_flood_111 : decode cX7_flood 111 = .ok (.aload_n 0, 1) := by decide +kernel
theorem dX7_flood_112 : decode cX7_flood 112 = .ok (.getfield 35, 3) := by decide +kernel
theorem dX7_flood_115 : decode cX7_flood 115 = .ok (.invokevirtual 178, 3) := by decide +kernel
theorem dX7_flood_118 : decode cX7_flood 118 = .ok (.ireturn, 1) := by decide +kernel
set_option maxRecDepth 20000 in
theorem ggX7_keep_X2_push : GoodIn wsX7_keep wsX2_push := goodIn_r _ [8, 9, 10, 11, 12, 13, 7, 14, 15, 16, 17, 18, 19, 20, 21, 22, 23, 24, 25, 26, 27, 28, 38, 39, 40, 41, 42, 43, 44] (by decide +kernel) (by decide +kernel)
set_option maxRecDepth 20000 in
theorem gX7_keep_X2_push : GoodIn wsX7_keep (wsV RX7 131 RX2 yX2_push wsX2_push) := goodIn_app (goodIn_of _ (by decide +kernel)) ggX7_keep_X2_push
theorem dX7_keep_0 : decode cX7_keep 0 = .ok (.aload_n 0, 1) := by decide +kernel
theorem dX7_keep_1 : decode cX7_keep 1 = .ok (.getfield 47, 3) := by decide +kernel
theorem dX7_keep_4 : decode cX7_keep 4 = .ok (.getfield 164, 3) := by decide +kernel
theorem dX7_keep_7 : decode cX7_keep 7 = .ok (.iconst 2, 1) := by decide +kernel
theorem dX7_keep_8 : decode cX7_keep 8 = .ok (.if_icmp .lt 6, 3) := by decide +kernel
theorem dX7_keep_11 : decode cX7_keep 11 = .ok (.bipush (-3), 2) := by decide +kernel
theorem dX7_keep_13 : decode cX7_keep 13 = .ok (.ireturn, 1) := by decide +kernel
theorem dX7_keep_14 : decode cX7_keep 14 = .ok (.aload_n 0, 1) := by decide +kernel
theorem dX7_keep_15 : decode cX7_keep 15 = .ok (.getfield 47, 3) := by decide +kernel
theorem dX7_keep_18 : decode cX7_keep 18 = .ok (.aload_n 0, 1) := by decide +kernel
theorem dX7_keep_19 : decode cX7_keep 19 = .ok (.getfield 31, 3) := by decide +kernel
theorem dX7_keep_22 : decode cX7_keep 22 = .ok (.invokevirtual 131, 3) := by decide +kernel
theorem dX7_keep_25 : decode cX7_keep 25 = .ok (.aload_n 0, 1) := by decide +kernel
theorem dX7_keep_26 : decode cX7_keep 26 = .ok (.getfield 47, 3) := by decide +kernel
theorem dX7_keep_29 : decode cX7_keep 29 = .ok (.getfield 164, 3) := by decide +kernel
theorem dX7_keep_32 : decode cX7_keep 32 = .ok (.ireturn, 1) := by decide +kernel
set_option maxRecDepth 20000 in
theorem ggX7_back_X2_pop : GoodIn wsX7_back wsX2_pop := goodIn_r _ [9, 10, 11, 12, 13, 14, 15, 16, 17, 18, 19, 20, 21, 22, 23, 24, 25, 39, 40, 41, 42, 43, 44, 45] (by decide +kernel) (by decide +kernel)
set_option maxRecDepth 20000 in
theorem gX7_back_X2_pop : GoodIn wsX7_back (wsV RX7 160 RX2 yX2_pop wsX2_pop) := goodIn_app (goodIn_of _ (by decide +kernel)) ggX7_back_X2_pop
set_option maxRecDepth 20000 in
theorem ggX7_back_X2_clear : GoodIn wsX7_back wsX2_clear := goodIn_r _ [29, 10, 39, 40] (by decide +kernel) (by decide +kernel)
set_option maxRecDepth 20000 in
theorem gX7_back_X2_clear : GoodIn wsX7_back (wsV RX7 93 RX2 yX2_clear wsX2_clear) := goodIn_app (goodIn_of _ (by decide +kernel)) ggX7_back_X2_clear
theorem dX7_back_0 : decode cX7_back 0 = .ok (.aload_n 0, 1) := by decide +kernel
theorem dX7_back_1 : decode cX7_back 1 = .ok (.getfield 47, 3) := by decide +kernel
theorem dX7_back_4 : decode cX7_back 4 = .ok (.aload_n 0, 1) := by decide +kernel
theorem dX7_back_5 : decode cX7_back 5 = .ok (.getfield 31, 3) := by decide +kernel
theorem dX7_back_8 : decode cX7_back 8 = .ok (.invokevirtual 160, 3) := by decide +kernel
theorem dX7_back_11 : decode cX7_back 11 = .ok (.ifCond .ne 6, 3) := by decide +kernel
theorem dX7_back_14 : decode cX7_back 14 = .ok (.bipush (-2), 2) := by decide +kernel
theorem dX7_back_16 : decode cX7_back 16 = .ok (.ireturn, 1) := by decide +kernel
theorem dX7_back_17 : decode cX7_back 17 = .ok (.aload_n 0, 1) := by decide +kernel
theorem dX7_back_18 : decode cX7_back 18 = .ok (.getfield 43, 3) := by decide +kernel
theorem dX7_back_21 : decode cX7_back 21 = .ok (.invokevirtual 93, 3) := by decide +kernel
theorem dX7_back_24 : decode cX7_back 24 = .ok (.aload_n 0, 1) := by decide +kernel
theorem dX7_back_25 : decode cX7_back 25 = .ok (.getfield 47, 3) := by decide +kernel
theorem dX7_back_28 : decode cX7_back 28 = .ok (.getfield 164, 3) := by decide +kernel
theorem dX7_back_31 : decode cX7_back 31 = .ok (.ireturn, 1) := by decide +kernel
set_option maxRecDepth 20000 in
theorem ggX7_count_X1_places : GoodIn wsX7_count wsX1_places := goodIn_r _ [14, 15, 16, 26, 27, 28, 29, 30, 31] (by decide +kernel) (by decide +kernel)
set_option maxRecDepth 20000 in
theorem gX7_count_X1_places : GoodIn wsX7_count (wsV RX7 94 RX1 yX1_places wsX1_places) := goodIn_app (goodIn_of _ (by decide +kernel)) ggX7_count_X1_places
theorem dX7_count_0 : decode cX7_count 0 = .ok (.iload_n 1, 1) := by decide +kernel
theorem dX7_count_1 : decode cX7_count 1 = .ok (.tableswitch 87 0 5 #[39, 47, 55, 63, 71, 79], 39) := by decide +kernel
theorem dX7_count_40 : decode cX7_count 40 = .ok (.aload_n 0, 1) := by decide +kernel
theorem dX7_count_41 : decode cX7_count 41 = .ok (.getfield 27, 3) := by decide +kernel
theorem dX7_count_44 : decode cX7_count 44 = .ok (.invokevirtual 94, 3) := by decide +kernel
theorem dX7_count_47 : decode cX7_count 47 = .ok (.ireturn, 1) := by decide +kernel
theorem dX7_count_48 : decode cX7_count 48 = .ok (.aload_n 0, 1) := by decide +kernel
theorem dX7_count_49 : decode cX7_count 49 = .ok (.getfield 27, 3) := by decide +kernel
theorem dX7_count_52 : decode cX7_count 52 = .ok (.getfield 247, 3) := by decide +kernel
theorem dX7_count_55 : decode cX7_count 55 = .ok (.ireturn, 1) := by decide +kernel
theorem dX7_count_56 : decode cX7_count 56 = .ok (.aload_n 0, 1) := by decide +kernel
theorem dX7_count_57 : decode cX7_count 57 = .ok (.getfield 31, 3) := by decide +kernel
theorem dX7_count_60 : decode cX7_count 60 = .ok (.getfield 148, 3) := by decide +kernel
theorem dX7_count_63 : decode cX7_count 63 = .ok (.ireturn, 1) := by decide +kernel
theorem dX7_count_64 : decode cX7_count 64 = .ok (.aload_n 0, 1) := by decide +kernel
theorem dX7_count_65 : decode cX7_count 65 = .ok (.getfield 43, 3) := by decide +kernel
theorem dX7_count_68 : decode cX7_count 68 = .ok (.getfield 164, 3) := by decide +kernel
theorem dX7_count_71 : decode cX7_count 71 = .ok (.ireturn, 1) := by decide +kernel
theorem dX7_count_72 : decode cX7_count 72 = .ok (.aload_n 0, 1) := by decide +kernel
theorem dX7_count_73 : decode cX7_count 73 = .ok (.getfield 47, 3) := by decide +kernel
theorem dX7_count_76 : decode cX7_count 76 = .ok (.getfield 164, 3) := by decide +kernel
theorem dX7_count_79 : decode cX7_count 79 = .ok (.ireturn, 1) := by decide +kernel
theorem dX7_count_80 : decode cX7_count 80 = .ok (.aload_n 0, 1) := by decide +kernel
theorem dX7_count_81 : decode cX7_count 81 = .ok (.getfield 10, 3) := by decide +kernel
theorem dX7_count_84 : decode cX7_count 84 = .ok (.getfield 87, 3) := by decide +kernel
theorem dX7_count_87 : decode cX7_count 87 = .ok (.ireturn, 1) := by decide +kernel
theorem dX7_count_88 : decode cX7_count 88 = .ok (.iconst (-1), 1) := by decide +kernel
theorem dX7_count_89 : decode cX7_count 89 = .ok (.ireturn, 1) := by decide +kernel
set_option maxRecDepth 20000 in
theorem ggX7_isPlace_X1_places : GoodIn wsX7_isPlace wsX1_places := goodIn_r _ [6, 7, 8, 18, 19, 20, 21, 22, 23] (by decide +kernel) (by decide +kernel)
set_option maxRecDepth 20000 in
theorem gX7_isPlace_X1_places : GoodIn wsX7_isPlace (wsV RX7 94 RX1 yX1_places wsX1_places) := goodIn_app (goodIn_of _ (by decide +kernel)) ggX7_isPlace_X1_places
theorem dX7_isPlace_0 : decode cX7_isPlace 0 = .ok (.iload_n 1, 1) := by decide +kernel
theorem dX7_isPlace_1 : decode cX7_isPlace 1 = .ok (.ifCond .lt 24, 3) := by decide +kernel
theorem dX7_isPlace_4 : decode cX7_isPlace 4 = .ok (.iload_n 1, 1) := by decide +kernel
theorem dX7_isPlace_5 : decode cX7_isPlace 5 = .ok (.aload_n 0, 1) := by decide +kernel
theorem dX7_isPlace_6 : decode cX7_isPlace 6 = .ok (.getfield 27, 3) := by decide +kernel
theorem dX7_isPlace_9 : decode cX7_isPlace 9 = .ok (.invokevirtual 94, 3) := by decide +kernel
theorem dX7_isPlace_12 : decode cX7_isPlace 12 = .ok (.if_icmp .ge 13, 3) := by decide +kernel
theorem dX7_isPlace_15 : decode cX7_isPlace 15 = .ok (.iload_n 1, 1) := by decide +kernel
theorem dX7_isPlace_16 : decode cX7_isPlace 16 = .ok (.bipush 16, 2) := by decide +kernel
theorem dX7_isPlace_18 : decode cX7_isPlace 18 = .ok (.if_icmp .ge 7, 3) := by decide +kernel
theorem dX7_isPlace_21 : decode cX7_isPlace 21 = .ok (.iconst 1, 1) := by decide +kernel
theorem dX7_isPlace_22 : decode cX7_isPlace 22 = .ok (.goto 4, 3) := by decide +kernel
theorem dX7_isPlace_25 : decode cX7_isPlace 25 = .ok (.iconst 0, 1) := by decide +kernel
theorem dX7_isPlace_26 : decode cX7_isPlace 26 = .ok (.ireturn, 1) := by decide +kernel
theorem dX7_isWalk_0 : decode cX7_isWalk 0 = .ok (.iload_n 1, 1) := by decide +kernel
theorem dX7_isWalk_1 : decode cX7_isWalk 1 = .ok (.ifCond .lt 23, 3) := by decide +kernel
theorem dX7_isWalk_4 : decode cX7_isWalk 4 = .ok (.iload_n 1, 1) := by decide +kernel
theorem dX7_isWalk_5 : decode cX7_isWalk 5 = .ok (.aload_n 0, 1) := by decide +kernel
theorem dX7_isWalk_6 : decode cX7_isWalk 6 = .ok (.getfield 31, 3) := by decide +kernel
theorem dX7_isWalk_9 : decode cX7_isWalk 9 = .ok (.getfield 148, 3) := by decide +kernel
theorem dX7_isWalk_12 : decode cX7_isWalk 12 = .ok (.if_icmp .ge 12, 3) := by decide +kernel
theorem dX7_isWalk_15 : decode cX7_isWalk 15 = .ok (.iload_n 1, 1) := by decide +kernel
theorem dX7_isWalk_16 : decode cX7_isWalk 16 = .ok (.iconst 5, 1) := by decide +kernel
theorem dX7_isWalk_17 : decode cX7_isWalk 17 = .ok (.if_icmp .ge 7, 3) := by decide +kernel
theorem dX7_isWalk_20 : decode cX7_isWalk 20 = .ok (.iconst 1, 1) := by decide +kernel
theorem dX7_isWalk_21 : decode cX7_isWalk 21 = .ok (.goto 4, 3) := by decide +kernel
theorem dX7_isWalk_24 : decode cX7_isWalk 24 = .ok (.iconst 0, 1) := by decide +kernel
theorem dX7_isWalk_25 : decode cX7_isWalk 25 = .ok (.ireturn, 1) := by decide +kernel
theorem dX7_isMark_0 : decode cX7_isMark 0 = .ok (.iload_n 0, 1) := by decide +kernel
theorem dX7_isMark_1 : decode cX7_isMark 1 = .ok (.ifCond .lt 13, 3) := by decide +kernel
theorem dX7_isMark_4 : decode cX7_isMark 4 = .ok (.iload_n 0, 1) := by decide +kernel
theorem dX7_isMark_5 : decode cX7_isMark 5 = .ok (.bipush 6, 2) := by decide +kernel
theorem dX7_isMark_7 : decode cX7_isMark 7 = .ok (.if_icmp .ge 7, 3) := by decide +kernel
theorem dX7_isMark_10 : decode cX7_isMark 10 = .ok (.iconst 1, 1) := by decide +kernel
theorem dX7_isMark_11 : decode cX7_isMark 11 = .ok (.goto 4, 3) := by decide +kernel
theorem dX7_isMark_14 : decode cX7_isMark 14 = .ok (.iconst 0, 1) := by decide +kernel
theorem dX7_isMark_15 : decode cX7_isMark 15 = .ok (.ireturn, 1) := by decide +kernel
theorem dX7_isKind_0 : decode cX7_isKind 0 = .ok (.iload_n 0, 1) := by decide +kernel
theorem dX7_isKind_1 : decode cX7_isKind 1 = .ok (.ifCond .lt 12, 3) := by decide +kernel
theorem dX7_isKind_4 : decode cX7_isKind 4 = .ok (.iload_n 0, 1) := by decide +kernel
theorem dX7_isKind_5 : decode cX7_isKind 5 = .ok (.iconst 3, 1) := by decide +kernel
theorem dX7_isKind_6 : decode cX7_isKind 6 = .ok (.if_icmp .gt 7, 3) := by decide +kernel
theorem dX7_isKind_9 : decode cX7_isKind 9 = .ok (.iconst 1, 1) := by decide +kernel
theorem dX7_isKind_10 : decode cX7_isKind 10 = .ok (.goto 4, 3) := by decide +kernel
theorem dX7_isKind_13 : decode cX7_isKind 13 = .ok (.iconst 0, 1) := by decide +kernel
theorem dX7_isKind_14 : decode cX7_isKind 14 = .ok (.ireturn, 1) := by decide +kernel
theorem dX7_isChoice_0 : decode cX7_isChoice 0 = .ok (.iload_n 0, 1) := by decide +kernel
theorem dX7_isChoice_1 : decode cX7_isChoice 1 = .ok (.ifCond .eq 8, 3) := by decide +kernel
theorem dX7_isChoice_4 : decode cX7_isChoice 4 = .ok (.iload_n 0, 1) := by decide +kernel
theorem dX7_isChoice_5 : decode cX7_isChoice 5 = .ok (.iconst 1, 1) := by decide +kernel
theorem dX7_isChoice_6 : decode cX7_isChoice 6 = .ok (.if_icmp .ne 7, 3) := by decide +kernel
theorem dX7_isChoice_9 : decode cX7_isChoice 9 = .ok (.iconst 1, 1) := by decide +kernel
theorem dX7_isChoice_10 : decode cX7_isChoice 10 = .ok (.goto 4, 3) := by decide +kernel
theorem dX7_isChoice_13 : decode cX7_isChoice 13 = .ok (.iconst 0, 1) := by decide +kernel
theorem dX7_isChoice_14 : decode cX7_isChoice 14 = .ok (.ireturn, 1) := by decide +kernel
theorem dX7_areFigures_0 : decode cX7_areFigures 0 = .ok (.iload_n 0, 1) := by decide +kernel
theorem dX7_areFigures_1 : decode cX7_areFigures 1 = .ok (.bipush 11, 2) := by decide +kernel
theorem dX7_areFigures_3 : decode cX7_areFigures 3 = .ok (.if_icmp .lt 9, 3) := by decide +kernel
theorem dX7_areFigures_6 : decode cX7_areFigures 6 = .ok (.iload_n 0, 1) := by decide +kernel
theorem dX7_areFigures_7 : decode cX7_areFigures 7 = .ok (.ldc 250, 2) := by decide +kernel
theorem dX7_areFigures_9 : decode cX7_areFigures 9 = .ok (.if_icmp .le 5, 3) := by decide +kernel
theorem dX7_areFigures_12 : decode cX7_areFigures 12 = .ok (.iconst 0, 1) := by decide +kernel
theorem dX7_areFigures_13 : decode cX7_areFigures 13 = .ok (.ireturn, 1) := by decide +kernel
theorem dX7_areFigures_14 : decode cX7_areFigures 14 = .ok (.iconst 1, 1) := by decide +kernel
theorem dX7_areFigures_15 : decode cX7_areFigures 15 = .ok (.istore_n 1, 1) := by decide +kernel
theorem dX7_areFigures_16 : decode cX7_areFigures 16 = .ok (.iload_n 1, 1) := by decide +kernel
theorem dX7_areFigures_17 : decode cX7_areFigures 17 = .ok (.sipush 10000, 3) := by decide +kernel
theorem dX7_areFigures_20 : decode cX7_areFigures 20 = .ok (.if_icmp .gt 36, 3) := by decide +kernel
theorem dX7_areFigures_23 : decode cX7_areFigures 23 = .ok (.iload_n 0, 1) := by decide +kernel
theorem dX7_areFigures_24 : decode cX7_areFigures 24 = .ok (.iload_n 1, 1) := by decide +kernel
theorem dX7_areFigures_25 : decode cX7_areFigures 25 = .ok (.idiv, 1) := by decide +kernel
theorem dX7_areFigures_26 : decode cX7_areFigures 26 = .ok (.bipush 10, 2) := by decide +kernel
theorem dX7_areFigures_28 : decode cX7_areFigures 28 = .ok (.irem, 1) := by decide +kernel
theorem dX7_areFigures_29 : decode cX7_areFigures 29 = .ok (.istore_n 2, 1) := by decide +kernel
theorem dX7_areFigures_30 : decode cX7_areFigures 30 = .ok (.iload_n 0, 1) := by decide +kernel
theorem dX7_areFigures_31 : decode cX7_areFigures 31 = .ok (.iload_n 1, 1) := by decide +kernel
theorem dX7_areFigures_32 : decode cX7_areFigures 32 = .ok (.if_icmp .lt 16, 3) := by decide +kernel
theorem dX7_areFigures_35 : decode cX7_areFigures 35 = .ok (.iload_n 2, 1) := by decide +kernel
theorem dX7_areFigures_36 : decode cX7_areFigures 36 = .ok (.iconst 1, 1) := by decide +kernel
theorem dX7_areFigures_37 : decode cX7_areFigures 37 = .ok (.if_icmp .lt 9, 3) := by decide +kernel
theorem dX7_areFigures_40 : decode cX7_areFigures 40 = .ok (.iload_n 2, 1) := by decide +kernel
theorem dX7_areFigures_41 : decode cX7_areFigures 41 = .ok (.bipush 6, 2) := by decide +kernel
theorem dX7_areFigures_43 : decode cX7_areFigures 43 = .ok (.if_icmp .le 5, 3) := by decide +kernel
theorem dX7_areFigures_46 : decode cX7_areFigures 46 = .ok (.iconst 0, 1) := by decide +kernel
theorem dX7_areFigures_47 : decode cX7_areFigures 47 = .ok (.ireturn, 1) := by decide +kernel
theorem dX7_areFigures_48 : decode cX7_areFigures 48 = .ok (.iload_n 1, 1) := by decide +kernel
theorem dX7_areFigures_49 : decode cX7_areFigures 49 = .ok (.bipush 10, 2) := by decide +kernel
theorem dX7_areFigures_51 : decode cX7_areFigures 51 = .ok (.imul, 1) := by decide +kernel
theorem dX7_areFigures_52 : decode cX7_areFigures 52 = .ok (.istore_n 1, 1) := by decide +kernel
theorem dX7_areFigures_53 : decode cX7_areFigures 53 = .ok (.goto (-37), 3) := by decide +kernel
theorem dX7_areFigures_56 : decode cX7_areFigures 56 = .ok (.iconst 1, 1) := by decide +kernel
theorem dX7_areFigures_57 : decode cX7_areFigures 57 = .ok (.ireturn, 1) := by decide +kernel
set_option maxRecDepth 20000 in
theorem ggX7_takeOver_X3_read : GoodIn wsX7_takeOver wsX3_read := goodIn_r _ [11, 12, 13, 14, 15, 16, 17, 18, 19, 20, 21, 22, 23, 24, 25, 26, 27, 28, 29, 30, 31, 32, 33, 34, 35, 36, 37, 10, 38, 39, 40, 41, 42, 43, 44, 45, 46, 47, 48, 49, 50, 51, 52, 53, 54, 55, 56, 57, 58, 59, 60, 61, 62, 63, 64, 65, 66, 67, 68, 69, 70, 71, 72, 73, 74, 75, 76, 77, 78, 79, 80, 81, 82, 83, 84, 85, 86, 87, 88, 89, 90, 91, 92, 93, 94, 95, 96, 97, 122, 123, 124, 125, 126, 127, 128, 129, 135, 136, 137, 138, 139, 140, 130, 131, 132, 133, 134] (by decide +kernel) (by decide +kernel)
set_option maxRecDepth 20000 in
theorem gX7_takeOver_X3_read : GoodIn wsX7_takeOver (wsV RX7 90 RX3 yX3_read wsX3_read) := goodIn_app (goodIn_of _ (by decide +kernel)) ggX7_takeOver_X3_read
set_option maxRecDepth 20000 in
theorem ggX7_takeOver_X1_copy : GoodIn wsX7_takeOver wsX1_copy := goodIn_r _ [101, 23, 24, 102, 103, 104, 105, 106, 107, 19, 20, 21, 22, 25, 26, 27, 135, 136, 137, 138, 139, 140] (by decide +kernel) (by decide +kernel)
set_option maxRecDepth 20000 in
theorem gX7_takeOver_X1_copy : GoodIn wsX7_takeOver (wsV RX7 255 RX1 yX1_copy wsX1_copy) := goodIn_app (goodIn_of _ (by decide +kernel)) ggX7_takeOver_X1_copy
set_option maxRecDepth 20000 in
theorem ggX7_takeOver_X5_copy : GoodIn wsX7_takeOver wsX5_copy := goodIn_r _ [111, 33, 112, 104, 105, 106, 91, 92, 97, 34, 130, 131, 132, 133, 134] (by decide +kernel) (by decide +kernel)
set_option maxRecDepth 20000 in
theorem gX7_takeOver_X5_copy : GoodIn wsX7_takeOver (wsV RX7 188 RX5 yX5_copy wsX5_copy) := goodIn_app (goodIn_of _ (by decide +kernel)) ggX7_takeOver_X5_copy
theorem dX7_takeOver_0 : decode cX7_takeOver 0 = .ok (.aload_n 0, 1) := by decide +kernel
theorem dX7_takeOver_1 : decode cX7_takeOver 1 = .ok (.getfield 10, 3) := by decide +kernel
theorem dX7_takeOver_4 : decode cX7_takeOver 4 = .ok (.invokevirtual 90, 3) := by decide +kernel
theorem dX7_takeOver_7 : decode cX7_takeOver 7 = .ok (.bipush (-4), 2) := by decide +kernel
theorem dX7_takeOver_9 : decode cX7_takeOver 9 = .ok (.if_icmp .ne 16, 3) := by decide +kernel
theorem dX7_takeOver_12 : decode cX7_takeOver 12 = .ok (.aload_n 0, 1) := by decide +kernel
theorem dX7_takeOver_13 : decode cX7_takeOver 13 = .ok (.getfield 10, 3) := by decide +kernel
theorem dX7_takeOver_16 : decode cX7_takeOver 16 = .ok (.getfield 251, 3) := by decide +kernel
theorem dX7_takeOver_19 : decode cX7_takeOver 19 = .ok (.getfield 148, 3) := by decide +kernel
theorem dX7_takeOver_22 : decode cX7_takeOver 22 = .ok (.ifCond .ne 5, 3) := by decide +kernel
theorem dX7_takeOver_25 : decode cX7_takeOver 25 = .ok (.iconst 0, 1) := by decide +kernel
theorem dX7_takeOver_26 : decode cX7_takeOver 26 = .ok (.ireturn, 1) := by decide +kernel
theorem dX7_takeOver_27 : decode cX7_takeOver 27 = .ok (.aload_n 0, 1) := by decide +kernel
theorem dX7_takeOver_28 : decode cX7_takeOver 28 = .ok (.getfield 27, 3) := by decide +kernel
theorem dX7_takeOver_31 : decode cX7_takeOver 31 = .ok (.aload_n 0, 1) := by decide +kernel
theorem dX7_takeOver_32 : decode cX7_takeOver 32 = .ok (.getfield 10, 3) := by decide +kernel
theorem dX7_takeOver_35 : decode cX7_takeOver 35 = .ok (.getfield 254, 3) := by decide +kernel
theorem dX7_takeOver_38 : decode cX7_takeOver 38 = .ok (.invokevirtual 255, 3) := by decide +kernel
theorem dX7_takeOver_41 : decode cX7_takeOver 41 = .ok (.aload_n 0, 1) := by decide +kernel
theorem dX7_takeOver_42 : decode cX7_takeOver 42 = .ok (.getfield 31, 3) := by decide +kernel
theorem dX7_takeOver_45 : decode cX7_takeOver 45 = .ok (.aload_n 0, 1) := by decide +kernel
theorem dX7_takeOver_46 : decode cX7_takeOver 46 = .ok (.getfield 10, 3) := by decide +kernel
theorem dX7_takeOver_49 : decode cX7_takeOver 49 = .ok (.getfield 251, 3) := by decide +kernel
theorem dX7_takeOver_52 : decode cX7_takeOver 52 = .ok (.invokevirtual 188, 3) := by decide +kernel
theorem dX7_takeOver_55 : decode cX7_takeOver 55 = .ok (.iconst 1, 1) := by decide +kernel
theorem dX7_takeOver_56 : decode cX7_takeOver 56 = .ok (.ireturn, 1) := by decide +kernel
set_option maxRecDepth 20000 in
theorem ggX7_present_X0_look : GoodIn wsX7_present wsX0_look := goodIn_r _ [8, 9, 10, 11, 12, 13, 14, 15, 16, 17, 18, 19, 20, 35, 36, 37, 38, 39, 40, 41, 42, 43, 44, 45, 46] (by decide +kernel) (by decide +kernel)
set_option maxRecDepth 20000 in
theorem gX7_present_X0_look : GoodIn wsX7_present (wsV RX7 243 RX0 yX0_look wsX0_look) := goodIn_app (goodIn_of _ (by decide +kernel)) ggX7_present_X0_look
theorem dX7_present_0 : decode cX7_present 0 = .ok (.aload_n 0, 1) := by decide +kernel
theorem dX7_present_1 : decode cX7_present 1 = .ok (.getfield 19, 3) := by decide +kernel
theorem dX7_present_4 : decode cX7_present 4 = .ok (.aload_n 0, 1) := by decide +kernel
theorem dX7_present_5 : decode cX7_present 5 = .ok (.getfield 31, 3) := by decide +kernel
theorem dX7_present_8 : decode cX7_present 8 = .ok (.getfield 106, 3) := by decide +kernel
theorem dX7_present_11 : decode cX7_present 11 = .ok (.invokevirtual 243, 3) := by decide +kernel
theorem dX7_present_14 : decode cX7_present 14 = .ok (.aload_n 0, 1) := by decide +kernel
theorem dX7_present_15 : decode cX7_present 15 = .ok (.getfield 19, 3) := by decide +kernel
theorem dX7_present_18 : decode cX7_present 18 = .ok (.areturn, 1) := by decide +kernel
set_option maxRecDepth 20000 in
theorem ggX7_allCanLie_X0_look : GoodIn wsX7_allCanLie wsX0_look := goodIn_r _ [10, 11, 12, 13, 14, 15, 16, 17, 18, 19, 20, 21, 22, 104, 105, 106, 107, 108, 109, 98, 99, 100, 101, 102, 103] (by decide +kernel) (by decide +kernel)
set_option maxRecDepth 20000 in
theorem gX7_allCanLie_X0_look : GoodIn wsX7_allCanLie (wsV RX7 243 RX0 yX0_look wsX0_look) := goodIn_app (goodIn_of _ (by decide +kernel)) ggX7_allCanLie_X0_look
set_option maxRecDepth 20000 in
theorem ggX7_allCanLie_X0_goFrom : GoodIn wsX7_allCanLie wsX0_goFrom := goodIn_r _ [26, 27, 12, 28, 29, 30, 31, 32, 33, 34, 35, 36, 37, 38, 39, 40, 41, 42, 43, 44, 45, 46, 47, 48, 49, 50, 9, 51, 11, 20, 21, 22, 52, 53, 54, 55, 56, 16, 57, 58, 59, 60, 61, 62, 63, 64, 65, 19, 66, 67, 68, 69, 70, 71, 72, 73, 74, 75, 76, 77, 78, 79, 80, 81, 82, 83, 104, 105, 106, 107, 108, 109, 93, 94, 95, 96, 97, 98, 99, 100, 101, 102, 103] (by decide +kernel) (by decide +kernel)
set_option maxRecDepth 20000 in
theorem gX7_allCanLie_X0_goFrom : GoodIn wsX7_allCanLie (wsV RX7 258 RX0 yX0_goFrom wsX0_goFrom) := goodIn_app (goodIn_of _ (by decide +kernel)) ggX7_allCanLie_X0_goFrom
theorem dX7_allCanLie_0 : decode cX7_allCanLie 0 = .ok (.aload_n 0, 1) := by decide +kernel
theorem dX7_allCanLie_1 : decode cX7_allCanLie 1 = .ok (.getfield 19, 3) := by decide +kernel
theorem dX7_allCanLie_4 : decode cX7_allCanLie 4 = .ok (.aload_n 1, 1) := by decide +kernel
theorem dX7_allCanLie_5 : decode cX7_allCanLie 5 = .ok (.getfield 106, 3) := by decide +kernel
theorem dX7_allCanLie_8 : decode cX7_allCanLie 8 = .ok (.invokevirtual 243, 3) := by decide +kernel
theorem dX7_allCanLie_11 : decode cX7_allCanLie 11 = .ok (.iconst 0, 1) := by decide +kernel
theorem dX7_allCanLie_12 : decode cX7_allCanLie 12 = .ok (.istore_n 2, 1) := by decide +kernel
theorem dX7_allCanLie_13 : decode cX7_allCanLie 13 = .ok (.iload_n 2, 1) := by decide +kernel
theorem dX7_allCanLie_14 : decode cX7_allCanLie 14 = .ok (.aload_n 1, 1) := by decide +kernel
theorem dX7_allCanLie_15 : decode cX7_allCanLie 15 = .ok (.getfield 148, 3) := by decide +kernel
theorem dX7_allCanLie_18 : decode cX7_allCanLie 18 = .ok (.if_icmp .ge 30, 3) := by decide +kernel
theorem dX7_allCanLie_21 : decode cX7_allCanLie 21 = .ok (.aload_n 0, 1) := by decide +kernel
theorem dX7_allCanLie_22 : decode cX7_allCanLie 22 = .ok (.getfield 19, 3) := by decide +kernel
theorem dX7_allCanLie_25 : decode cX7_allCanLie 25 = .ok (.aload_n 1, 1) := by decide +kernel
theorem dX7_allCanLie_26 : decode cX7_allCanLie 26 = .ok (.iload_n 2, 1) := by decide +kernel
theorem dX7_allCanLie_27 : decode cX7_allCanLie 27 = .ok (.aload_n 0, 1) := by decide +kernel
theorem dX7_allCanLie_28 : decode cX7_allCanLie 28 = .ok (.getfield 27, 3) := by decide +kernel
theorem dX7_allCanLie_31 : decode cX7_allCanLie 31 = .ok (.getfield 182, 3) := by decide +kernel
theorem dX7_allCanLie_34 : decode cX7_allCanLie 34 = .ok (.invokevirtual 258, 3) := by decide +kernel
theorem dX7_allCanLie_37 : decode cX7_allCanLie 37 = .ok (.ifCond .ne 5, 3) := by decide +kernel
theorem dX7_allCanLie_40 : decode cX7_allCanLie 40 = .ok (.iconst 0, 1) := by decide +kernel
theorem dX7_allCanLie_41 : decode cX7_allCanLie 41 = .ok (.ireturn, 1) := by decide +kernel
theorem dX7_allCanLie_42 : decode cX7_allCanLie 42 = .ok (.iinc 2 1, 3) := by decide +kernel
theorem dX7_allCanLie_45 : decode cX7_allCanLie 45 = .ok (.goto (-32), 3) := by decide +kernel
theorem dX7_allCanLie_48 : decode cX7_allCanLie 48 = .ok (.iconst 1, 1) := by decide +kernel
theorem dX7_allCanLie_49 : decode cX7_allCanLie 49 = .ok (.ireturn, 1) := by decide +kernel
set_option maxRecDepth 20000 in
theorem ggX7_wouldMend_X7_isPlace : GoodIn wsX7_wouldMend wsX7_isPlace := goodIn_r _ [7, 8, 9, 10, 11, 12, 13, 14, 15, 99, 100, 101, 102, 103, 104, 105, 106, 107, 113, 114, 115, 116, 117, 118] (by decide +kernel) (by decide +kernel)
set_option maxRecDepth 20000 in
theorem gX7_wouldMend_X7_isPlace : GoodIn wsX7_wouldMend (wsV RX7 99 RX7 yX7_isPlace wsX7_isPlace) := goodIn_app (goodIn_of _ (by decide +kernel)) ggX7_wouldMend_X7_isPlace
set_option maxRecDepth 20000 in
theorem ggX7_wouldMend_X5_trade : GoodIn wsX7_wouldMend wsX5_trade := goodIn_r _ [20, 21, 108, 109, 110, 111, 112] (by decide +kernel) (by decide +kernel)
set_option maxRecDepth 20000 in
theorem gX7_wouldMend_X5_trade : GoodIn wsX7_wouldMend (wsV RX7 135 RX5 yX5_trade wsX5_trade) := goodIn_app (goodIn_of _ (by decide +kernel)) ggX7_wouldMend_X5_trade
set_option maxRecDepth 20000 in
theorem ggX7_wouldMend_X7_allCanLie : GoodIn wsX7_wouldMend wsX7_allCanLie := goodIn_r _ [25, 26, 2, 27, 8, 28, 29, 30, 31, 32, 33, 34, 35, 36, 10, 11, 12, 13, 14, 15, 37, 6, 38, 39, 40, 41, 42, 43, 44, 45, 46, 19, 47, 48, 49, 50, 51, 52, 53, 54, 55, 56, 57, 58, 59, 60, 61, 62, 63, 64, 65, 66, 67, 68, 69, 70, 71, 72, 73, 74, 75, 76, 77, 78, 79, 80, 81, 82, 83, 84, 85, 86, 87, 88, 89, 90, 91, 92, 93, 94, 95, 96, 97, 98, 99, 100, 101, 102, 103, 104, 105, 106, 107, 108, 109, 110, 111, 112, 113, 114, 115, 116, 117, 118, 119, 120, 121, 122, 123, 124] (by decide +kernel) (by decide +kernel)
set_option maxRecDepth 20000 in
theorem gX7_wouldMend_X7_allCanLie : GoodIn wsX7_wouldMend (wsV RX7 191 RX7 yX7_allCanLie wsX7_allCanLie) := goodIn_app (goodIn_of _ (by decide +kernel)) ggX7_wouldMend_X7_allCanLie
theorem dX7_wouldMend_0 : decode cX7_wouldMend 0 = .ok (.aload_n 0, 1) := by decide +kernel
theorem dX7_wouldMend_1 : decode cX7_wouldMend 1 = .ok (.iload_n 1, 1) := by decide +kernel
theorem dX7_wouldMend_2 : decode cX7_wouldMend 2 = .ok (.invokevirtual 99, 3) := by decide +kernel
theorem dX7_wouldMend_5 : decode cX7_wouldMend 5 = .ok (.ifCond .eq 32, 3) := by decide +kernel
theorem dX7_wouldMend_8 : decode cX7_wouldMend 8 = .ok (.aload_n 0, 1) := by decide +kernel
theorem dX7_wouldMend_9 : decode cX7_wouldMend 9 = .ok (.iload_n 2, 1) := by decide +kernel
theorem dX7_wouldMend_10 : decode cX7_wouldMend 10 = .ok (.invokevirtual 99, 3) := by decide +kernel
theorem dX7_wouldMend_13 : decode cX7_wouldMend 13 = .ok (.ifCond .eq 24, 3) := by decide +kernel
theorem dX7_wouldMend_16 : decode cX7_wouldMend 16 = .ok (.aload_n 0, 1) := by decide +kernel
theorem dX7_wouldMend_17 : decode cX7_wouldMend 17 = .ok (.getfield 35, 3) := by decide +kernel
theorem dX7_wouldMend_20 : decode cX7_wouldMend 20 = .ok (.getfield 106, 3) := by decide +kernel
theorem dX7_wouldMend_23 : decode cX7_wouldMend 23 = .ok (.iload_n 1, 1) := by decide +kernel
theorem dX7_wouldMend_24 : decode cX7_wouldMend 24 = .ok (.iaload, 1) := by decide +kernel
theorem dX7_wouldMend_25 : decode cX7_wouldMend 25 = .ok (.aload_n 0, 1) := by decide +kernel
theorem dX7_wouldMend_26 : decode cX7_wouldMend 26 = .ok (.getfield 35, 3) := by decide +kernel
theorem dX7_wouldMend_29 : decode cX7_wouldMend 29 = .ok (.getfield 106, 3) := by decide +kernel
theorem dX7_wouldMend_32 : decode cX7_wouldMend 32 = .ok (.iload_n 2, 1) := by decide +kernel
theorem dX7_wouldMend_33 : decode cX7_wouldMend 33 = .ok (.iaload, 1) := by decide +kernel
theorem dX7_wouldMend_34 : decode cX7_wouldMend 34 = .ok (.if_icmp .ne 5, 3) := by decide +kernel
theorem dX7_wouldMend_37 : decode cX7_wouldMend 37 = .ok (.iconst 0, 1) := by decide +kernel
theorem dX7_wouldMend_38 : decode cX7_wouldMend 38 = .ok (.ireturn, 1) := by decide +kernel
theorem dX7_wouldMend_39 : decode cX7_wouldMend 39 = .ok (.aload_n 0, 1) := by decide +kernel
theorem dX7_wouldMend_40 : decode cX7_wouldMend 40 = .ok (.getfield 35, 3) := by decide +kernel
theorem dX7_wouldMend_43 : decode cX7_wouldMend 43 = .ok (.iload_n 1, 1) := by decide +kernel
theorem dX7_wouldMend_44 : decode cX7_wouldMend 44 = .ok (.iload_n 2, 1) := by decide +kernel
theorem dX7_wouldMend_45 : decode cX7_wouldMend 45 = .ok (.invokevirtual 135, 3) := by decide +kernel
theorem dX7_wouldMend_48 : decode cX7_wouldMend 48 = .ok (.aload_n 0, 1) := by decide +kernel
theorem dX7_wouldMend_49 : decode cX7_wouldMend 49 = .ok (.aload_n 0, 1) := by decide +kernel
theorem dX7_wouldMend_50 : decode cX7_wouldMend 50 = .ok (.getfield 35, 3) := by decide +kernel
theorem dX7_wouldMend_53 : decode cX7_wouldMend 53 = .ok (.invokevirtual 191, 3) := by decide +kernel
theorem dX7_wouldMend_56 : decode cX7_wouldMend 56 = .ok (.istore_n 3, 1) := by decide +kernel
theorem dX7_wouldMend_57 : decode cX7_wouldMend 57 = .ok (.aload_n 0, 1) := by decide +kernel
theorem dX7_wouldMend_58 : decode cX7_wouldMend 58 = .ok (.getfield 35, 3) := by decide +kernel
theorem dX7_wouldMend_61 : decode cX7_wouldMend 61 = .ok (.iload_n 1, 1) := by decide +kernel
theorem dX7_wouldMend_62 : decode cX7_wouldMend 62 = .ok (.iload_n 2, 1) := by decide +kernel
theorem dX7_wouldMend_63 : decode cX7_wouldMend 63 = .ok (.invokevirtual 135, 3) := by decide +kernel
theorem dX7_wouldMend_66 : decode cX7_wouldMend 66 = .ok (.iload_n 3, 1) := by decide +kernel
theorem dX7_wouldMend_67 : decode cX7_wouldMend 67 = .ok (.ireturn, 1) := by decide +kernel
set_option maxRecDepth 20000 in
theorem ggX7_wash_X1_places : GoodIn wsX7_wash wsX1_places := goodIn_r _ [11, 12, 13, 29, 30, 31, 32, 33, 34] (by decide +kernel) (by decide +kernel)
set_option maxRecDepth 20000 in
theorem gX7_wash_X1_places : GoodIn wsX7_wash (wsV RX7 94 RX1 yX1_places wsX1_places) := goodIn_app (goodIn_of _ (by decide +kernel)) ggX7_wash_X1_places
set_option maxRecDepth 20000 in
theorem ggX7_wash_X5_trade : GoodIn wsX7_wash wsX5_trade := goodIn_r _ [18, 19, 35, 36, 37, 38, 39] (by decide +kernel) (by decide +kernel)
set_option maxRecDepth 20000 in
theorem gX7_wash_X5_trade : GoodIn wsX7_wash (wsV RX7 135 RX5 yX5_trade wsX5_trade) := goodIn_app (goodIn_of _ (by decide +kernel)) ggX7_wash_X5_trade
theorem dX7_wash_0 : decode cX7_wash 0 = .ok (.aload_n 0, 1) := by decide +kernel
theorem dX7_wash_1 : decode cX7_wash 1 = .ok (.getfield 27, 3) := by decide +kernel
theorem dX7_wash_4 : decode cX7_wash 4 = .ok (.invokevirtual 94, 3) := by decide +kernel
theorem dX7_wash_7 : decode cX7_wash 7 = .ok (.istore_n 3, 1) := by decide +kernel
theorem dX7_wash_8 : decode cX7_wash 8 = .ok (.iload_n 3, 1) := by decide +kernel
theorem dX7_wash_9 : decode cX7_wash 9 = .ok (.ifCond .gt 4, 3) := by decide +kernel
theorem dX7_wash_12 : decode cX7_wash 12 = .ok (.return_, 1) := by decide +kernel
theorem dX7_wash_13 : decode cX7_wash 13 = .ok (.ldc2_w 261, 3) := by decide +kernel
theorem dX7_wash_16 : decode cX7_wash 16 = .ok (.iload_n 1, 1) := by decide +kernel
theorem dX7_wash_17 : decode cX7_wash 17 = .ok (.i2l, 1) := by decide +kernel
theorem dX7_wash_18 : decode cX7_wash 18 = .ok (.lmul, 1) := by decide +kernel
theorem dX7_wash_19 : decode cX7_wash 19 = .ok (.ldc2_w 263, 3) := by decide +kernel
theorem dX7_wash_22 : decode cX7_wash 22 = .ok (.iload_n 2, 1) := by decide +kernel
theorem dX7_wash_23 : decode cX7_wash 23 = .ok (.i2l, 1) := by decide +kernel
theorem dX7_wash_24 : decode cX7_wash 24 = .ok (.lmul, 1) := by decide +kernel
theorem dX7_wash_25 : decode cX7_wash 25 = .ok (.ladd, 1) := by decide +kernel
theorem dX7_wash_26 : decode cX7_wash 26 = .ok (.lconst 1, 1) := by decide +kernel
theorem dX7_wash_27 : decode cX7_wash 27 = .ok (.ladd, 1) := by decide +kernel
theorem dX7_wash_28 : decode cX7_wash 28 = .ok (.lstore 4, 2) := by decide +kernel
theorem dX7_wash_30 : decode cX7_wash 30 = .ok (.lload 4, 2) := by decide +kernel
theorem dX7_wash_32 : decode cX7_wash 32 = .ok (.lload 4, 2) := by decide +kernel
theorem dX7_wash_34 : decode cX7_wash 34 = .ok (.lmul, 1) := by decide +kernel
theorem dX7_wash_35 : decode cX7_wash 35 = .ok (.ldc2_w 265, 3) := by decide +kernel
theorem dX7_wash_38 : decode cX7_wash 38 = .ok (.lrem, 1) := by decide +kernel
theorem dX7_wash_39 : decode cX7_wash 39 = .ok (.ldc2_w 267, 3) := by decide +kernel
theorem dX7_wash_42 : decode cX7_wash 42 = .ok (.ldiv, 1) := by decide +kernel
theorem dX7_wash_43 : decode cX7_wash 43 = .ok (.l2i, 1) := by decide +kernel
theorem dX7_wash_44 : decode cX7_wash 44 = .ok (.istore 6, 2) := by decide +kernel
theorem dX7_wash_46 : decode cX7_wash 46 = .ok (.aload_n 0, 1) := by decide +kernel
theorem dX7_wash_47 : decode cX7_wash 47 = .ok (.getfield 35, 3) := by decide +kernel
theorem dX7_wash_50 : decode cX7_wash 50 = .ok (.iload 6, 2) := by decide +kernel
theorem dX7_wash_52 : decode cX7_wash 52 = .ok (.iload_n 3, 1) := by decide +kernel
theorem dX7_wash_53 : decode cX7_wash 53 = .ok (.irem, 1) := by decide +kernel
theorem dX7_wash_54 : decode cX7_wash 54 = .ok (.iload 6, 2) := by decide +kernel
theorem dX7_wash_56 : decode cX7_wash 56 = .ok (.bipush 16, 2) := by decide +kernel
theorem dX7_wash_58 : decode cX7_wash 58 = .ok (.idiv, 1) := by decide +kernel
theorem dX7_wash_59 : decode cX7_wash 59 = .ok (.iload_n 3, 1) := by decide +kernel
theorem dX7_wash_60 : decode cX7_wash 60 = .ok (.irem, 1) := by decide +kernel
theorem dX7_wash_61 : decode cX7_wash 61 = .ok (.invokevirtual 135, 3) := by decide +kernel
theorem dX7_wash_64 : decode cX7_wash 64 = .ok (.return_, 1) := by decide +kernel
set_option maxRecDepth 20000 in
theorem ggX8_init_X8_empty : GoodIn wsX8_init wsX8_empty := goodIn_r _ [25, 6, 9, 7, 35, 36, 37, 38, 39, 40, 41, 42, 43, 44, 45, 46, 47, 48, 49, 50, 51, 52, 53, 54, 55, 56] (by decide +kernel) (by decide +kernel)
set_option maxRecDepth 20000 in
theorem gX8_init_X8_empty : GoodIn wsX8_init (wsV RX8 56 RX8 yX8_empty wsX8_empty) := goodIn_app (goodIn_of _ (by decide +kernel)) ggX8_init_X8_empty
set_option maxRecDepth 20000 in
theorem ggX8_init_X8_addWalk : GoodIn wsX8_init wsX8_addWalk := goodIn_r _ [28] (by decide +kernel) (by decide +kernel)
set_option maxRecDepth 20000 in
theorem gX8_init_X8_addWalk : GoodIn wsX8_init (va_wsS RX8 59 yX8_addWalk wsX8_addWalk) := goodIn_app (goodIn_of _ (by decide +kernel)) ggX8_init_X8_addWalk
set_option maxRecDepth 20000 in
theorem ggX8_init_X8_begin : GoodIn wsX8_init wsX8_begin := goodIn_r _ [32, 6, 7, 8, 9, 33, 34, 35, 36, 37, 38, 39, 40, 41, 42, 43, 44, 45, 46, 47, 48, 49, 50, 51, 52, 53, 54, 55, 56] (by decide +kernel) (by decide +kernel)
set_option maxRecDepth 20000 in
theorem gX8_init_X8_begin : GoodIn wsX8_init (wsV RX8 63 RX8 yX8_begin wsX8_begin) := goodIn_app (goodIn_of _ (by decide +kernel)) ggX8_init_X8_begin
theorem dX8_init_0 : decode cX8_init 0 = .ok (.aload_n 0, 1) := by decide +kernel
theorem dX8_init_1 : decode cX8_init 1 = .ok (.invokespecial 1, 3) := by decide +kernel
theorem dX8_init_4 : decode cX8_init 4 = .ok (.aload_n 0, 1) := by decide +kernel
theorem dX8_init_5 : decode cX8_init 5 = .ok (.sipush 200, 3) := by decide +kernel
theorem dX8_init_8 : decode cX8_init 8 = .ok (.newarray .int, 2) := by decide +kernel
theorem dX8_init_10 : decode cX8_init 10 = .ok (.putfield 7, 3) := by decide +kernel
theorem dX8_init_13 : decode cX8_init 13 = .ok (.aload_n 0, 1) := by decide +kernel
theorem dX8_init_14 : decode cX8_init 14 = .ok (.iconst 4, 1) := by decide +kernel
theorem dX8_init_15 : decode cX8_init 15 = .ok (.newarray .int, 2) := by decide +kernel
theorem dX8_init_17 : decode cX8_init 17 = .ok (.putfield 13, 3) := by decide +kernel
theorem dX8_init_20 : decode cX8_init 20 = .ok (.aload_n 0, 1) := by decide +kernel
theorem dX8_init_21 : decode cX8_init 21 = .ok (.bipush 12, 2) := by decide +kernel
theorem dX8_init_23 : decode cX8_init 23 = .ok (.newarray .int, 2) := by decide +kernel
theorem dX8_init_25 : decode cX8_init 25 = .ok (.putfield 16, 3) := by decide +kernel
theorem dX8_init_28 : decode cX8_init 28 = .ok (.aload_n 0, 1) := by decide +kernel
theorem dX8_init_29 : decode cX8_init 29 = .ok (.bipush 52, 2) := by decide +kernel
theorem dX8_init_31 : decode cX8_init 31 = .ok (.newarray .int, 2) := by decide +kernel
theorem dX8_init_33 : decode cX8_init 33 = .ok (.putfield 19, 3) := by decide +kernel
theorem dX8_init_36 : decode cX8_init 36 = .ok (.aload_n 0, 1) := by decide +kernel
theorem dX8_init_37 : decode cX8_init 37 = .ok (.bipush 52, 2) := by decide +kernel
theorem dX8_init_39 : decode cX8_init 39 = .ok (.newarray .int, 2) := by decide +kernel
theorem dX8_init_41 : decode cX8_init 41 = .ok (.putfield 22, 3) := by decide +kernel
theorem dX8_init_44 : decode cX8_init 44 = .ok (.aload_n 0, 1) := by decide +kernel
theorem dX8_init_45 : decode cX8_init 45 = .ok (.sipush 416, 3) := by decide +kernel
theorem dX8_init_48 : decode cX8_init 48 = .ok (.newarray .int, 2) := by decide +kernel
theorem dX8_init_50 : decode cX8_init 50 = .ok (.putfield 25, 3) := by decide +kernel
theorem dX8_init_53 : decode cX8_init 53 = .ok (.aload_n 0, 1) := by decide +kernel
theorem dX8_init_54 : decode cX8_init 54 = .ok (.bipush 104, 2) := by decide +kernel
theorem dX8_init_56 : decode cX8_init 56 = .ok (.newarray .int, 2) := by decide +kernel
theorem dX8_init_58 : decode cX8_init 58 = .ok (.putfield 28, 3) := by decide +kernel
theorem dX8_init_61 : decode cX8_init 61 = .ok (.aload_n 0, 1) := by decide +kernel
theorem dX8_init_62 : decode cX8_init 62 = .ok (.iconst 2, 1) := by decide +kernel
theorem dX8_init_63 : decode cX8_init 63 = .ok (.newarray .int, 2) := by decide +kernel
theorem dX8_init_65 : decode cX8_init 65 = .ok (.putfield 31, 3) := by decide +kernel
theorem dX8_init_68 : decode cX8_init 68 = .ok (.aload_n 0, 1) := by decide +kernel
theorem dX8_init_69 : decode cX8_init 69 = .ok (.iconst 5, 1) := by decide +kernel
theorem dX8_init_70 : decode cX8_init 70 = .ok (.newarray .int, 2) := by decide +kernel
theorem dX8_init_72 : decode cX8_init 72 = .ok (.putfield 34, 3) := by decide +kernel
theorem dX8_init_75 : decode cX8_init 75 = .ok (.aload_n 0, 1) := by decide +kernel
theorem dX8_init_76 : decode cX8_init 76 = .ok (.bipush 80, 2) := by decide +kernel
theorem dX8_init_78 : decode cX8_init 78 = .ok (.newarray .int, 2) := by decide +kernel
theorem dX8_init_80 : decode cX8_init 80 = .ok (.putfield 37, 3) := by decide +kernel
theorem dX8_init_83 : decode cX8_init 83 = .ok (.aload_n 0, 1) := by decide +kernel
theorem dX8_init_84 : decode cX8_init 84 = .ok (.bipush 80, 2) := by decide +kernel
theorem dX8_init_86 : decode cX8_init 86 = .ok (.newarray .int, 2) := by decide +kernel
theorem dX8_init_88 : decode cX8_init 88 = .ok (.putfield 40, 3) := by decide +kernel
theorem dX8_init_91 : decode cX8_init 91 = .ok (.aload_n 0, 1) := by decide +kernel
theorem dX8_init_92 : decode cX8_init 92 = .ok (.bipush 16, 2) := by decide +kernel
theorem dX8_init_94 : decode cX8_init 94 = .ok (.newarray .int, 2) := by decide +kernel
theorem dX8_init_96 : decode cX8_init 96 = .ok (.putfield 43, 3) := by decide +kernel
theorem dX8_init_99 : decode cX8_init 99 = .ok (.aload_n 0, 1) := by decide +kernel
theorem dX8_init_100 : decode cX8_init 100 = .ok (.bipush 32, 2) := by decide +kernel
theorem dX8_init_102 : decode cX8_init 102 = .ok (.newarray .long, 2) := by decide +kernel
theorem dX8_init_104 : decode cX8_init 104 = .ok (.putfield 46, 3) := by decide +kernel
theorem dX8_init_107 : decode cX8_init 107 = .ok (.aload_n 0, 1) := by decide +kernel
theorem dX8_init_108 : decode cX8_init 108 = .ok (.bipush 16, 2) := by decide +kernel
theorem dX8_init_110 : decode cX8_init 110 = .ok (.newarray .int, 2) := by decide +kernel
theorem dX8_init_112 : decode cX8_init 112 = .ok (.putfield 50, 3) := by decide +kernel
theorem dX8_init_115 : decode cX8_init 115 = .ok (.aload_n 0, 1) := by decide +kernel
theorem dX8_init_116 : decode cX8_init 116 = .ok (.bipush 16, 2) := by decide +kernel
theorem dX8_init_118 : decode cX8_init 118 = .ok (.newarray .int, 2) := by decide +kernel
theorem dX8_init_120 : decode cX8_init 120 = .ok (.putfield 53, 3) := by decide +kernel
theorem dX8_init_123 : decode cX8_init 123 = .ok (.aload_n 0, 1) := by decide +kernel
theorem dX8_init_124 : decode cX8_init 124 = .ok (.invokevirtual 56, 3) := by decide +kernel
theorem dX8_init_127 : decode cX8_init 127 = .ok (.aload_n 0, 1) := by decide +kernel
theorem dX8_init_128 : decode cX8_init 128 = .ok (.getfield 13, 3) := by decide +kernel
theorem dX8_init_131 : decode cX8_init 131 = .ok (.iconst 2, 1) := by decide +kernel
theorem dX8_init_132 : decode cX8_init 132 = .ok (.iconst 3, 1) := by decide +kernel
theorem dX8_init_133 : decode cX8_init 133 = .ok (.iastore, 1) := by decide +kernel
theorem dX8_init_134 : decode cX8_init 134 = .ok (.aload_n 0, 1) := by decide +kernel
theorem dX8_init_135 : decode cX8_init 135 = .ok (.getfield 22, 3) := by decide +kernel
theorem dX8_init_138 : decode cX8_init 138 = .ok (.iconst 1, 1) := by decide +kernel
theorem dX8_init_139 : decode cX8_init 139 = .ok (.iconst 1, 1) := by decide +kernel
theorem dX8_init_140 : decode cX8_init 140 = .ok (.iastore, 1) := by decide +kernel
theorem dX8_init_141 : decode cX8_init 141 = .ok (.aload_n 0, 1) := by decide +kernel
theorem dX8_init_142 : decode cX8_init 142 = .ok (.getfield 22, 3) := by decide +kernel
theorem dX8_init_145 : decode cX8_init 145 = .ok (.iconst 2, 1) := by decide +kernel
theorem dX8_init_146 : decode cX8_init 146 = .ok (.iconst 2, 1) := by decide +kernel
theorem dX8_init_147 : decode cX8_init 147 = .ok (.iastore, 1) := by decide +kernel
theorem dX8_init_148 : decode cX8_init 148 = .ok (.aload_n 0, 1) := by decide +kernel
theorem dX8_init_149 : decode cX8_init 149 = .ok (.getfield 22, 3) := by decide +kernel
theorem dX8_init_152 : decode cX8_init 152 = .ok (.iconst 4, 1) := by decide +kernel
theorem dX8_init_153 : decode cX8_init 153 = .ok (.iconst 3, 1) := by decide +kernel
theorem dX8_init_154 : decode cX8_init 154 = .ok (.iastore, 1) := by decide +kernel
theorem dX8_init_155 : decode cX8_init 155 = .ok (.aload_n 0, 1) := by decide +kernel
theorem dX8_init_156 : decode cX8_init 156 = .ok (.getfield 22, 3) := by decide +kernel
theorem dX8_init_159 : decode cX8_init 159 = .ok (.iconst 5, 1) := by decide +kernel
theorem dX8_init_160 : decode cX8_init 160 = .ok (.iconst 1, 1) := by decide +kernel
theorem dX8_init_161 : decode cX8_init 161 = .ok (.iastore, 1) := by decide +kernel
theorem dX8_init_162 : decode cX8_init 162 = .ok (.aload_n 0, 1) := by decide +kernel
theorem dX8_init_163 : decode cX8_init 163 = .ok (.getfield 22, 3) := by decide +kernel
theorem dX8_init_166 : decode cX8_init 166 = .ok (.bipush 7, 2) := by decide +kernel
theorem dX8_init_168 : decode cX8_init 168 = .ok (.iconst 4, 1) := by decide +kernel
theorem dX8_init_169 : decode cX8_init 169 = .ok (.iastore, 1) := by decide +kernel
theorem dX8_init_170 : decode cX8_init 170 = .ok (.aload_n 0, 1) := by decide +kernel
theorem dX8_init_171 : decode cX8_init 171 = .ok (.getfield 22, 3) := by decide +kernel
theorem dX8_init_174 : decode cX8_init 174 = .ok (.bipush 9, 2) := by decide +kernel
theorem dX8_init_176 : decode cX8_init 176 = .ok (.iconst 2, 1) := by decide +kernel
theorem dX8_init_177 : decode cX8_init 177 = .ok (.iastore, 1) := by decide +kernel
theorem dX8_init_178 : decode cX8_init 178 = .ok (.aload_n 0, 1) := by decide +kernel
theorem dX8_init_179 : decode cX8_init 179 = .ok (.getfield 22, 3) := by decide +kernel
theorem dX8_init_182 : decode cX8_init 182 = .ok (.bipush 10, 2) := by decide +kernel
theorem dX8_init_184 : decode cX8_init 184 = .ok (.iconst 5, 1) := by decide +kernel
theorem dX8_init_185 : decode cX8_init 185 = .ok (.iastore, 1) := by decide +kernel
theorem dX8_init_186 : decode cX8_init 186 = .ok (.aload_n 0, 1) := by decide +kernel
theorem dX8_init_187 : decode cX8_init 187 = .ok (.getfield 16, 3) := by decide +kernel
theorem dX8_init_190 : decode cX8_init 190 = .ok (.bipush 11, 2) := by decide +kernel
theorem dX8_init_192 : decode cX8_init 192 = .ok (.iconst 2, 1) := by decide +kernel
theorem dX8_init_193 : decode cX8_init 193 = .ok (.iastore, 1) := by decide +kernel
theorem dX8_init_194 : decode cX8_init 194 = .ok (.aload_n 0, 1) := by decide +kernel
theorem dX8_init_195 : decode cX8_init 195 = .ok (.getfield 22, 3) := by decide +kernel
theorem dX8_init_198 : decode cX8_init 198 = .ok (.iconst 0, 1) := by decide +kernel
theorem dX8_init_199 : decode cX8_init 199 = .ok (.bipush 123, 2) := by decide +kernel
theorem dX8_init_201 : decode cX8_init 201 = .ok (.invokestatic 59, 3) := by decide +kernel
theorem dX8_init_204 : decode cX8_init 204 = .ok (.aload_n 0, 1) := by decide +kernel
theorem dX8_init_205 : decode cX8_init 205 = .ok (.getfield 22, 3) := by decide +kernel
theorem dX8_init_208 : decode cX8_init 208 = .ok (.iconst 1, 1) := by decide +kernel
theorem dX8_init_209 : decode cX8_init 209 = .ok (.sipush 324, 3) := by decide +kernel
theorem dX8_init_212 : decode cX8_init 212 = .ok (.invokestatic 59, 3) := by decide +kernel
theorem dX8_init_215 : decode cX8_init 215 = .ok (.aload_n 0, 1) := by decide +kernel
theorem dX8_init_216 : decode cX8_init 216 = .ok (.getfield 22, 3) := by decide +kernel
theorem dX8_init_219 : decode cX8_init 219 = .ok (.iconst 2, 1) := by decide +kernel
theorem dX8_init_220 : decode cX8_init 220 = .ok (.sipush 465, 3) := by decide +kernel
theorem dX8_init_223 : decode cX8_init 223 = .ok (.invokestatic 59, 3) := by decide +kernel
theorem dX8_init_226 : decode cX8_init 226 = .ok (.aload_n 0, 1) := by decide +kernel
theorem dX8_init_227 : decode cX8_init 227 = .ok (.getfield 22, 3) := by decide +kernel
theorem dX8_init_230 : decode cX8_init 230 = .ok (.iconst 3, 1) := by decide +kernel
theorem dX8_init_231 : decode cX8_init 231 = .ok (.bipush 12, 2) := by decide +kernel
theorem dX8_init_233 : decode cX8_init 233 = .ok (.invokestatic 59, 3) := by decide +kernel
theorem dX8_init_236 : decode cX8_init 236 = .ok (.aload_n 0, 1) := by decide +kernel
theorem dX8_init_237 : decode cX8_init 237 = .ok (.getfield 22, 3) := by decide +kernel
theorem dX8_init_240 : decode cX8_init 240 = .ok (.iconst 0, 1) := by decide +kernel
theorem dX8_init_241 : decode cX8_init 241 = .ok (.sipush 426, 3) := by decide +kernel
theorem dX8_init_244 : decode cX8_init 244 = .ok (.invokestatic 59, 3) := by decide +kernel
theorem dX8_init_247 : decode cX8_init 247 = .ok (.aload_n 0, 1) := by decide +kernel
theorem dX8_init_248 : decode cX8_init 248 = .ok (.invokevirtual 63, 3) := by decide +kernel
theorem dX8_init_251 : decode cX8_init 251 = .ok (.return_, 1) := by decide +kernel
theorem dX8_in_0 : decode cX8_in 0 = .ok (.lload_n 0, 1) := by decide +kernel
theorem dX8_in_1 : decode cX8_in 1 = .ok (.lload_n 2, 1) := by decide +kernel
theorem dX8_in_2 : decode cX8_in 2 = .ok (.lcmp, 1) := by decide +kernel
theorem dX8_in_3 : decode cX8_in 3 = .ok (.ifCond .lt 14, 3) := by decide +kernel
theorem dX8_in_6 : decode cX8_in 6 = .ok (.lload_n 0, 1) := by decide +kernel
theorem dX8_in_7 : decode cX8_in 7 = .ok (.lload 4, 2) := by decide +kernel
theorem dX8_in_9 : decode cX8_in 9 = .ok (.lcmp, 1) := by decide +kernel
theorem dX8_in_10 : decode cX8_in 10 = .ok (.ifCond .gt 7, 3) := by decide +kernel
theorem dX8_in_13 : decode cX8_in 13 = .ok (.iconst 1, 1) := by decide +kernel
theorem dX8_in_14 : decode cX8_in 14 = .ok (.goto 4, 3) := by decide +kernel
theorem dX8_in_17 : decode cX8_in 17 = .ok (.iconst 0, 1) := by decide +kernel
theorem dX8_in_18 : decode cX8_in 18 = .ok (.ireturn, 1) := by decide +kernel
theorem dX8_empty_0 : decode cX8_empty 0 = .ok (.aload_n 0, 1) := by decide +kernel
theorem dX8_empty_1 : decode cX8_empty 1 = .ok (.getfield 13, 3) := by decide +kernel
theorem dX8_empty_4 : decode cX8_empty 4 = .ok (.iconst 2, 1) := by decide +kernel
theorem dX8_empty_5 : decode cX8_empty 5 = .ok (.iconst 4, 1) := by decide +kernel
theorem dX8_empty_6 : decode cX8_empty 6 = .ok (.iastore, 1) := by decide +kernel
theorem dX8_empty_7 : decode cX8_empty 7 = .ok (.aload_n 0, 1) := by decide +kernel
theorem dX8_empty_8 : decode cX8_empty 8 = .ok (.getfield 13, 3) := by decide +kernel
theorem dX8_empty_11 : decode cX8_empty 11 = .ok (.iconst 3, 1) := by decide +kernel
theorem dX8_empty_12 : decode cX8_empty 12 = .ok (.iconst 4, 1) := by decide +kernel
theorem dX8_empty_13 : decode cX8_empty 13 = .ok (.iastore, 1) := by decide +kernel
theorem dX8_empty_14 : decode cX8_empty 14 = .ok (.iconst 0, 1) := by decide +kernel
theorem dX8_empty_15 : decode cX8_empty 15 = .ok (.istore_n 1, 1) := by decide +kernel
theorem dX8_empty_16 : decode cX8_empty 16 = .ok (.iload_n 1, 1) := by decide +kernel
theorem dX8_empty_17 : decode cX8_empty 17 = .ok (.bipush 52, 2) := by decide +kernel
theorem dX8_empty_19 : decode cX8_empty 19 = .ok (.if_icmp .ge 16, 3) := by decide +kernel
theorem dX8_empty_22 : decode cX8_empty 22 = .ok (.aload_n 0, 1) := by decide +kernel
theorem dX8_empty_23 : decode cX8_empty 23 = .ok (.getfield 22, 3) := by decide +kernel
theorem dX8_empty_26 : decode cX8_empty 26 = .ok (.iload_n 1, 1) := by decide +kernel
theorem dX8_empty_27 : decode cX8_empty 27 = .ok (.iconst 0, 1) := by decide +kernel
theorem dX8_empty_28 : decode cX8_empty 28 = .ok (.iastore, 1) := by decide +kernel
theorem dX8_empty_29 : decode cX8_empty 29 = .ok (.iinc 1 1, 3) := by decide +kernel
theorem dX8_empty_32 : decode cX8_empty 32 = .ok (.goto (-16), 3) := by decide +kernel
theorem dX8_empty_35 : decode cX8_empty 35 = .ok (.iconst 0, 1) := by decide +kernel
theorem dX8_empty_36 : decode cX8_empty 36 = .ok (.istore_n 1, 1) := by decide +kernel
theorem dX8_empty_37 : decode cX8_empty 37 = .ok (.iload_n 1, 1) := by decide +kernel
theorem dX8_empty_38 : decode cX8_empty 38 = .ok (.bipush 6, 2) := by decide +kernel
theorem dX8_empty_40 : decode cX8_empty 40 = .ok (.if_icmp .ge 21, 3) := by decide +kernel
theorem dX8_empty_43 : decode cX8_empty 43 = .ok (.aload_n 0, 1) := by decide +kernel
theorem dX8_empty_44 : decode cX8_empty 44 = .ok (.getfield 16, 3) := by decide +kernel
theorem dX8_empty_47 : decode cX8_empty 47 = .ok (.bipush 6, 2) := by decide +kernel
theorem dX8_empty_49 : decode cX8_empty 49 = .ok (.iload_n 1, 1) := by decide +kernel
theorem dX8_empty_50 : decode cX8_empty 50 = .ok (.iadd, 1) := by decide +kernel
theorem dX8_empty_51 : decode cX8_empty 51 = .ok (.iload_n 1, 1) := by decide +kernel
theorem dX8_empty_52 : decode cX8_empty 52 = .ok (.iconst 1, 1) := by decide +kernel
theorem dX8_empty_53 : decode cX8_empty 53 = .ok (.iadd, 1) := by decide +kernel
theorem dX8_empty_54 : decode cX8_empty 54 = .ok (.iastore, 1) := by decide +kernel
theorem dX8_empty_55 : decode cX8_empty 55 = .ok (.iinc 1 1, 3) := by decide +kernel
theorem dX8_empty_58 : decode cX8_empty 58 = .ok (.goto (-21), 3) := by decide +kernel
theorem dX8_empty_61 : decode cX8_empty 61 = .ok (.return_, 1) := by decide +kernel
theorem dX8_addWalk_0 : decode cX8_addWalk 0 = .ok (.bipush 17, 2) := by decide +kernel
theorem dX8_addWalk_2 : decode cX8_addWalk 2 = .ok (.bipush 7, 2) := by decide +kernel
theorem dX8_addWalk_4 : decode cX8_addWalk 4 = .ok (.aload_n 0, 1) := by decide +kernel
theorem dX8_addWalk_5 : decode cX8_addWalk 5 = .ok (.bipush 16, 2) := by decide +kernel
theorem dX8_addWalk_7 : decode cX8_addWalk 7 = .ok (.iaload, 1) := by decide +kernel
theorem dX8_addWalk_8 : decode cX8_addWalk 8 = .ok (.imul, 1) := by decide +kernel
theorem dX8_addWalk_9 : decode cX8_addWalk 9 = .ok (.iadd, 1) := by decide +kernel
theorem dX8_addWalk_10 : decode cX8_addWalk 10 = .ok (.istore_n 3, 1) := by decide +kernel
theorem dX8_addWalk_11 : decode cX8_addWalk 11 = .ok (.iconst 0, 1) := by decide +kernel
theorem dX8_addWalk_12 : decode cX8_addWalk 12 = .ok (.istore 4, 2) := by decide +kernel
theorem dX8_addWalk_14 : decode cX8_addWalk 14 = .ok (.iload_n 2, 1) := by decide +kernel
theorem dX8_addWalk_15 : decode cX8_addWalk 15 = .ok (.istore 5, 2) := by decide +kernel
theorem dX8_addWalk_17 : decode cX8_addWalk 17 = .ok (.iload 5, 2) := by decide +kernel
theorem dX8_addWalk_19 : decode cX8_addWalk 19 = .ok (.ifCond .le 16, 3) := by decide +kernel
theorem dX8_addWalk_22 : decode cX8_addWalk 22 = .ok (.iinc 4 1, 3) := by decide +kernel
theorem dX8_addWalk_25 : decode cX8_addWalk 25 = .ok (.iload 5, 2) := by decide +kernel
theorem dX8_addWalk_27 : decode cX8_addWalk 27 = .ok (.bipush 10, 2) := by decide +kernel
theorem dX8_addWalk_29 : decode cX8_addWalk 29 = .ok (.idiv, 1) := by decide +kernel
theorem dX8_addWalk_30 : decode cX8_addWalk 30 = .ok (.istore 5, 2) := by decide +kernel
theorem dX8_addWalk_32 : decode cX8_addWalk 32 = .ok (.goto (-15), 3) := by decide +kernel
theorem dX8_addWalk_35 : decode cX8_addWalk 35 = .ok (.aload_n 0, 1) := by decide +kernel
theorem dX8_addWalk_36 : decode cX8_addWalk 36 = .ok (.iload_n 3, 1) := by decide +kernel
theorem dX8_addWalk_37 : decode cX8_addWalk 37 = .ok (.iload_n 1, 1) := by decide +kernel
theorem dX8_addWalk_38 : decode cX8_addWalk 38 = .ok (.iastore, 1) := by decide +kernel
theorem dX8_addWalk_39 : decode cX8_addWalk 39 = .ok (.aload_n 0, 1) := by decide +kernel
theorem dX8_addWalk_40 : decode cX8_addWalk 40 = .ok (.iload_n 3, 1) := by decide +kernel
theorem dX8_addWalk_41 : decode cX8_addWalk 41 = .ok (.iconst 1, 1) := by decide +kernel
theorem dX8_addWalk_42 : decode cX8_addWalk 42 = .ok (.iadd, 1) := by decide +kernel
theorem dX8_addWalk_43 : decode cX8_addWalk 43 = .ok (.iload 4, 2) := by decide +kernel
theorem dX8_addWalk_45 : decode cX8_addWalk 45 = .ok (.iastore, 1) := by decide +kernel
theorem dX8_addWalk_46 : decode cX8_addWalk 46 = .ok (.iload_n 2, 1) := by decide +kernel
theorem dX8_addWalk_47 : decode cX8_addWalk 47 = .ok (.istore 5, 2) := by decide +kernel
theorem dX8_addWalk_49 : decode cX8_addWalk 49 = .ok (.iconst 4, 1) := by decide +kernel
theorem dX8_addWalk_50 : decode cX8_addWalk 50 = .ok (.istore 6, 2) := by decide +kernel
theorem dX8_addWalk_52 : decode cX8_addWalk 52 = .ok (.iload 6, 2) := by decide +kernel
theorem dX8_addWalk_54 : decode cX8_addWalk 54 = .ok (.ifCond .lt 54, 3) := by decide +kernel
theorem dX8_addWalk_57 : decode cX8_addWalk 57 = .ok (.aload_n 0, 1) := by decide +kernel
theorem dX8_addWalk_58 : decode cX8_addWalk 58 = .ok (.iload_n 3, 1) := by decide +kernel
theorem dX8_addWalk_59 : decode cX8_addWalk 59 = .ok (.iconst 2, 1) := by decide +kernel
theorem dX8_addWalk_60 : decode cX8_addWalk 60 = .ok (.iadd, 1) := by decide +kernel
theorem dX8_addWalk_61 : decode cX8_addWalk 61 = .ok (.iload 6, 2) := by decide +kernel
theorem dX8_addWalk_63 : decode cX8_addWalk 63 = .ok (.iadd, 1) := by decide +kernel
theorem dX8_addWalk_64 : decode cX8_addWalk 64 = .ok (.iload 6, 2) := by decide +kernel
theorem dX8_addWalk_66 : decode cX8_addWalk 66 = .ok (.iload 4, 2) := by decide +kernel
theorem dX8_addWalk_68 : decode cX8_addWalk 68 = .ok (.if_icmp .ge 13, 3) := by decide +kernel
theorem dX8_addWalk_71 : decode cX8_addWalk 71 = .ok (.iload 5, 2) := by decide +kernel
theorem dX8_addWalk_73 : decode cX8_addWalk 73 = .ok (.bipush 10, 2) := by decide +kernel
theorem dX8_addWalk_75 : decode cX8_addWalk 75 = .ok (.irem, 1) := by decide +kernel
theorem dX8_addWalk_76 : decode cX8_addWalk 76 = .ok (.iconst 1, 1) := by decide +kernel
theorem dX8_addWalk_77 : decode cX8_addWalk 77 = .ok (.isub, 1) := by decide +kernel
theorem dX8_addWalk_78 : decode cX8_addWalk 78 = .ok (.goto 4, 3) := by decide +kernel
theorem dX8_addWalk_81 : decode cX8_addWalk 81 = .ok (.iconst 0, 1) := by decide +kernel
theorem dX8_addWalk_82 : decode cX8_addWalk 82 = .ok (.iastore, 1) := by decide +kernel
theorem dX8_addWalk_83 : decode cX8_addWalk 83 = .ok (.iload 6, 2) := by decide +kernel
theorem dX8_addWalk_85 : decode cX8_addWalk 85 = .ok (.iload 4, 2) := by decide +kernel
theorem dX8_addWalk_87 : decode cX8_addWalk 87 = .ok (.if_icmp .ge 11, 3) := by decide +kernel
theorem dX8_addWalk_90 : decode cX8_addWalk 90 = .ok (.iload 5, 2) := by decide +kernel
theorem dX8_addWalk_92 : decode cX8_addWalk 92 = .ok (.bipush 10, 2) := by decide +kernel
theorem dX8_addWalk_94 : decode cX8_addWalk 94 = .ok (.idiv, 1) := by decide +kernel
theorem dX8_addWalk_95 : decode cX8_addWalk 95 = .ok (.goto 5, 3) := by decide +kernel
theorem dX8_addWalk_98 : decode cX8_addWalk 98 = .ok (.iload 5, 2) := by decide +kernel
theorem dX8_addWalk_100 : decode cX8_addWalk 100 = .ok (.istore 5, 2) := by decide +kernel
theorem dX8_addWalk_102 : decode cX8_addWalk 102 = .ok (.iinc 6 (-1), 3) := by decide +kernel
theorem dX8_addWalk_105 : decode cX8_addWalk 105 = .ok (.goto (-53), 3) := by decide +kernel
theorem dX8_addWalk_108 : decode cX8_addWalk 108 = .ok (.aload_n 0, 1) := by decide +kernel
theorem dX8_addWalk_109 : decode cX8_addWalk 109 = .ok (.bipush 16, 2) := by decide +kernel
theorem dX8_addWalk_111 : decode cX8_addWalk 111 = .ok (.dup2, 1) := by decide +kernel
theorem dX8_addWalk_112 : decode cX8_addWalk 112 = .ok (.iaload, 1) := by decide +kernel
theorem dX8_addWalk_113 : decode cX8_addWalk 113 = .ok (.iconst 1, 1) := by decide +kernel
theorem dX8_addWalk_114 : decode cX8_addWalk 114 = .ok (.iadd, 1) := by decide +kernel
theorem dX8_addWalk_115 : decode cX8_addWalk 115 = .ok (.iastore, 1) := by decide +kernel
theorem dX8_addWalk_116 : decode cX8_addWalk 116 = .ok (.return_, 1) := by decide +kernel
set_option maxRecDepth 20000 in
theorem ggX8_write_X8_in : GoodIn wsX8_write wsX8_in := goodIn_r _ [8] (by decide +kernel) (by decide +kernel)
set_option maxRecDepth 20000 in
theorem gX8_write_X8_in : GoodIn wsX8_write (va_wsS RX8 70 yX8_in wsX8_in) := goodIn_app (goodIn_of _ (by decide +kernel)) ggX8_write_X8_in
theorem dX8_write_0 : decode cX8_write 0 = .ok (.iload_n 1, 1) := by decide +kernel
theorem dX8_write_1 : decode cX8_write 1 = .ok (.i2l, 1) := by decide +kernel
theorem dX8_write_2 : decode cX8_write 2 = .ok (.ldc2_w 66, 3) := by decide +kernel
theorem dX8_write_5 : decode cX8_write 5 = .ok (.ldc2_w 68, 3) := by decide +kernel
theorem dX8_write_8 : decode cX8_write 8 = .ok (.invokestatic 70, 3) := by decide +kernel
theorem dX8_write_11 : decode cX8_write 11 = .ok (.ifCond .ne 5, 3) := by decide +kernel
theorem dX8_write_14 : decode cX8_write 14 = .ok (.iconst (-1), 1) := by decide +kernel
theorem dX8_write_15 : decode cX8_write 15 = .ok (.ireturn, 1) := by decide +kernel
theorem dX8_write_16 : decode cX8_write 16 = .ok (.aload_n 0, 1) := by decide +kernel
theorem dX8_write_17 : decode cX8_write 17 = .ok (.getfield 74, 3) := by decide +kernel
theorem dX8_write_20 : decode cX8_write 20 = .ok (.sipush 200, 3) := by decide +kernel
theorem dX8_write_23 : decode cX8_write 23 = .ok (.if_icmp .ne 6, 3) := by decide +kernel
theorem dX8_write_26 : decode cX8_write 26 = .ok (.bipush (-3), 2) := by decide +kernel
theorem dX8_write_28 : decode cX8_write 28 = .ok (.ireturn, 1) := by decide +kernel
theorem dX8_write_29 : decode cX8_write 29 = .ok (.aload_n 0, 1) := by decide +kernel
theorem dX8_write_30 : decode cX8_write 30 = .ok (.getfield 7, 3) := by decide +kernel
theorem dX8_write_33 : decode cX8_write 33 = .ok (.aload_n 0, 1) := by decide +kernel
theorem dX8_write_34 : decode cX8_write 34 = .ok (.getfield 74, 3) := by decide +kernel
theorem dX8_write_37 : decode cX8_write 37 = .ok (.iload_n 1, 1) := by decide +kernel
theorem dX8_write_38 : decode cX8_write 38 = .ok (.iastore, 1) := by decide +kernel
theorem dX8_write_39 : decode cX8_write 39 = .ok (.aload_n 0, 1) := by decide +kernel
theorem dX8_write_40 : decode cX8_write 40 = .ok (.dup, 1) := by decide +kernel
theorem dX8_write_41 : decode cX8_write 41 = .ok (.getfield 74, 3) := by decide +kernel
theorem dX8_write_44 : decode cX8_write 44 = .ok (.iconst 1, 1) := by decide +kernel
theorem dX8_write_45 : decode cX8_write 45 = .ok (.iadd, 1) := by decide +kernel
theorem dX8_write_46 : decode cX8_write 46 = .ok (.putfield 74, 3) := by decide +kernel
theorem dX8_write_49 : decode cX8_write 49 = .ok (.aload_n 0, 1) := by decide +kernel
theorem dX8_write_50 : decode cX8_write 50 = .ok (.getfield 74, 3) := by decide +kernel
theorem dX8_write_53 : decode cX8_write 53 = .ok (.ireturn, 1) := by decide +kernel
theorem dX8_wipe_0 : decode cX8_wipe 0 = .ok (.aload_n 0, 1) := by decide +kernel
theorem dX8_wipe_1 : decode cX8_wipe 1 = .ok (.getfield 74, 3) := by decide +kernel
theorem dX8_wipe_4 : decode cX8_wipe 4 = .ok (.istore_n 1, 1) := by decide +kernel
theorem dX8_wipe_5 : decode cX8_wipe 5 = .ok (.aload_n 0, 1) := by decide +kernel
theorem dX8_wipe_6 : decode cX8_wipe 6 = .ok (.iconst 0, 1) := by decide +kernel
theorem dX8_wipe_7 : decode cX8_wipe 7 = .ok (.putfield 74, 3) := by decide +kernel
theorem dX8_wipe_10 : decode cX8_wipe 10 = .ok (.iload_n 1, 1) := by decide +kernel
theorem dX8_wipe_11 : decode cX8_wipe 11 = .ok (.ireturn, 1) := by decide +kernel
theorem dX8_letterAt_0 : decode cX8_letterAt 0 = .ok (.iload_n 1, 1) := by decide +kernel
theorem dX8_letterAt_1 : decode cX8_letterAt 1 = .ok (.aload_n 0, 1) := by decide +kernel
theorem dX8_letterAt_2 : decode cX8_letterAt 2 = .ok (.getfield 74, 3) := by decide +kernel
theorem dX8_letterAt_5 : decode cX8_letterAt 5 = .ok (.if_icmp .ge 12, 3) := by decide +kernel
theorem dX8_letterAt_8 : decode cX8_letterAt 8 = .ok (.aload_n 0, 1) := by decide +kernel
theorem dX8_letterAt_9 : decode cX8_letterAt 9 = .ok (.getfield 7, 3) := by decide +kernel
theorem dX8_letterAt_12 : decode cX8_letterAt 12 = .ok (.iload_n 1, 1) := by decide +kernel
theorem dX8_letterAt_13 : decode cX8_letterAt 13 = .ok (.iaload, 1) := by decide +kernel
theorem dX8_letterAt_14 : decode cX8_letterAt 14 = .ok (.goto 4, 3) := by decide +kernel
theorem dX8_letterAt_17 : decode cX8_letterAt 17 = .ok (.iconst 0, 1) := by decide +kernel
theorem dX8_letterAt_18 : decode cX8_letterAt 18 = .ok (.ireturn, 1) := by decide +kernel
set_option maxRecDepth 20000 in
theorem ggX8_twoFigures_X8_letterAt : GoodIn wsX8_twoFigures wsX8_letterAt := goodIn_r _ [10, 11, 12, 16, 17, 18, 19, 20, 21, 22, 23, 24, 25, 26, 27, 28, 29, 30, 31, 32, 33, 34, 35, 36, 37] (by decide +kernel) (by decide +kernel)
set_option maxRecDepth 20000 in
theorem gX8_twoFigures_X8_letterAt : GoodIn wsX8_twoFigures (wsV RX8 81 RX8 yX8_letterAt wsX8_letterAt) := goodIn_app (goodIn_of _ (by decide +kernel)) ggX8_twoFigures_X8_letterAt
set_option maxRecDepth 20000 in
theorem ggX8_twoFigures_X8_in : GoodIn wsX8_twoFigures wsX8_in := goodIn_r _ [15] (by decide +kernel) (by decide +kernel)
set_option maxRecDepth 20000 in
theorem gX8_twoFigures_X8_in : GoodIn wsX8_twoFigures (va_wsS RX8 70 yX8_in wsX8_in) := goodIn_app (goodIn_of _ (by decide +kernel)) ggX8_twoFigures_X8_in
theorem dX8_twoFigures_0 : decode cX8_twoFigures 0 = .ok (.iconst 0, 1) := by decide +kernel
theorem dX8_twoFigures_1 : decode cX8_twoFigures 1 = .ok (.istore_n 1, 1) := by decide +kernel
theorem dX8_twoFigures_2 : decode cX8_twoFigures 2 = .ok (.iload_n 1, 1) := by decide +kernel
theorem dX8_twoFigures_3 : decode cX8_twoFigures 3 = .ok (.iconst 2, 1) := by decide +kernel
theorem dX8_twoFigures_4 : decode cX8_twoFigures 4 = .ok (.if_icmp .ge 125, 3) := by decide +kernel
theorem dX8_twoFigures_7 : decode cX8_twoFigures 7 = .ok (.iconst 0, 1) := by decide +kernel
theorem dX8_twoFigures_8 : decode cX8_twoFigures 8 = .ok (.istore_n 2, 1) := by decide +kernel
theorem dX8_twoFigures_9 : decode cX8_twoFigures 9 = .ok (.iconst 0, 1) := by decide +kernel
theorem dX8_twoFigures_10 : decode cX8_twoFigures 10 = .ok (.istore_n 3, 1) := by decide +kernel
theorem dX8_twoFigures_11 : decode cX8_twoFigures 11 = .ok (.aload_n 0, 1) := by decide +kernel
theorem dX8_twoFigures_12 : decode cX8_twoFigures 12 = .ok (.aload_n 0, 1) := by decide +kernel
theorem dX8_twoFigures_13 : decode cX8_twoFigures 13 = .ok (.getfield 78, 3) := by decide +kernel
theorem dX8_twoFigures_16 : decode cX8_twoFigures 16 = .ok (.invokevirtual 81, 3) := by decide +kernel
theorem dX8_twoFigures_19 : decode cX8_twoFigures 19 = .ok (.i2l, 1) := by decide +kernel
theorem dX8_twoFigures_20 : decode cX8_twoFigures 20 = .ok (.ldc2_w 85, 3) := by decide +kernel
theorem dX8_twoFigures_23 : decode cX8_twoFigures 23 = .ok (.ldc2_w 87, 3) := by decide +kernel
theorem dX8_twoFigures_26 : decode cX8_twoFigures 26 = .ok (.invokestatic 70, 3) := by decide +kernel
theorem dX8_twoFigures_29 : decode cX8_twoFigures 29 = .ok (.ifCond .eq 41, 3) := by decide +kernel
theorem dX8_twoFigures_32 : decode cX8_twoFigures 32 = .ok (.iload_n 2, 1) := by decide +kernel
theorem dX8_twoFigures_33 : decode cX8_twoFigures 33 = .ok (.iconst 3, 1) := by decide +kernel
theorem dX8_twoFigures_34 : decode cX8_twoFigures 34 = .ok (.if_icmp .ge 36, 3) := by decide +kernel
theorem dX8_twoFigures_37 : decode cX8_twoFigures 37 = .ok (.bipush 10, 2) := by decide +kernel
theorem dX8_twoFigures_39 : decode cX8_twoFigures 39 = .ok (.iload_n 3, 1) := by decide +kernel
theorem dX8_twoFigures_40 : decode cX8_twoFigures 40 = .ok (.imul, 1) := by decide +kernel
theorem dX8_twoFigures_41 : decode cX8_twoFigures 41 = .ok (.aload_n 0, 1) := by decide +kernel
theorem dX8_twoFigures_42 : decode cX8_twoFigures 42 = .ok (.aload_n 0, 1) := by decide +kernel
theorem dX8_twoFigures_43 : decode cX8_twoFigures 43 = .ok (.getfield 78, 3) := by decide +kernel
theorem dX8_twoFigures_46 : decode cX8_twoFigures 46 = .ok (.invokevirtual 81, 3) := by decide +kernel
theorem dX8_twoFigures_49 : decode cX8_twoFigures 49 = .ok (.iadd, 1) := by decide +kernel
theorem dX8_twoFigures_50 : decode cX8_twoFigures 50 = .ok (.bipush 48, 2) := by decide +kernel
theorem dX8_twoFigures_52 : decode cX8_twoFigures 52 = .ok (.isub, 1) := by decide +kernel
theorem dX8_twoFigures_53 : decode cX8_twoFigures 53 = .ok (.istore_n 3, 1) := by decide +kernel
theorem dX8_twoFigures_54 : decode cX8_twoFigures 54 = .ok (.iinc 2 1, 3) := by decide +kernel
theorem dX8_twoFigures_57 : decode cX8_twoFigures 57 = .ok (.aload_n 0, 1) := by decide +kernel
theorem dX8_twoFigures_58 : decode cX8_twoFigures 58 = .ok (.dup, 1) := by decide +kernel
theorem dX8_twoFigures_59 : decode cX8_twoFigures 59 = .ok (.getfield 78, 3) := by decide +kernel
theorem dX8_twoFigures_62 : decode cX8_twoFigures 62 = .ok (.iconst 1, 1) := by decide +kernel
theorem dX8_twoFigures_63 : decode cX8_twoFigures 63 = .ok (.iadd, 1) := by decide +kernel
theorem dX8_twoFigures_64 : decode cX8_twoFigures 64 = .ok (.putfield 78, 3) := by decide +kernel
theorem dX8_twoFigures_67 : decode cX8_twoFigures 67 = .ok (.goto (-56), 3) := by decide +kernel
theorem dX8_twoFigures_70 : decode cX8_twoFigures 70 = .ok (.iload_n 2, 1) := by decide +kernel
theorem dX8_twoFigures_71 : decode cX8_twoFigures 71 = .ok (.i2l, 1) := by decide +kernel
theorem dX8_twoFigures_72 : decode cX8_twoFigures 72 = .ok (.lconst 1, 1) := by decide +kernel
theorem dX8_twoFigures_73 : decode cX8_twoFigures 73 = .ok (.ldc2_w 89, 3) := by decide +kernel
theorem dX8_twoFigures_76 : decode cX8_twoFigures 76 = .ok (.invokestatic 70, 3) := by decide +kernel
theorem dX8_twoFigures_79 : decode cX8_twoFigures 79 = .ok (.ifCond .eq 25, 3) := by decide +kernel
theorem dX8_twoFigures_82 : decode cX8_twoFigures 82 = .ok (.aload_n 0, 1) := by decide +kernel
theorem dX8_twoFigures_83 : decode cX8_twoFigures 83 = .ok (.aload_n 0, 1) := by decide +kernel
theorem dX8_twoFigures_84 : decode cX8_twoFigures 84 = .ok (.getfield 78, 3) := by decide +kernel
theorem dX8_twoFigures_87 : decode cX8_twoFigures 87 = .ok (.invokevirtual 81, 3) := by decide +kernel
theorem dX8_twoFigures_90 : decode cX8_twoFigures 90 = .ok (.iload_n 1, 1) := by decide +kernel
theorem dX8_twoFigures_91 : decode cX8_twoFigures 91 = .ok (.ifCond .ne 8, 3) := by decide +kernel
theorem dX8_twoFigures_94 : decode cX8_twoFigures 94 = .ok (.bipush 44, 2) := by decide +kernel
theorem dX8_twoFigures_96 : decode cX8_twoFigures 96 = .ok (.goto 5, 3) := by decide +kernel
theorem dX8_twoFigures_99 : decode cX8_twoFigures 99 = .ok (.bipush 59, 2) := by decide +kernel
theorem dX8_twoFigures_101 : decode cX8_twoFigures 101 = .ok (.if_icmp .eq 5, 3) := by decide +kernel
theorem dX8_twoFigures_104 : decode cX8_twoFigures 104 = .ok (.iconst 0, 1) := by decide +kernel
theorem dX8_twoFigures_105 : decode cX8_twoFigures 105 = .ok (.ireturn, 1) := by decide +kernel
theorem dX8_twoFigures_106 : decode cX8_twoFigures 106 = .ok (.aload_n 0, 1) := by decide +kernel
theorem dX8_twoFigures_107 : decode cX8_twoFigures 107 = .ok (.getfield 31, 3) := by decide +kernel
theorem dX8_twoFigures_110 : decode cX8_twoFigures 110 = .ok (.iload_n 1, 1) := by decide +kernel
theorem dX8_twoFigures_111 : decode cX8_twoFigures 111 = .ok (.iload_n 3, 1) := by decide +kernel
theorem dX8_twoFigures_112 : decode cX8_twoFigures 112 = .ok (.iastore, 1) := by decide +kernel
theorem dX8_twoFigures_113 : decode cX8_twoFigures 113 = .ok (.aload_n 0, 1) := by decide +kernel
theorem dX8_twoFigures_114 : decode cX8_twoFigures 114 = .ok (.dup, 1) := by decide +kernel
theorem dX8_twoFigures_115 : decode cX8_twoFigures 115 = .ok (.getfield 78, 3) := by decide +kernel
theorem dX8_twoFigures_118 : decode cX8_twoFigures 118 = .ok (.iconst 1, 1) := by decide +kernel
theorem dX8_twoFigures_119 : decode cX8_twoFigures 119 = .ok (.iadd, 1) := by decide +kernel
theorem dX8_twoFigures_120 : decode cX8_twoFigures 120 = .ok (.putfield 78, 3) := by decide +kernel
theorem dX8_twoFigures_123 : decode cX8_twoFigures 123 = .ok (.iinc 1 1, 3) := by decide +kernel
theorem dX8_twoFigures_126 : decode cX8_twoFigures 126 = .ok (.goto (-124), 3) := by decide +kernel
theorem dX8_twoFigures_129 : decode cX8_twoFigures 129 = .ok (.iconst 1, 1) := by decide +kernel
theorem dX8_twoFigures_130 : decode cX8_twoFigures 130 = .ok (.ireturn, 1) := by decide +kernel
set_option maxRecDepth 20000 in
theorem ggX8_walkItem_X8_letterAt : GoodIn wsX8_walkItem wsX8_letterAt := goodIn_r _ [12, 13, 14, 21, 22, 23, 24, 25, 26, 27, 28, 29, 30, 31, 32, 33, 34, 35, 36, 37, 38, 39, 40, 41, 42] (by decide +kernel) (by decide +kernel)
set_option maxRecDepth 20000 in
theorem gX8_walkItem_X8_letterAt : GoodIn wsX8_walkItem (wsV RX8 81 RX8 yX8_letterAt wsX8_letterAt) := goodIn_app (goodIn_of _ (by decide +kernel)) ggX8_walkItem_X8_letterAt
set_option maxRecDepth 20000 in
theorem ggX8_walkItem_X8_in : GoodIn wsX8_walkItem wsX8_in := goodIn_r _ [17] (by decide +kernel) (by decide +kernel)
set_option maxRecDepth 20000 in
theorem gX8_walkItem_X8_in : GoodIn wsX8_walkItem (va_wsS RX8 70 yX8_in wsX8_in) := goodIn_app (goodIn_of _ (by decide +kernel)) ggX8_walkItem_X8_in
set_option maxRecDepth 20000 in
theorem ggX8_walkItem_X8_addWalk : GoodIn wsX8_walkItem wsX8_addWalk := goodIn_r _ [20] (by decide +kernel) (by decide +kernel)
set_option maxRecDepth 20000 in
theorem gX8_walkItem_X8_addWalk : GoodIn wsX8_walkItem (va_wsS RX8 59 yX8_addWalk wsX8_addWalk) := goodIn_app (goodIn_of _ (by decide +kernel)) ggX8_walkItem_X8_addWalk
theorem dX8_walkItem_0 : decode cX8_walkItem 0 = .ok (.aload_n 0, 1) := by decide +kernel
theorem dX8_walkItem_1 : decode cX8_walkItem 1 = .ok (.aload_n 0, 1) := by decide +kernel
theorem dX8_walkItem_2 : decode cX8_walkItem 2 = .ok (.getfield 78, 3) := by decide +kernel
theorem dX8_walkItem_5 : decode cX8_walkItem 5 = .ok (.invokevirtual 81, 3) := by decide +kernel
theorem dX8_walkItem_8 : decode cX8_walkItem 8 = .ok (.bipush 48, 2) := by decide +kernel
theorem dX8_walkItem_10 : decode cX8_walkItem 10 = .ok (.isub, 1) := by decide +kernel
theorem dX8_walkItem_11 : decode cX8_walkItem 11 = .ok (.istore_n 1, 1) := by decide +kernel
theorem dX8_walkItem_12 : decode cX8_walkItem 12 = .ok (.aload_n 0, 1) := by decide +kernel
theorem dX8_walkItem_13 : decode cX8_walkItem 13 = .ok (.dup, 1) := by decide +kernel
theorem dX8_walkItem_14 : decode cX8_walkItem 14 = .ok (.getfield 78, 3) := by decide +kernel
theorem dX8_walkItem_17 : decode cX8_walkItem 17 = .ok (.iconst 1, 1) := by decide +kernel
theorem dX8_walkItem_18 : decode cX8_walkItem 18 = .ok (.iadd, 1) := by decide +kernel
theorem dX8_walkItem_19 : decode cX8_walkItem 19 = .ok (.putfield 78, 3) := by decide +kernel
theorem dX8_walkItem_22 : decode cX8_walkItem 22 = .ok (.iconst 0, 1) := by decide +kernel
theorem dX8_walkItem_23 : decode cX8_walkItem 23 = .ok (.istore_n 2, 1) := by decide +kernel
theorem dX8_walkItem_24 : decode cX8_walkItem 24 = .ok (.iconst 0, 1) := by decide +kernel
theorem dX8_walkItem_25 : decode cX8_walkItem 25 = .ok (.istore_n 3, 1) := by decide +kernel
theorem dX8_walkItem_26 : decode cX8_walkItem 26 = .ok (.aload_n 0, 1) := by decide +kernel
theorem dX8_walkItem_27 : decode cX8_walkItem 27 = .ok (.aload_n 0, 1) := by decide +kernel
theorem dX8_walkItem_28 : decode cX8_walkItem 28 = .ok (.getfield 78, 3) := by decide +kernel
theorem dX8_walkItem_31 : decode cX8_walkItem 31 = .ok (.invokevirtual 81, 3) := by decide +kernel
theorem dX8_walkItem_34 : decode cX8_walkItem 34 = .ok (.i2l, 1) := by decide +kernel
theorem dX8_walkItem_35 : decode cX8_walkItem 35 = .ok (.ldc2_w 85, 3) := by decide +kernel
theorem dX8_walkItem_38 : decode cX8_walkItem 38 = .ok (.ldc2_w 91, 3) := by decide +kernel
theorem dX8_walkItem_41 : decode cX8_walkItem 41 = .ok (.invokestatic 70, 3) := by decide +kernel
theorem dX8_walkItem_44 : decode cX8_walkItem 44 = .ok (.ifCond .eq 42, 3) := by decide +kernel
theorem dX8_walkItem_47 : decode cX8_walkItem 47 = .ok (.iload_n 3, 1) := by decide +kernel
theorem dX8_walkItem_48 : decode cX8_walkItem 48 = .ok (.bipush 6, 2) := by decide +kernel
theorem dX8_walkItem_50 : decode cX8_walkItem 50 = .ok (.if_icmp .ge 36, 3) := by decide +kernel
theorem dX8_walkItem_53 : decode cX8_walkItem 53 = .ok (.bipush 10, 2) := by decide +kernel
theorem dX8_walkItem_55 : decode cX8_walkItem 55 = .ok (.iload_n 2, 1) := by decide +kernel
theorem dX8_walkItem_56 : decode cX8_walkItem 56 = .ok (.imul, 1) := by decide +kernel
theorem dX8_walkItem_57 : decode cX8_walkItem 57 = .ok (.aload_n 0, 1) := by decide +kernel
theorem dX8_walkItem_58 : decode cX8_walkItem 58 = .ok (.aload_n 0, 1) := by decide +kernel
theorem dX8_walkItem_59 : decode cX8_walkItem 59 = .ok (.getfield 78, 3) := by decide +kernel
theorem dX8_walkItem_62 : decode cX8_walkItem 62 = .ok (.invokevirtual 81, 3) := by decide +kernel
theorem dX8_walkItem_65 : decode cX8_walkItem 65 = .ok (.iadd, 1) := by decide +kernel
theorem dX8_walkItem_66 : decode cX8_walkItem 66 = .ok (.bipush 47, 2) := by decide +kernel
theorem dX8_walkItem_68 : decode cX8_walkItem 68 = .ok (.isub, 1) := by decide +kernel
theorem dX8_walkItem_69 : decode cX8_walkItem 69 = .ok (.istore_n 2, 1) := by decide +kernel
theorem dX8_walkItem_70 : decode cX8_walkItem 70 = .ok (.iinc 3 1, 3) := by decide +kernel
theorem dX8_walkItem_73 : decode cX8_walkItem 73 = .ok (.aload_n 0, 1) := by decide +kernel
theorem dX8_walkItem_74 : decode cX8_walkItem 74 = .ok (.dup, 1) := by decide +kernel
theorem dX8_walkItem_75 : decode cX8_walkItem 75 = .ok (.getfield 78, 3) := by decide +kernel
theorem dX8_walkItem_78 : decode cX8_walkItem 78 = .ok (.iconst 1, 1) := by decide +kernel
theorem dX8_walkItem_79 : decode cX8_walkItem 79 = .ok (.iadd, 1) := by decide +kernel
theorem dX8_walkItem_80 : decode cX8_walkItem 80 = .ok (.putfield 78, 3) := by decide +kernel
theorem dX8_walkItem_83 : decode cX8_walkItem 83 = .ok (.goto (-57), 3) := by decide +kernel
theorem dX8_walkItem_86 : decode cX8_walkItem 86 = .ok (.iload_n 1, 1) := by decide +kernel
theorem dX8_walkItem_87 : decode cX8_walkItem 87 = .ok (.i2l, 1) := by decide +kernel
theorem dX8_walkItem_88 : decode cX8_walkItem 88 = .ok (.lconst 0, 1) := by decide +kernel
theorem dX8_walkItem_89 : decode cX8_walkItem 89 = .ok (.ldc2_w 93, 3) := by decide +kernel
theorem dX8_walkItem_92 : decode cX8_walkItem 92 = .ok (.invokestatic 70, 3) := by decide +kernel
theorem dX8_walkItem_95 : decode cX8_walkItem 95 = .ok (.ifCond .eq 41, 3) := by decide +kernel
theorem dX8_walkItem_98 : decode cX8_walkItem 98 = .ok (.iload_n 3, 1) := by decide +kernel
theorem dX8_walkItem_99 : decode cX8_walkItem 99 = .ok (.i2l, 1) := by decide +kernel
theorem dX8_walkItem_100 : decode cX8_walkItem 100 = .ok (.ldc2_w 89, 3) := by decide +kernel
theorem dX8_walkItem_103 : decode cX8_walkItem 103 = .ok (.ldc2_w 95, 3) := by decide +kernel
theorem dX8_walkItem_106 : decode cX8_walkItem 106 = .ok (.invokestatic 70, 3) := by decide +kernel
theorem dX8_walkItem_109 : decode cX8_walkItem 109 = .ok (.ifCond .eq 27, 3) := by decide +kernel
theorem dX8_walkItem_112 : decode cX8_walkItem 112 = .ok (.aload_n 0, 1) := by decide +kernel
theorem dX8_walkItem_113 : decode cX8_walkItem 113 = .ok (.aload_n 0, 1) := by decide +kernel
theorem dX8_walkItem_114 : decode cX8_walkItem 114 = .ok (.getfield 78, 3) := by decide +kernel
theorem dX8_walkItem_117 : decode cX8_walkItem 117 = .ok (.invokevirtual 81, 3) := by decide +kernel
theorem dX8_walkItem_120 : decode cX8_walkItem 120 = .ok (.bipush 59, 2) := by decide +kernel
theorem dX8_walkItem_122 : decode cX8_walkItem 122 = .ok (.if_icmp .ne 14, 3) := by decide +kernel
theorem dX8_walkItem_125 : decode cX8_walkItem 125 = .ok (.aload_n 0, 1) := by decide +kernel
theorem dX8_walkItem_126 : decode cX8_walkItem 126 = .ok (.getfield 22, 3) := by decide +kernel
theorem dX8_walkItem_129 : decode cX8_walkItem 129 = .ok (.bipush 16, 2) := by decide +kernel
theorem dX8_walkItem_131 : decode cX8_walkItem 131 = .ok (.iaload, 1) := by decide +kernel
theorem dX8_walkItem_132 : decode cX8_walkItem 132 = .ok (.iconst 5, 1) := by decide +kernel
theorem dX8_walkItem_133 : decode cX8_walkItem 133 = .ok (.if_icmp .ne 5, 3) := by decide +kernel
theorem dX8_walkItem_136 : decode cX8_walkItem 136 = .ok (.iconst 0, 1) := by decide +kernel
theorem dX8_walkItem_137 : decode cX8_walkItem 137 = .ok (.ireturn, 1) := by decide +kernel
theorem dX8_walkItem_138 : decode cX8_walkItem 138 = .ok (.aload_n 0, 1) := by decide +kernel
theorem dX8_walkItem_139 : decode cX8_walkItem 139 = .ok (.dup, 1) := by decide +kernel
theorem dX8_walkItem_140 : decode cX8_walkItem 140 = .ok (.getfield 78, 3) := by decide +kernel
theorem dX8_walkItem_143 : decode cX8_walkItem 143 = .ok (.iconst 1, 1) := by decide +kernel
theorem dX8_walkItem_144 : decode cX8_walkItem 144 = .ok (.iadd, 1) := by decide +kernel
theorem dX8_walkItem_145 : decode cX8_walkItem 145 = .ok (.putfield 78, 3) := by decide +kernel
theorem dX8_walkItem_148 : decode cX8_walkItem 148 = .ok (.aload_n 0, 1) := by decide +kernel
theorem dX8_walkItem_149 : decode cX8_walkItem 149 = .ok (.getfield 22, 3) := by decide +kernel
theorem dX8_walkItem_152 : decode cX8_walkItem 152 = .ok (.iload_n 1, 1) := by decide +kernel
theorem dX8_walkItem_153 : decode cX8_walkItem 153 = .ok (.iload_n 2, 1) := by decide +kernel
theorem dX8_walkItem_154 : decode cX8_walkItem 154 = .ok (.invokestatic 59, 3) := by decide +kernel
theorem dX8_walkItem_157 : decode cX8_walkItem 157 = .ok (.iconst 1, 1) := by decide +kernel
theorem dX8_walkItem_158 : decode cX8_walkItem 158 = .ok (.ireturn, 1) := by decide +kernel
set_option maxRecDepth 20000 in
theorem ggX8_item_X8_letterAt : GoodIn wsX8_item wsX8_letterAt := goodIn_r _ [14, 15, 16, 36, 37, 38, 39, 40, 41, 42, 43, 44, 45, 46, 47, 48, 49, 50, 51, 52, 53, 54, 55, 56, 57] (by decide +kernel) (by decide +kernel)
set_option maxRecDepth 20000 in
theorem gX8_item_X8_letterAt : GoodIn wsX8_item (wsV RX8 81 RX8 yX8_letterAt wsX8_letterAt) := goodIn_app (goodIn_of _ (by decide +kernel)) ggX8_item_X8_letterAt
set_option maxRecDepth 20000 in
theorem ggX8_item_X8_twoFigures : GoodIn wsX8_item wsX8_twoFigures := goodIn_r _ [20, 1, 21, 22, 4, 3, 10, 11, 12, 13, 14, 15, 16, 23, 24, 25, 36, 37, 38, 39, 40, 41, 42, 43, 44, 45, 46, 47, 48, 49, 50, 51, 52, 53, 54, 55, 56, 57] (by decide +kernel) (by decide +kernel)
set_option maxRecDepth 20000 in
theorem gX8_item_X8_twoFigures : GoodIn wsX8_item (wsV RX8 97 RX8 yX8_twoFigures wsX8_twoFigures) := goodIn_app (goodIn_of _ (by decide +kernel)) ggX8_item_X8_twoFigures
set_option maxRecDepth 20000 in
theorem ggX8_item_X8_in : GoodIn wsX8_item wsX8_in := goodIn_r _ [25] (by decide +kernel) (by decide +kernel)
set_option maxRecDepth 20000 in
theorem gX8_item_X8_in : GoodIn wsX8_item (va_wsS RX8 70 yX8_in wsX8_in) := goodIn_app (goodIn_of _ (by decide +kernel)) ggX8_item_X8_in
set_option maxRecDepth 20000 in
theorem ggX8_item_X8_walkItem : GoodIn wsX8_item wsX8_walkItem := goodIn_r _ [29, 1, 21, 30, 31, 4, 32, 7, 10, 11, 12, 13, 14, 15, 16, 23, 24, 25, 33, 34, 35, 36, 37, 38, 39, 40, 41, 42, 43, 44, 45, 46, 47, 48, 49, 50, 51, 52, 53, 54, 55, 56, 57] (by decide +kernel) (by decide +kernel)
set_option maxRecDepth 20000 in
theorem gX8_item_X8_walkItem : GoodIn wsX8_item (wsV RX8 109 RX8 yX8_walkItem wsX8_walkItem) := goodIn_app (goodIn_of _ (by decide +kernel)) ggX8_item_X8_walkItem
theorem dX8_item_0 : decode cX8_item 0 = .ok (.aload_n 0, 1) := by decide +kernel
theorem dX8_item_1 : decode cX8_item 1 = .ok (.aload_n 0, 1) := by decide +kernel
theorem dX8_item_2 : decode cX8_item 2 = .ok (.getfield 78, 3) := by decide +kernel
theorem dX8_item_5 : decode cX8_item 5 = .ok (.invokevirtual 81, 3) := by decide +kernel
theorem dX8_item_8 : decode cX8_item 8 = .ok (.istore_n 1, 1) := by decide +kernel
theorem dX8_item_9 : decode cX8_item 9 = .ok (.aload_n 0, 1) := by decide +kernel
theorem dX8_item_10 : decode cX8_item 10 = .ok (.dup, 1) := by decide +kernel
theorem dX8_item_11 : decode cX8_item 11 = .ok (.getfield 78, 3) := by decide +kernel
theorem dX8_item_14 : decode cX8_item 14 = .ok (.iconst 1, 1) := by decide +kernel
theorem dX8_item_15 : decode cX8_item 15 = .ok (.iadd, 1) := by decide +kernel
theorem dX8_item_16 : decode cX8_item 16 = .ok (.putfield 78, 3) := by decide +kernel
theorem dX8_item_19 : decode cX8_item 19 = .ok (.iload_n 1, 1) := by decide +kernel
theorem dX8_item_20 : decode cX8_item 20 = .ok (.bipush 100, 2) := by decide +kernel
theorem dX8_item_22 : decode cX8_item 22 = .ok (.if_icmp .ne 87, 3) := by decide +kernel
theorem dX8_item_25 : decode cX8_item 25 = .ok (.aload_n 0, 1) := by decide +kernel
theorem dX8_item_26 : decode cX8_item 26 = .ok (.invokevirtual 97, 3) := by decide +kernel
theorem dX8_item_29 : decode cX8_item 29 = .ok (.ifCond .eq 52, 3) := by decide +kernel
theorem dX8_item_32 : decode cX8_item 32 = .ok (.aload_n 0, 1) := by decide +kernel
theorem dX8_item_33 : decode cX8_item 33 = .ok (.getfield 101, 3) := by decide +kernel
theorem dX8_item_36 : decode cX8_item 36 = .ok (.ifCond .ne 45, 3) := by decide +kernel
theorem dX8_item_39 : decode cX8_item 39 = .ok (.aload_n 0, 1) := by decide +kernel
theorem dX8_item_40 : decode cX8_item 40 = .ok (.getfield 31, 3) := by decide +kernel
theorem dX8_item_43 : decode cX8_item 43 = .ok (.iconst 0, 1) := by decide +kernel
theorem dX8_item_44 : decode cX8_item 44 = .ok (.iaload, 1) := by decide +kernel
theorem dX8_item_45 : decode cX8_item 45 = .ok (.i2l, 1) := by decide +kernel
theorem dX8_item_46 : decode cX8_item 46 = .ok (.ldc2_w 89, 3) := by decide +kernel
theorem dX8_item_49 : decode cX8_item 49 = .ok (.ldc2_w 105, 3) := by decide +kernel
theorem dX8_item_52 : decode cX8_item 52 = .ok (.invokestatic 70, 3) := by decide +kernel
theorem dX8_item_55 : decode cX8_item 55 = .ok (.ifCond .eq 26, 3) := by decide +kernel
theorem dX8_item_58 : decode cX8_item 58 = .ok (.aload_n 0, 1) := by decide +kernel
theorem dX8_item_59 : decode cX8_item 59 = .ok (.getfield 31, 3) := by decide +kernel
theorem dX8_item_62 : decode cX8_item 62 = .ok (.iconst 1, 1) := by decide +kernel
theorem dX8_item_63 : decode cX8_item 63 = .ok (.iaload, 1) := by decide +kernel
theorem dX8_item_64 : decode cX8_item 64 = .ok (.i2l, 1) := by decide +kernel
theorem dX8_item_65 : decode cX8_item 65 = .ok (.ldc2_w 89, 3) := by decide +kernel
theorem dX8_item_68 : decode cX8_item 68 = .ok (.ldc2_w 105, 3) := by decide +kernel
theorem dX8_item_71 : decode cX8_item 71 = .ok (.invokestatic 70, 3) := by decide +kernel
theorem dX8_item_74 : decode cX8_item 74 = .ok (.ifCond .eq 7, 3) := by decide +kernel
theorem dX8_item_77 : decode cX8_item 77 = .ok (.iconst 1, 1) := by decide +kernel
theorem dX8_item_78 : decode cX8_item 78 = .ok (.goto 4, 3) := by decide +kernel
theorem dX8_item_81 : decode cX8_item 81 = .ok (.iconst 0, 1) := by decide +kernel
theorem dX8_item_82 : decode cX8_item 82 = .ok (.istore_n 2, 1) := by decide +kernel
theorem dX8_item_83 : decode cX8_item 83 = .ok (.aload_n 0, 1) := by decide +kernel
theorem dX8_item_84 : decode cX8_item 84 = .ok (.getfield 13, 3) := by decide +kernel
theorem dX8_item_87 : decode cX8_item 87 = .ok (.iconst 2, 1) := by decide +kernel
theorem dX8_item_88 : decode cX8_item 88 = .ok (.aload_n 0, 1) := by decide +kernel
theorem dX8_item_89 : decode cX8_item 89 = .ok (.getfield 31, 3) := by decide +kernel
theorem dX8_item_92 : decode cX8_item 92 = .ok (.iconst 0, 1) := by decide +kernel
theorem dX8_item_93 : decode cX8_item 93 = .ok (.iaload, 1) := by decide +kernel
theorem dX8_item_94 : decode cX8_item 94 = .ok (.iastore, 1) := by decide +kernel
theorem dX8_item_95 : decode cX8_item 95 = .ok (.aload_n 0, 1) := by decide +kernel
theorem dX8_item_96 : decode cX8_item 96 = .ok (.getfield 13, 3) := by decide +kernel
theorem dX8_item_99 : decode cX8_item 99 = .ok (.iconst 3, 1) := by decide +kernel
theorem dX8_item_100 : decode cX8_item 100 = .ok (.aload_n 0, 1) := by decide +kernel
theorem dX8_item_101 : decode cX8_item 101 = .ok (.getfield 31, 3) := by decide +kernel
theorem dX8_item_104 : decode cX8_item 104 = .ok (.iconst 1, 1) := by decide +kernel
theorem dX8_item_105 : decode cX8_item 105 = .ok (.iaload, 1) := by decide +kernel
theorem dX8_item_106 : decode cX8_item 106 = .ok (.iastore, 1) := by decide +kernel
theorem dX8_item_107 : decode cX8_item 107 = .ok (.iload_n 2, 1) := by decide +kernel
theorem dX8_item_108 : decode cX8_item 108 = .ok (.ireturn, 1) := by decide +kernel
theorem dX8_item_109 : decode cX8_item 109 = .ok (.aload_n 0, 1) := by decide +kernel
theorem dX8_item_110 : decode cX8_item 110 = .ok (.iconst 1, 1) := by decide +kernel
theorem dX8_item_111 : decode cX8_item 111 = .ok (.putfield 101, 3) := by decide +kernel
theorem dX8_item_114 : decode cX8_item 114 = .ok (.iload_n 1, 1) := by decide +kernel
theorem dX8_item_115 : decode cX8_item 115 = .ok (.lookupswitch 156 #[(104, 93), (109, 33), (119, 151)], 33) := by decide +kernel
theorem dX8_item_148 : decode cX8_item 148 = .ok (.aload_n 0, 1) := by decide +kernel
theorem dX8_item_149 : decode cX8_item 149 = .ok (.invokevirtual 97, 3) := by decide +kernel
theorem dX8_item_152 : decode cX8_item 152 = .ok (.ifCond .eq 35, 3) := by decide +kernel
theorem dX8_item_155 : decode cX8_item 155 = .ok (.aload_n 0, 1) := by decide +kernel
theorem dX8_item_156 : decode cX8_item 156 = .ok (.getfield 31, 3) := by decide +kernel
theorem dX8_item_159 : decode cX8_item 159 = .ok (.iconst 0, 1) := by decide +kernel
theorem dX8_item_160 : decode cX8_item 160 = .ok (.iaload, 1) := by decide +kernel
theorem dX8_item_161 : decode cX8_item 161 = .ok (.aload_n 0, 1) := by decide +kernel
theorem dX8_item_162 : decode cX8_item 162 = .ok (.getfield 13, 3) := by decide +kernel
theorem dX8_item_165 : decode cX8_item 165 = .ok (.iconst 2, 1) := by decide +kernel
theorem dX8_item_166 : decode cX8_item 166 = .ok (.iaload, 1) := by decide +kernel
theorem dX8_item_167 : decode cX8_item 167 = .ok (.aload_n 0, 1) := by decide +kernel
theorem dX8_item_168 : decode cX8_item 168 = .ok (.getfield 13, 3) := by decide +kernel
theorem dX8_item_171 : decode cX8_item 171 = .ok (.iconst 3, 1) := by decide +kernel
theorem dX8_item_172 : decode cX8_item 172 = .ok (.iaload, 1) := by decide +kernel
theorem dX8_item_173 : decode cX8_item 173 = .ok (.imul, 1) := by decide +kernel
theorem dX8_item_174 : decode cX8_item 174 = .ok (.if_icmp .ge 13, 3) := by decide +kernel
theorem dX8_item_177 : decode cX8_item 177 = .ok (.aload_n 0, 1) := by decide +kernel
theorem dX8_item_178 : decode cX8_item 178 = .ok (.getfield 31, 3) := by decide +kernel
theorem dX8_item_181 : decode cX8_item 181 = .ok (.iconst 1, 1) := by decide +kernel
theorem dX8_item_182 : decode cX8_item 182 = .ok (.iaload, 1) := by decide +kernel
theorem dX8_item_183 : decode cX8_item 183 = .ok (.iconst 5, 1) := by decide +kernel
theorem dX8_item_184 : decode cX8_item 184 = .ok (.if_icmp .le 5, 3) := by decide +kernel
theorem dX8_item_187 : decode cX8_item 187 = .ok (.iconst 0, 1) := by decide +kernel
theorem dX8_item_188 : decode cX8_item 188 = .ok (.ireturn, 1) := by decide +kernel
theorem dX8_item_189 : decode cX8_item 189 = .ok (.aload_n 0, 1) := by decide +kernel
theorem dX8_item_190 : decode cX8_item 190 = .ok (.getfield 22, 3) := by decide +kernel
theorem dX8_item_193 : decode cX8_item 193 = .ok (.aload_n 0, 1) := by decide +kernel
theorem dX8_item_194 : decode cX8_item 194 = .ok (.getfield 31, 3) := by decide +kernel
theorem dX8_item_197 : decode cX8_item 197 = .ok (.iconst 0, 1) := by decide +kernel
theorem dX8_item_198 : decode cX8_item 198 = .ok (.iaload, 1) := by decide +kernel
theorem dX8_item_199 : decode cX8_item 199 = .ok (.aload_n 0, 1) := by decide +kernel
theorem dX8_item_200 : decode cX8_item 200 = .ok (.getfield 31, 3) := by decide +kernel
theorem dX8_item_203 : decode cX8_item 203 = .ok (.iconst 1, 1) := by decide +kernel
theorem dX8_item_204 : decode cX8_item 204 = .ok (.iaload, 1) := by decide +kernel
theorem dX8_item_205 : decode cX8_item 205 = .ok (.iastore, 1) := by decide +kernel
theorem dX8_item_206 : decode cX8_item 206 = .ok (.iconst 1, 1) := by decide +kernel
theorem dX8_item_207 : decode cX8_item 207 = .ok (.ireturn, 1) := by decide +kernel
theorem dX8_item_208 : decode cX8_item 208 = .ok (.aload_n 0, 1) := by decide +kernel
theorem dX8_item_209 : decode cX8_item 209 = .ok (.invokevirtual 97, 3) := by decide +kernel
theorem dX8_item_212 : decode cX8_item 212 = .ok (.ifCond .eq 30, 3) := by decide +kernel
theorem dX8_item_215 : decode cX8_item 215 = .ok (.aload_n 0, 1) := by decide +kernel
theorem dX8_item_216 : decode cX8_item 216 = .ok (.getfield 31, 3) := by decide +kernel
theorem dX8_item_219 : decode cX8_item 219 = .ok (.iconst 0, 1) := by decide +kernel
theorem dX8_item_220 : decode cX8_item 220 = .ok (.iaload, 1) := by decide +kernel
theorem dX8_item_221 : decode cX8_item 221 = .ok (.iconst 5, 1) := by decide +kernel
theorem dX8_item_222 : decode cX8_item 222 = .ok (.if_icmp .gt 20, 3) := by decide +kernel
theorem dX8_item_225 : decode cX8_item 225 = .ok (.aload_n 0, 1) := by decide +kernel
theorem dX8_item_226 : decode cX8_item 226 = .ok (.getfield 31, 3) := by decide +kernel
theorem dX8_item_229 : decode cX8_item 229 = .ok (.iconst 1, 1) := by decide +kernel
theorem dX8_item_230 : decode cX8_item 230 = .ok (.iaload, 1) := by decide +kernel
theorem dX8_item_231 : decode cX8_item 231 = .ok (.i2l, 1) := by decide +kernel
theorem dX8_item_232 : decode cX8_item 232 = .ok (.lconst 1, 1) := by decide +kernel
theorem dX8_item_233 : decode cX8_item 233 = .ok (.ldc2_w 107, 3) := by decide +kernel
theorem dX8_item_236 : decode cX8_item 236 = .ok (.invokestatic 70, 3) := by decide +kernel
theorem dX8_item_239 : decode cX8_item 239 = .ok (.ifCond .ne 5, 3) := by decide +kernel
theorem dX8_item_242 : decode cX8_item 242 = .ok (.iconst 0, 1) := by decide +kernel
theorem dX8_item_243 : decode cX8_item 243 = .ok (.ireturn, 1) := by decide +kernel
theorem dX8_item_244 : decode cX8_item 244 = .ok (.aload_n 0, 1) := by decide +kernel
theorem dX8_item_245 : decode cX8_item 245 = .ok (.getfield 16, 3) := by decide +kernel
theorem dX8_item_248 : decode cX8_item 248 = .ok (.bipush 6, 2) := by decide +kernel
theorem dX8_item_250 : decode cX8_item 250 = .ok (.aload_n 0, 1) := by decide +kernel
theorem dX8_item_251 : decode cX8_item 251 = .ok (.getfield 31, 3) := by decide +kernel
theorem dX8_item_254 : decode cX8_item 254 = .ok (.iconst 0, 1) := by decide +kernel
theorem dX8_item_255 : decode cX8_item 255 = .ok (.iaload, 1) := by decide +kernel
theorem dX8_item_256 : decode cX8_item 256 = .ok (.iadd, 1) := by decide +kernel
theorem dX8_item_257 : decode cX8_item 257 = .ok (.aload_n 0, 1) := by decide +kernel
theorem dX8_item_258 : decode cX8_item 258 = .ok (.getfield 31, 3) := by decide +kernel
theorem dX8_item_261 : decode cX8_item 261 = .ok (.iconst 1, 1) := by decide +kernel
theorem dX8_item_262 : decode cX8_item 262 = .ok (.iaload, 1) := by decide +kernel
theorem dX8_item_263 : decode cX8_item 263 = .ok (.iastore, 1) := by decide +kernel
theorem dX8_item_264 : decode cX8_item 264 = .ok (.iconst 1, 1) := by decide +kernel
theorem dX8_item_265 : decode cX8_item 265 = .ok (.ireturn, 1) := by decide +kernel
theorem dX8_item_266 : decode cX8_item 266 = .ok (.aload_n 0, 1) := by decide +kernel
theorem dX8_item_267 : decode cX8_item 267 = .ok (.invokevirtual 109, 3) := by decide +kernel
theorem dX8_item_270 : decode cX8_item 270 = .ok (.ireturn, 1) := by decide +kernel
theorem dX8_item_271 : decode cX8_item 271 = .ok (.iconst 0, 1) := by decide +kernel
theorem dX8_item_272 : decode cX8_item 272 = .ok (.ireturn, 1) := by decide +kernel
set_option maxRecDepth 20000 in
theorem ggX8_readAll_X8_empty : GoodIn wsX8_readAll wsX8_empty := goodIn_r _ [8, 9, 10, 11, 44, 45, 46, 47, 48, 49, 50, 51, 52, 53, 54, 55, 56, 57, 58, 59, 60, 61, 62, 63, 64, 65] (by decide +kernel) (by decide +kernel)
set_option maxRecDepth 20000 in
theorem gX8_readAll_X8_empty : GoodIn wsX8_readAll (wsV RX8 56 RX8 yX8_empty wsX8_empty) := goodIn_app (goodIn_of _ (by decide +kernel)) ggX8_readAll_X8_empty
set_option maxRecDepth 20000 in
theorem ggX8_readAll_X8_item : GoodIn wsX8_readAll wsX8_item := goodIn_r _ [15, 2, 1, 16, 17, 18, 9, 10, 19, 11, 20, 21, 22, 7, 23, 3, 24, 25, 26, 27, 28, 29, 30, 31, 32, 33, 34, 35, 36, 37, 38, 39, 40, 41, 42, 43, 44, 45, 46, 47, 48, 49, 50, 51, 52, 53, 54, 55, 56, 57, 58, 59, 60, 61, 62, 63, 64, 65] (by decide +kernel) (by decide +kernel)
set_option maxRecDepth 20000 in
theorem gX8_readAll_X8_item : GoodIn wsX8_readAll (wsV RX8 112 RX8 yX8_item wsX8_item) := goodIn_app (goodIn_of _ (by decide +kernel)) ggX8_readAll_X8_item
theorem dX8_readAll_0 : decode cX8_readAll 0 = .ok (.aload_n 0, 1) := by decide +kernel
theorem dX8_readAll_1 : decode cX8_readAll 1 = .ok (.invokevirtual 56, 3) := by decide +kernel
theorem dX8_readAll_4 : decode cX8_readAll 4 = .ok (.aload_n 0, 1) := by decide +kernel
theorem dX8_readAll_5 : decode cX8_readAll 5 = .ok (.iconst 0, 1) := by decide +kernel
theorem dX8_readAll_6 : decode cX8_readAll 6 = .ok (.putfield 101, 3) := by decide +kernel
theorem dX8_readAll_9 : decode cX8_readAll 9 = .ok (.aload_n 0, 1) := by decide +kernel
theorem dX8_readAll_10 : decode cX8_readAll 10 = .ok (.iconst 0, 1) := by decide +kernel
theorem dX8_readAll_11 : decode cX8_readAll 11 = .ok (.putfield 78, 3) := by decide +kernel
theorem dX8_readAll_14 : decode cX8_readAll 14 = .ok (.aload_n 0, 1) := by decide +kernel
theorem dX8_readAll_15 : decode cX8_readAll 15 = .ok (.getfield 78, 3) := by decide +kernel
theorem dX8_readAll_18 : decode cX8_readAll 18 = .ok (.aload_n 0, 1) := by decide +kernel
theorem dX8_readAll_19 : decode cX8_readAll 19 = .ok (.getfield 74, 3) := by decide +kernel
theorem dX8_readAll_22 : decode cX8_readAll 22 = .ok (.if_icmp .ge 20, 3) := by decide +kernel
theorem dX8_readAll_25 : decode cX8_readAll 25 = .ok (.aload_n 0, 1) := by decide +kernel
theorem dX8_readAll_26 : decode cX8_readAll 26 = .ok (.getfield 78, 3) := by decide +kernel
theorem dX8_readAll_29 : decode cX8_readAll 29 = .ok (.istore_n 1, 1) := by decide +kernel
theorem dX8_readAll_30 : decode cX8_readAll 30 = .ok (.aload_n 0, 1) := by decide +kernel
theorem dX8_readAll_31 : decode cX8_readAll 31 = .ok (.invokevirtual 112, 3) := by decide +kernel
theorem dX8_readAll_34 : decode cX8_readAll 34 = .ok (.ifCond .ne 5, 3) := by decide +kernel
theorem dX8_readAll_37 : decode cX8_readAll 37 = .ok (.iload_n 1, 1) := by decide +kernel
theorem dX8_readAll_38 : decode cX8_readAll 38 = .ok (.ireturn, 1) := by decide +kernel
theorem dX8_readAll_39 : decode cX8_readAll 39 = .ok (.goto (-25), 3) := by decide +kernel
theorem dX8_readAll_42 : decode cX8_readAll 42 = .ok (.bipush (-4), 2) := by decide +kernel
theorem dX8_readAll_44 : decode cX8_readAll 44 = .ok (.ireturn, 1) := by decide +kernel
set_option maxRecDepth 20000 in
theorem ggX8_fault_X8_readAll : GoodIn wsX8_fault wsX8_readAll := goodIn_r _ [5, 6, 7, 8, 9, 10, 11, 4, 12, 13, 14, 15, 16, 17, 18, 19, 20, 21, 22, 23, 24, 25, 26, 27, 28, 29, 30, 31, 32, 33, 34, 35, 36, 37, 38, 39, 40, 41, 42, 43, 44, 45, 46, 47, 48, 49, 50, 51, 52, 53, 54, 55, 56, 57, 58, 59, 60, 61, 62, 63, 64, 65, 66, 67, 68, 69] (by decide +kernel) (by decide +kernel)
set_option maxRecDepth 20000 in
theorem gX8_fault_X8_readAll : GoodIn wsX8_fault (wsV RX8 115 RX8 yX8_readAll wsX8_readAll) := goodIn_app (goodIn_of _ (by decide +kernel)) ggX8_fault_X8_readAll
theorem dX8_fault_0 : decode cX8_fault 0 = .ok (.aload_n 0, 1) := by decide +kernel
theorem dX8_fault_1 : decode cX8_fault 1 = .ok (.invokevirtual 115, 3) := by decide +kernel
theorem dX8_fault_4 : decode cX8_fault 4 = .ok (.ireturn, 1) := by decide +kernel
set_option maxRecDepth 20000 in
theorem ggX8_lay_X8_readAll : GoodIn wsX8_lay wsX8_readAll := goodIn_r _ [6, 7, 8, 9, 10, 11, 12, 5, 13, 14, 1, 15, 16, 17, 18, 19, 20, 21, 22, 23, 24, 25, 26, 27, 28, 29, 30, 31, 32, 33, 34, 35, 36, 37, 38, 39, 40, 41, 42, 43, 44, 45, 46, 47, 59, 60, 61, 62, 63, 64, 65, 66, 67, 68, 69, 70, 71, 72, 73, 74, 75, 76, 77, 78, 79, 80] (by decide +kernel) (by decide +kernel)
set_option maxRecDepth 20000 in
theorem gX8_lay_X8_readAll : GoodIn wsX8_lay (wsV RX8 115 RX8 yX8_readAll wsX8_readAll) := goodIn_app (goodIn_of _ (by decide +kernel)) ggX8_lay_X8_readAll
set_option maxRecDepth 20000 in
theorem ggX8_lay_X8_begin : GoodIn wsX8_lay wsX8_begin := goodIn_r _ [51, 14, 15, 52, 1, 53, 54, 59, 60, 61, 62, 63, 64, 65, 66, 67, 68, 69, 70, 71, 72, 73, 74, 75, 76, 77, 78, 79, 80] (by decide +kernel) (by decide +kernel)
set_option maxRecDepth 20000 in
theorem gX8_lay_X8_begin : GoodIn wsX8_lay (wsV RX8 63 RX8 yX8_begin wsX8_begin) := goodIn_app (goodIn_of _ (by decide +kernel)) ggX8_lay_X8_begin
set_option maxRecDepth 20000 in
theorem ggX8_lay_X8_places : GoodIn wsX8_lay wsX8_places := goodIn_r _ [58, 14, 59, 60, 61, 62, 63, 64, 65, 66, 67, 68, 69, 70, 71, 72, 73, 74, 75, 76, 77, 78, 79, 80] (by decide +kernel) (by decide +kernel)
set_option maxRecDepth 20000 in
theorem gX8_lay_X8_places : GoodIn wsX8_lay (wsV RX8 119 RX8 yX8_places wsX8_places) := goodIn_app (goodIn_of _ (by decide +kernel)) ggX8_lay_X8_places
theorem dX8_lay_0 : decode cX8_lay 0 = .ok (.aload_n 0, 1) := by decide +kernel
theorem dX8_lay_1 : decode cX8_lay 1 = .ok (.invokevirtual 115, 3) := by decide +kernel
theorem dX8_lay_4 : decode cX8_lay 4 = .ok (.bipush (-4), 2) := by decide +kernel
theorem dX8_lay_6 : decode cX8_lay 6 = .ok (.if_icmp .ne 13, 3) := by decide +kernel
theorem dX8_lay_9 : decode cX8_lay 9 = .ok (.aload_n 0, 1) := by decide +kernel
theorem dX8_lay_10 : decode cX8_lay 10 = .ok (.getfield 22, 3) := by decide +kernel
theorem dX8_lay_13 : decode cX8_lay 13 = .ok (.bipush 16, 2) := by decide +kernel
theorem dX8_lay_15 : decode cX8_lay 15 = .ok (.iaload, 1) := by decide +kernel
theorem dX8_lay_16 : decode cX8_lay 16 = .ok (.ifCond .ne 6, 3) := by decide +kernel
theorem dX8_lay_19 : decode cX8_lay 19 = .ok (.bipush (-2), 2) := by decide +kernel
theorem dX8_lay_21 : decode cX8_lay 21 = .ok (.ireturn, 1) := by decide +kernel
theorem dX8_lay_22 : decode cX8_lay 22 = .ok (.aload_n 0, 1) := by decide +kernel
theorem dX8_lay_23 : decode cX8_lay 23 = .ok (.invokevirtual 63, 3) := by decide +kernel
theorem dX8_lay_26 : decode cX8_lay 26 = .ok (.aload_n 0, 1) := by decide +kernel
theorem dX8_lay_27 : decode cX8_lay 27 = .ok (.invokevirtual 119, 3) := by decide +kernel
theorem dX8_lay_30 : decode cX8_lay 30 = .ok (.ireturn, 1) := by decide +kernel
theorem dX8_begin_0 : decode cX8_begin 0 = .ok (.aload_n 0, 1) := by decide +kernel
theorem dX8_begin_1 : decode cX8_begin 1 = .ok (.getfield 13, 3) := by decide +kernel
theorem dX8_begin_4 : decode cX8_begin 4 = .ok (.iconst 0, 1) := by decide +kernel
theorem dX8_begin_5 : decode cX8_begin 5 = .ok (.aload_n 0, 1) := by decide +kernel
theorem dX8_begin_6 : decode cX8_begin 6 = .ok (.getfield 13, 3) := by decide +kernel
theorem dX8_begin_9 : decode cX8_begin 9 = .ok (.iconst 2, 1) := by decide +kernel
theorem dX8_begin_10 : decode cX8_begin 10 = .ok (.iaload, 1) := by decide +kernel
theorem dX8_begin_11 : decode cX8_begin 11 = .ok (.iastore, 1) := by decide +kernel
theorem dX8_begin_12 : decode cX8_begin 12 = .ok (.aload_n 0, 1) := by decide +kernel
theorem dX8_begin_13 : decode cX8_begin 13 = .ok (.getfield 13, 3) := by decide +kernel
theorem dX8_begin_16 : decode cX8_begin 16 = .ok (.iconst 1, 1) := by decide +kernel
theorem dX8_begin_17 : decode cX8_begin 17 = .ok (.aload_n 0, 1) := by decide +kernel
theorem dX8_begin_18 : decode cX8_begin 18 = .ok (.getfield 13, 3) := by decide +kernel
theorem dX8_begin_21 : decode cX8_begin 21 = .ok (.iconst 3, 1) := by decide +kernel
theorem dX8_begin_22 : decode cX8_begin 22 = .ok (.iaload, 1) := by decide +kernel
theorem dX8_begin_23 : decode cX8_begin 23 = .ok (.iastore, 1) := by decide +kernel
theorem dX8_begin_24 : decode cX8_begin 24 = .ok (.iconst 0, 1) := by decide +kernel
theorem dX8_begin_25 : decode cX8_begin 25 = .ok (.istore_n 1, 1) := by decide +kernel
theorem dX8_begin_26 : decode cX8_begin 26 = .ok (.iload_n 1, 1) := by decide +kernel
theorem dX8_begin_27 : decode cX8_begin 27 = .ok (.bipush 6, 2) := by decide +kernel
theorem dX8_begin_29 : decode cX8_begin 29 = .ok (.if_icmp .ge 24, 3) := by decide +kernel
theorem dX8_begin_32 : decode cX8_begin 32 = .ok (.aload_n 0, 1) := by decide +kernel
theorem dX8_begin_33 : decode cX8_begin 33 = .ok (.getfield 16, 3) := by decide +kernel
theorem dX8_begin_36 : decode cX8_begin 36 = .ok (.iload_n 1, 1) := by decide +kernel
theorem dX8_begin_37 : decode cX8_begin 37 = .ok (.aload_n 0, 1) := by decide +kernel
theorem dX8_begin_38 : decode cX8_begin 38 = .ok (.getfield 16, 3) := by decide +kernel
theorem dX8_begin_41 : decode cX8_begin 41 = .ok (.bipush 6, 2) := by decide +kernel
theorem dX8_begin_43 : decode cX8_begin 43 = .ok (.iload_n 1, 1) := by decide +kernel
theorem dX8_begin_44 : decode cX8_begin 44 = .ok (.iadd, 1) := by decide +kernel
theorem dX8_begin_45 : decode cX8_begin 45 = .ok (.iaload, 1) := by decide +kernel
theorem dX8_begin_46 : decode cX8_begin 46 = .ok (.iastore, 1) := by decide +kernel
theorem dX8_begin_47 : decode cX8_begin 47 = .ok (.iinc 1 1, 3) := by decide +kernel
theorem dX8_begin_50 : decode cX8_begin 50 = .ok (.goto (-24), 3) := by decide +kernel
theorem dX8_begin_53 : decode cX8_begin 53 = .ok (.iconst 0, 1) := by decide +kernel
theorem dX8_begin_54 : decode cX8_begin 54 = .ok (.istore_n 1, 1) := by decide +kernel
theorem dX8_begin_55 : decode cX8_begin 55 = .ok (.iload_n 1, 1) := by decide +kernel
theorem dX8_begin_56 : decode cX8_begin 56 = .ok (.bipush 52, 2) := by decide +kernel
theorem dX8_begin_58 : decode cX8_begin 58 = .ok (.if_icmp .ge 21, 3) := by decide +kernel
theorem dX8_begin_61 : decode cX8_begin 61 = .ok (.aload_n 0, 1) := by decide +kernel
theorem dX8_begin_62 : decode cX8_begin 62 = .ok (.getfield 19, 3) := by decide +kernel
theorem dX8_begin_65 : decode cX8_begin 65 = .ok (.iload_n 1, 1) := by decide +kernel
theorem dX8_begin_66 : decode cX8_begin 66 = .ok (.aload_n 0, 1) := by decide +kernel
theorem dX8_begin_67 : decode cX8_begin 67 = .ok (.getfield 22, 3) := by decide +kernel
theorem dX8_begin_70 : decode cX8_begin 70 = .ok (.iload_n 1, 1) := by decide +kernel
theorem dX8_begin_71 : decode cX8_begin 71 = .ok (.iaload, 1) := by decide +kernel
theorem dX8_begin_72 : decode cX8_begin 72 = .ok (.iastore, 1) := by decide +kernel
theorem dX8_begin_73 : decode cX8_begin 73 = .ok (.iinc 1 1, 3) := by decide +kernel
theorem dX8_begin_76 : decode cX8_begin 76 = .ok (.goto (-21), 3) := by decide +kernel
theorem dX8_begin_79 : decode cX8_begin 79 = .ok (.aload_n 0, 1) := by decide +kernel
theorem dX8_begin_80 : decode cX8_begin 80 = .ok (.iconst 0, 1) := by decide +kernel
theorem dX8_begin_81 : decode cX8_begin 81 = .ok (.putfield 122, 3) := by decide +kernel
theorem dX8_begin_84 : decode cX8_begin 84 = .ok (.aload_n 0, 1) := by decide +kernel
theorem dX8_begin_85 : decode cX8_begin 85 = .ok (.iconst 0, 1) := by decide +kernel
theorem dX8_begin_86 : decode cX8_begin 86 = .ok (.putfield 125, 3) := by decide +kernel
theorem dX8_begin_89 : decode cX8_begin 89 = .ok (.return_, 1) := by decide +kernel
theorem dX8_places_0 : decode cX8_places 0 = .ok (.aload_n 0, 1) := by decide +kernel
theorem dX8_places_1 : decode cX8_places 1 = .ok (.getfield 13, 3) := by decide +kernel
theorem dX8_places_4 : decode cX8_places 4 = .ok (.iconst 0, 1) := by decide +kernel
theorem dX8_places_5 : decode cX8_places 5 = .ok (.iaload, 1) := by decide +kernel
theorem dX8_places_6 : decode cX8_places 6 = .ok (.aload_n 0, 1) := by decide +kernel
theorem dX8_places_7 : decode cX8_places 7 = .ok (.getfield 13, 3) := by decide +kernel
theorem dX8_places_10 : decode cX8_places 10 = .ok (.iconst 1, 1) := by decide +kernel
theorem dX8_places_11 : decode cX8_places 11 = .ok (.iaload, 1) := by decide +kernel
theorem dX8_places_12 : decode cX8_places 12 = .ok (.imul, 1) := by decide +kernel
theorem dX8_places_13 : decode cX8_places 13 = .ok (.ireturn, 1) := by decide +kernel
set_option maxRecDepth 20000 in
theorem ggX8_isPlace_X8_places : GoodIn wsX8_isPlace wsX8_places := goodIn_r _ [5, 6, 10, 11, 12, 13, 14, 15, 16, 17, 18, 19, 20, 21, 22, 23, 24, 25, 26, 27, 28, 29, 30, 31] (by decide +kernel) (by decide +kernel)
set_option maxRecDepth 20000 in
theorem gX8_isPlace_X8_places : GoodIn wsX8_isPlace (wsV RX8 119 RX8 yX8_places wsX8_places) := goodIn_app (goodIn_of _ (by decide +kernel)) ggX8_isPlace_X8_places
set_option maxRecDepth 20000 in
theorem ggX8_isPlace_X8_in : GoodIn wsX8_isPlace wsX8_in := goodIn_r _ [9] (by decide +kernel) (by decide +kernel)
set_option maxRecDepth 20000 in
theorem gX8_isPlace_X8_in : GoodIn wsX8_isPlace (va_wsS RX8 70 yX8_in wsX8_in) := goodIn_app (goodIn_of _ (by decide +kernel)) ggX8_isPlace_X8_in
theorem dX8_isPlace_0 : decode cX8_isPlace 0 = .ok (.iload_n 1, 1) := by decide +kernel
theorem dX8_isPlace_1 : decode cX8_isPlace 1 = .ok (.i2l, 1) := by decide +kernel
theorem dX8_isPlace_2 : decode cX8_isPlace 2 = .ok (.lconst 0, 1) := by decide +kernel
theorem dX8_isPlace_3 : decode cX8_isPlace 3 = .ok (.aload_n 0, 1) := by decide +kernel
theorem dX8_isPlace_4 : decode cX8_isPlace 4 = .ok (.invokevirtual 119, 3) := by decide +kernel
theorem dX8_isPlace_7 : decode cX8_isPlace 7 = .ok (.iconst 1, 1) := by decide +kernel
theorem dX8_isPlace_8 : decode cX8_isPlace 8 = .ok (.isub, 1) := by decide +kernel
theorem dX8_isPlace_9 : decode cX8_isPlace 9 = .ok (.i2l, 1) := by decide +kernel
theorem dX8_isPlace_10 : decode cX8_isPlace 10 = .ok (.invokestatic 70, 3) := by decide +kernel
theorem dX8_isPlace_13 : decode cX8_isPlace 13 = .ok (.ireturn, 1) := by decide +kernel
set_option maxRecDepth 20000 in
theorem ggX8_isWalk_X8_in : GoodIn wsX8_isWalk wsX8_in := goodIn_r _ [5] (by decide +kernel) (by decide +kernel)
set_option maxRecDepth 20000 in
theorem gX8_isWalk_X8_in : GoodIn wsX8_isWalk (va_wsS RX8 70 yX8_in wsX8_in) := goodIn_app (goodIn_of _ (by decide +kernel)) ggX8_isWalk_X8_in
theorem dX8_isWalk_0 : decode cX8_isWalk 0 = .ok (.iload_n 1, 1) := by decide +kernel
theorem dX8_isWalk_1 : decode cX8_isWalk 1 = .ok (.i2l, 1) := by decide +kernel
theorem dX8_isWalk_2 : decode cX8_isWalk 2 = .ok (.lconst 0, 1) := by decide +kernel
theorem dX8_isWalk_3 : decode cX8_isWalk 3 = .ok (.aload_n 0, 1) := by decide +kernel
theorem dX8_isWalk_4 : decode cX8_isWalk 4 = .ok (.getfield 19, 3) := by decide +kernel
theorem dX8_isWalk_7 : decode cX8_isWalk 7 = .ok (.bipush 16, 2) := by decide +kernel
theorem dX8_isWalk_9 : decode cX8_isWalk 9 = .ok (.iaload, 1) := by decide +kernel
theorem dX8_isWalk_10 : decode cX8_isWalk 10 = .ok (.iconst 1, 1) := by decide +kernel
theorem dX8_isWalk_11 : decode cX8_isWalk 11 = .ok (.isub, 1) := by decide +kernel
theorem dX8_isWalk_12 : decode cX8_isWalk 12 = .ok (.i2l, 1) := by decide +kernel
theorem dX8_isWalk_13 : decode cX8_isWalk 13 = .ok (.invokestatic 70, 3) := by decide +kernel
theorem dX8_isWalk_16 : decode cX8_isWalk 16 = .ok (.ireturn, 1) := by decide +kernel
theorem dX8_kindOf_0 : decode cX8_kindOf 0 = .ok (.aload_n 0, 1) := by decide +kernel
theorem dX8_kindOf_1 : decode cX8_kindOf 1 = .ok (.getfield 19, 3) := by decide +kernel
theorem dX8_kindOf_4 : decode cX8_kindOf 4 = .ok (.bipush 17, 2) := by decide +kernel
theorem dX8_kindOf_6 : decode cX8_kindOf 6 = .ok (.bipush 7, 2) := by decide +kernel
theorem dX8_kindOf_8 : decode cX8_kindOf 8 = .ok (.iload_n 1, 1) := by decide +kernel
theorem dX8_kindOf_9 : decode cX8_kindOf 9 = .ok (.imul, 1) := by decide +kernel
theorem dX8_kindOf_10 : decode cX8_kindOf 10 = .ok (.iadd, 1) := by decide +kernel
theorem dX8_kindOf_11 : decode cX8_kindOf 11 = .ok (.iaload, 1) := by decide +kernel
theorem dX8_kindOf_12 : decode cX8_kindOf 12 = .ok (.ireturn, 1) := by decide +kernel
theorem dX8_marksOf_0 : decode cX8_marksOf 0 = .ok (.aload_n 0, 1) := by decide +kernel
theorem dX8_marksOf_1 : decode cX8_marksOf 1 = .ok (.getfield 19, 3) := by decide +kernel
theorem dX8_marksOf_4 : decode cX8_marksOf 4 = .ok (.bipush 17, 2) := by decide +kernel
theorem dX8_marksOf_6 : decode cX8_marksOf 6 = .ok (.bipush 7, 2) := by decide +kernel
theorem dX8_marksOf_8 : decode cX8_marksOf 8 = .ok (.iload_n 1, 1) := by decide +kernel
theorem dX8_marksOf_9 : decode cX8_marksOf 9 = .ok (.imul, 1) := by decide +kernel
theorem dX8_marksOf_10 : decode cX8_marksOf 10 = .ok (.iadd, 1) := by decide +kernel
theorem dX8_marksOf_11 : decode cX8_marksOf 11 = .ok (.iconst 1, 1) := by decide +kernel
theorem dX8_marksOf_12 : decode cX8_marksOf 12 = .ok (.iadd, 1) := by decide +kernel
theorem dX8_marksOf_13 : decode cX8_marksOf 13 = .ok (.iaload, 1) := by decide +kernel
theorem dX8_marksOf_14 : decode cX8_marksOf 14 = .ok (.ireturn, 1) := by decide +kernel
set_option maxRecDepth 20000 in
theorem ggX8_seesBy_X8_in : GoodIn wsX8_seesBy wsX8_in := goodIn_r _ [6] (by decide +kernel) (by decide +kernel)
set_option maxRecDepth 20000 in
theorem gX8_seesBy_X8_in : GoodIn wsX8_seesBy (va_wsS RX8 70 yX8_in wsX8_in) := goodIn_app (goodIn_of _ (by decide +kernel)) ggX8_seesBy_X8_in
theorem dX8_seesBy_0 : decode cX8_seesBy 0 = .ok (.iconst 0, 1) := by decide +kernel
theorem dX8_seesBy_1 : decode cX8_seesBy 1 = .ok (.istore 4, 2) := by decide +kernel
theorem dX8_seesBy_3 : decode cX8_seesBy 3 = .ok (.iload_n 1, 1) := by decide +kernel
theorem dX8_seesBy_4 : decode cX8_seesBy 4 = .ok (.aload_n 0, 1) := by decide +kernel
theorem dX8_seesBy_5 : decode cX8_seesBy 5 = .ok (.getfield 13, 3) := by decide +kernel
theorem dX8_seesBy_8 : decode cX8_seesBy 8 = .ok (.iconst 1, 1) := by decide +kernel
theorem dX8_seesBy_9 : decode cX8_seesBy 9 = .ok (.iaload, 1) := by decide +kernel
theorem dX8_seesBy_10 : decode cX8_seesBy 10 = .ok (.idiv, 1) := by decide +kernel
theorem dX8_seesBy_11 : decode cX8_seesBy 11 = .ok (.iload_n 2, 1) := by decide +kernel
theorem dX8_seesBy_12 : decode cX8_seesBy 12 = .ok (.iadd, 1) := by decide +kernel
theorem dX8_seesBy_13 : decode cX8_seesBy 13 = .ok (.istore 5, 2) := by decide +kernel
theorem dX8_seesBy_15 : decode cX8_seesBy 15 = .ok (.iload_n 1, 1) := by decide +kernel
theorem dX8_seesBy_16 : decode cX8_seesBy 16 = .ok (.aload_n 0, 1) := by decide +kernel
theorem dX8_seesBy_17 : decode cX8_seesBy 17 = .ok (.getfield 13, 3) := by decide +kernel
theorem dX8_seesBy_20 : decode cX8_seesBy 20 = .ok (.iconst 1, 1) := by decide +kernel
theorem dX8_seesBy_21 : decode cX8_seesBy 21 = .ok (.iaload, 1) := by decide +kernel
theorem dX8_seesBy_22 : decode cX8_seesBy 22 = .ok (.irem, 1) := by decide +kernel
theorem dX8_seesBy_23 : decode cX8_seesBy 23 = .ok (.iload_n 3, 1) := by decide +kernel
theorem dX8_seesBy_24 : decode cX8_seesBy 24 = .ok (.iadd, 1) := by decide +kernel
theorem dX8_seesBy_25 : decode cX8_seesBy 25 = .ok (.istore 6, 2) := by decide +kernel
theorem dX8_seesBy_27 : decode cX8_seesBy 27 = .ok (.iconst 1, 1) := by decide +kernel
theorem dX8_seesBy_28 : decode cX8_seesBy 28 = .ok (.istore 7, 2) := by decide +kernel
theorem dX8_seesBy_30 : decode cX8_seesBy 30 = .ok (.iload 7, 2) := by decide +kernel
theorem dX8_seesBy_32 : decode cX8_seesBy 32 = .ok (.ifCond .eq 87, 3) := by decide +kernel

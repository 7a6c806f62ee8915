theorem dX10_stretch_31 : decode cX10_stretch 31 = .ok (.ireturn, 1) := by decide +kernel
theorem dX10_stretch_32 : decode cX10_stretch 32 = .ok (.aload_n 0, 1) := by decide +kernel
theorem dX10_stretch_33 : decode cX10_stretch 33 = .ok (.iload_n 1, 1) := by decide +kernel
theorem dX10_stretch_34 : decode cX10_stretch 34 = .ok (.iconst 0, 1) := by decide +kernel
theorem dX10_stretch_35 : decode cX10_stretch 35 = .ok (.invokevirtual 177, 3) := by decide +kernel
theorem dX10_stretch_38 : decode cX10_stretch 38 = .ok (.astore 5, 2) := by decide +kernel
theorem dX10_stretch_40 : decode cX10_stretch 40 = .ok (.aload 5, 2) := by decide +kernel
theorem dX10_stretch_42 : decode cX10_stretch 42 = .ok (.ifnonnull 6, 3) := by decide +kernel
theorem dX10_stretch_45 : decode cX10_stretch 45 = .ok (.ldc 176, 2) := by decide +kernel
theorem dX10_stretch_47 : decode cX10_stretch 47 = .ok (.ireturn, 1) := by decide +kernel
theorem dX10_stretch_48 : decode cX10_stretch 48 = .ok (.aload_n 0, 1) := by decide +kernel
theorem dX10_stretch_49 : decode cX10_stretch 49 = .ok (.aload 5, 2) := by decide +kernel
theorem dX10_stretch_51 : decode cX10_stretch 51 = .ok (.iload_n 2, 1) := by decide +kernel
theorem dX10_stretch_52 : decode cX10_stretch 52 = .ok (.iload_n 3, 1) := by decide +kernel
theorem dX10_stretch_53 : decode cX10_stretch 53 = .ok (.invokevirtual 287, 3) := by decide +kernel
theorem dX10_stretch_56 : decode cX10_stretch 56 = .ok (.pop, 1) := by decide +kernel
theorem dX10_stretch_57 : decode cX10_stretch 57 = .ok (.iload 4, 2) := by decide +kernel
theorem dX10_stretch_59 : decode cX10_stretch 59 = .ok (.ifCond .ne 13, 3) := by decide +kernel
theorem dX10_stretch_62 : decode cX10_stretch 62 = .ok (.aload_n 0, 1) := by decide +kernel
theorem dX10_stretch_63 : decode cX10_stretch 63 = .ok (.getfield 71, 3) := by decide +kernel
theorem dX10_stretch_66 : decode cX10_stretch 66 = .ok (.invokevirtual 251, 3) := by decide +kernel
theorem dX10_stretch_69 : decode cX10_stretch 69 = .ok (.goto 10, 3) := by decide +kernel
theorem dX10_stretch_72 : decode cX10_stretch 72 = .ok (.aload_n 0, 1) := by decide +kernel
theorem dX10_stretch_73 : decode cX10_stretch 73 = .ok (.getfield 71, 3) := by decide +kernel
theorem dX10_stretch_76 : decode cX10_stretch 76 = .ok (.invokevirtual 254, 3) := by decide +kernel
theorem dX10_stretch_79 : decode cX10_stretch 79 = .ok (.ireturn, 1) := by decide +kernel
set_option maxRecDepth 20000 in
theorem ggX10_sight_X10_isTime : GoodIn wsX10_sight wsX10_isTime := goodIn_r _ [7, 8, 9, 10, 6, 11, 12, 13, 14, 15] (by decide +kernel) (by decide +kernel)
set_option maxRecDepth 20000 in
theorem gX10_sight_X10_isTime : GoodIn wsX10_sight (va_wsS RX10 115 yX10_isTime wsX10_isTime) := goodIn_app (goodIn_of _ (by decide +kernel)) ggX10_sight_X10_isTime
set_option maxRecDepth 20000 in
theorem ggX10_sight_X10_isNear : GoodIn wsX10_sight wsX10_isNear := goodIn_r _ [18, 19, 20, 13, 14, 6, 15] (by decide +kernel) (by decide +kernel)
set_option maxRecDepth 20000 in
theorem gX10_sight_X10_isNear : GoodIn wsX10_sight (va_wsS RX10 290 yX10_isNear wsX10_isNear) := goodIn_app (goodIn_of _ (by decide +kernel)) ggX10_sight_X10_isNear
set_option maxRecDepth 20000 in
theorem ggX10_sight_X7_add : GoodIn wsX10_sight wsX7_add := goodIn_r _ [25, 26, 27, 28, 29, 30, 43, 44, 45, 46, 47] (by decide +kernel) (by decide +kernel)
set_option maxRecDepth 20000 in
theorem gX10_sight_X7_add : GoodIn wsX10_sight (wsV RX10 296 RX7 yX7_add wsX7_add) := goodIn_app (goodIn_of _ (by decide +kernel)) ggX10_sight_X7_add
theorem dX10_sight_0 : decode cX10_sight 0 = .ok (.iload_n 1, 1) := by decide +kernel
theorem dX10_sight_1 : decode cX10_sight 1 = .ok (.iload_n 2, 1) := by decide +kernel
theorem dX10_sight_2 : decode cX10_sight 2 = .ok (.invokestatic 115, 3) := by decide +kernel
theorem dX10_sight_5 : decode cX10_sight 5 = .ok (.ifCond .eq 20, 3) := by decide +kernel
theorem dX10_sight_8 : decode cX10_sight 8 = .ok (.iload_n 3, 1) := by decide +kernel
theorem dX10_sight_9 : decode cX10_sight 9 = .ok (.i2l, 1) := by decide +kernel
theorem dX10_sight_10 : decode cX10_sight 10 = .ok (.invokestatic 290, 3) := by decide +kernel
theorem dX10_sight_13 : decode cX10_sight 13 = .ok (.ifCond .eq 12, 3) := by decide +kernel
theorem dX10_sight_16 : decode cX10_sight 16 = .ok (.iload 4, 2) := by decide +kernel
theorem dX10_sight_18 : decode cX10_sight 18 = .ok (.i2l, 1) := by decide +kernel
theorem dX10_sight_19 : decode cX10_sight 19 = .ok (.invokestatic 290, 3) := by decide +kernel
theorem dX10_sight_22 : decode cX10_sight 22 = .ok (.ifCond .ne 6, 3) := by decide +kernel
theorem dX10_sight_25 : decode cX10_sight 25 = .ok (.ldc 86, 2) := by decide +kernel
theorem dX10_sight_27 : decode cX10_sight 27 = .ok (.ireturn, 1) := by decide +kernel
theorem dX10_sight_28 : decode cX10_sight 28 = .ok (.aload_n 0, 1) := by decide +kernel
theorem dX10_sight_29 : decode cX10_sight 29 = .ok (.getfield 46, 3) := by decide +kernel
theorem dX10_sight_32 : decode cX10_sight 32 = .ok (.getfield 294, 3) := by decide +kernel
theorem dX10_sight_35 : decode cX10_sight 35 = .ok (.bipush 20, 2) := by decide +kernel
theorem dX10_sight_37 : decode cX10_sight 37 = .ok (.if_icmp .lt 7, 3) := by decide +kernel
theorem dX10_sight_40 : decode cX10_sight 40 = .ok (.ldc_w 295, 3) := by decide +kernel
theorem dX10_sight_43 : decode cX10_sight 43 = .ok (.ireturn, 1) := by decide +kernel
theorem dX10_sight_44 : decode cX10_sight 44 = .ok (.aload_n 0, 1) := by decide +kernel
theorem dX10_sight_45 : decode cX10_sight 45 = .ok (.getfield 46, 3) := by decide +kernel
theorem dX10_sight_48 : decode cX10_sight 48 = .ok (.iload_n 1, 1) := by decide +kernel
theorem dX10_sight_49 : decode cX10_sight 49 = .ok (.iload_n 2, 1) := by decide +kernel
theorem dX10_sight_50 : decode cX10_sight 50 = .ok (.iload_n 3, 1) := by decide +kernel
theorem dX10_sight_51 : decode cX10_sight 51 = .ok (.iload 4, 2) := by decide +kernel
theorem dX10_sight_53 : decode cX10_sight 53 = .ok (.invokevirtual 296, 3) := by decide +kernel
theorem dX10_sight_56 : decode cX10_sight 56 = .ok (.aload_n 0, 1) := by decide +kernel
theorem dX10_sight_57 : decode cX10_sight 57 = .ok (.getfield 46, 3) := by decide +kernel
theorem dX10_sight_60 : decode cX10_sight 60 = .ok (.getfield 294, 3) := by decide +kernel
theorem dX10_sight_63 : decode cX10_sight 63 = .ok (.ireturn, 1) := by decide +kernel
theorem dX10_forget_0 : decode cX10_forget 0 = .ok (.aload_n 0, 1) := by decide +kernel
theorem dX10_forget_1 : decode cX10_forget 1 = .ok (.getfield 46, 3) := by decide +kernel
theorem dX10_forget_4 : decode cX10_forget 4 = .ok (.getfield 294, 3) := by decide +kernel
theorem dX10_forget_7 : decode cX10_forget 7 = .ok (.istore_n 1, 1) := by decide +kernel
theorem dX10_forget_8 : decode cX10_forget 8 = .ok (.aload_n 0, 1) := by decide +kernel
theorem dX10_forget_9 : decode cX10_forget 9 = .ok (.getfield 46, 3) := by decide +kernel
theorem dX10_forget_12 : decode cX10_forget 12 = .ok (.iconst 0, 1) := by decide +kernel
theorem dX10_forget_13 : decode cX10_forget 13 = .ok (.putfield 294, 3) := by decide +kernel
theorem dX10_forget_16 : decode cX10_forget 16 = .ok (.iload_n 1, 1) := by decide +kernel
theorem dX10_forget_17 : decode cX10_forget 17 = .ok (.ireturn, 1) := by decide +kernel
set_option maxRecDepth 20000 in
theorem ggX10_found_X10_isPlace : GoodIn wsX10_found wsX10_isPlace := goodIn_r _ [10, 11, 12, 13, 9, 14] (by decide +kernel) (by decide +kernel)
set_option maxRecDepth 20000 in
theorem gX10_found_X10_isPlace : GoodIn wsX10_found (va_wsS RX10 143 yX10_isPlace wsX10_isPlace) := goodIn_app (goodIn_of _ (by decide +kernel)) ggX10_found_X10_isPlace
set_option maxRecDepth 20000 in
theorem ggX10_found_X10_dialAt : GoodIn wsX10_found wsX10_dialAt := goodIn_r _ [18, 5, 19, 7, 8, 9, 10, 11, 12, 13, 14, 20, 21, 22, 23, 24, 25, 26, 27, 28, 169, 170, 171, 172, 173, 174, 175, 176, 177, 178, 179, 180, 186, 187, 188, 189, 190, 191, 192] (by decide +kernel) (by decide +kernel)
set_option maxRecDepth 20000 in
theorem gX10_found_X10_dialAt : GoodIn wsX10_found (wsV RX10 177 RX10 yX10_dialAt wsX10_dialAt) := goodIn_app (goodIn_of _ (by decide +kernel)) ggX10_found_X10_dialAt
set_option maxRecDepth 20000 in
theorem ggX10_found_X10_keepAllTurns : GoodIn wsX10_found wsX10_keepAllTurns := goodIn_r _ [32, 33, 6, 169, 170, 171, 172, 173, 174, 175, 176, 177, 178, 179, 180] (by decide +kernel) (by decide +kernel)
set_option maxRecDepth 20000 in
theorem gX10_found_X10_keepAllTurns : GoodIn wsX10_found (wsV RX10 300 RX10 yX10_keepAllTurns wsX10_keepAllTurns) := goodIn_app (goodIn_of _ (by decide +kernel)) ggX10_found_X10_keepAllTurns
set_option maxRecDepth 20000 in
theorem ggX10_found_X6_setUp : GoodIn wsX10_found wsX6_setUp := goodIn_r _ [38, 39, 40, 41, 42, 43, 21, 22, 23, 24, 25, 26, 9, 27, 28, 12, 13, 14, 44, 45, 46, 37, 47, 48, 49, 50, 51, 52, 53, 54, 55, 56, 57, 58, 59, 60, 61, 62, 63, 64, 65, 66, 67, 68, 69, 70, 71, 72, 73, 74, 75, 76, 186, 187, 188, 189, 190, 191, 192, 193, 194, 195, 196, 197, 198, 199, 200, 201, 202, 203, 204, 205, 206, 207, 208] (by decide +kernel) (by decide +kernel)
set_option maxRecDepth 20000 in
theorem gX10_found_X6_setUp : GoodIn wsX10_found (wsV RX10 259 RX6 yX6_setUp wsX6_setUp) := goodIn_app (goodIn_of _ (by decide +kernel)) ggX10_found_X6_setUp
set_option maxRecDepth 20000 in
theorem ggX10_found_X10_keepAgreeingTurns : GoodIn wsX10_found wsX10_keepAgreeingTurns := goodIn_r _ [80, 81, 2, 4, 6, 33, 82, 83, 84, 85, 86, 87, 88, 89, 90, 91, 92, 93, 94, 95, 96, 97, 98, 99, 100, 101, 102, 13, 9, 14, 103, 104, 105, 106, 51, 52, 53, 54, 55, 59, 60, 56, 57, 58, 107, 108, 109, 110, 111, 112, 113, 114, 115, 116, 117, 37, 118, 119, 120, 73, 75, 39, 40, 76, 121, 122, 123, 124, 125, 126, 127, 128, 129, 130, 131, 45, 46, 47, 48, 49, 50, 43, 21, 22, 23, 24, 25, 26, 27, 28, 12, 61, 62, 63, 64, 65, 66, 67, 68, 132, 133, 134, 135, 42, 41, 136, 137, 138, 139, 140, 141, 142, 143, 144, 145, 146, 147, 148, 149, 150, 151, 152, 153, 154, 155, 156, 157, 158, 159, 160, 161, 162, 163, 164, 165, 166, 167, 168, 169, 170, 171, 172, 173, 174, 175, 176, 177, 178, 179, 180, 181, 182, 183, 184, 185, 186, 187, 188, 189, 190, 191, 192, 193, 194, 195, 196, 197, 198, 199, 200, 201, 202, 203, 204, 205, 209, 210, 211, 212, 213, 214, 215, 216, 217, 218, 219, 220, 221, 222, 223, 224, 225, 226, 227, 228, 229, 206, 207, 208] (by decide +kernel) (by decide +kernel)
set_option maxRecDepth 20000 in
theorem gX10_found_X10_keepAgreeingTurns : GoodIn wsX10_found (wsV RX10 303 RX10 yX10_keepAgreeingTurns wsX10_keepAgreeingTurns) := goodIn_app (goodIn_of _ (by decide +kernel)) ggX10_found_X10_keepAgreeingTurns
theorem dX10_found_0 : decode cX10_found 0 = .ok (.iload_n 1, 1) := by decide +kernel
theorem dX10_found_1 : decode cX10_found 1 = .ok (.invokestatic 143, 3) := by decide +kernel
theorem dX10_found_4 : decode cX10_found 4 = .ok (.ifCond .ne 6, 3) := by decide +kernel
theorem dX10_found_7 : decode cX10_found 7 = .ok (.ldc 86, 2) := by decide +kernel
theorem dX10_found_9 : decode cX10_found 9 = .ok (.ireturn, 1) := by decide +kernel
theorem dX10_found_10 : decode cX10_found 10 = .ok (.aload_n 0, 1) := by decide +kernel
theorem dX10_found_11 : decode cX10_found 11 = .ok (.iload_n 1, 1) := by decide +kernel
theorem dX10_found_12 : decode cX10_found 12 = .ok (.iconst 1, 1) := by decide +kernel
theorem dX10_found_13 : decode cX10_found 13 = .ok (.invokevirtual 177, 3) := by decide +kernel
theorem dX10_found_16 : decode cX10_found 16 = .ok (.astore_n 2, 1) := by decide +kernel
theorem dX10_found_17 : decode cX10_found 17 = .ok (.aload_n 2, 1) := by decide +kernel
theorem dX10_found_18 : decode cX10_found 18 = .ok (.ifnull 14, 3) := by decide +kernel
theorem dX10_found_21 : decode cX10_found 21 = .ok (.aload_n 0, 1) := by decide +kernel
theorem dX10_found_22 : decode cX10_found 22 = .ok (.getfield 46, 3) := by decide +kernel
theorem dX10_found_25 : decode cX10_found 25 = .ok (.getfield 294, 3) := by decide +kernel
theorem dX10_found_28 : decode cX10_found 28 = .ok (.iconst 3, 1) := by decide +kernel
theorem dX10_found_29 : decode cX10_found 29 = .ok (.if_icmp .ge 6, 3) := by decide +kernel
theorem dX10_found_32 : decode cX10_found 32 = .ok (.ldc 176, 2) := by decide +kernel
theorem dX10_found_34 : decode cX10_found 34 = .ok (.ireturn, 1) := by decide +kernel
theorem dX10_found_35 : decode cX10_found 35 = .ok (.aload_n 0, 1) := by decide +kernel
theorem dX10_found_36 : decode cX10_found 36 = .ok (.invokevirtual 300, 3) := by decide +kernel
theorem dX10_found_39 : decode cX10_found 39 = .ok (.aload_n 0, 1) := by decide +kernel
theorem dX10_found_40 : decode cX10_found 40 = .ok (.getfield 32, 3) := by decide +kernel
theorem dX10_found_43 : decode cX10_found 43 = .ok (.aload_n 2, 1) := by decide +kernel
theorem dX10_found_44 : decode cX10_found 44 = .ok (.aload_n 0, 1) := by decide +kernel
theorem dX10_found_45 : decode cX10_found 45 = .ok (.getfield 18, 3) := by decide +kernel
theorem dX10_found_48 : decode cX10_found 48 = .ok (.invokevirtual 259, 3) := by decide +kernel
theorem dX10_found_51 : decode cX10_found 51 = .ok (.iconst 0, 1) := by decide +kernel
theorem dX10_found_52 : decode cX10_found 52 = .ok (.istore_n 3, 1) := by decide +kernel
theorem dX10_found_53 : decode cX10_found 53 = .ok (.iload_n 3, 1) := by decide +kernel
theorem dX10_found_54 : decode cX10_found 54 = .ok (.aload_n 0, 1) := by decide +kernel
theorem dX10_found_55 : decode cX10_found 55 = .ok (.getfield 46, 3) := by decide +kernel
theorem dX10_found_58 : decode cX10_found 58 = .ok (.getfield 294, 3) := by decide +kernel
theorem dX10_found_61 : decode cX10_found 61 = .ok (.if_icmp .ge 15, 3) := by decide +kernel
theorem dX10_found_64 : decode cX10_found 64 = .ok (.aload_n 0, 1) := by decide +kernel
theorem dX10_found_65 : decode cX10_found 65 = .ok (.aload_n 2, 1) := by decide +kernel
theorem dX10_found_66 : decode cX10_found 66 = .ok (.iload_n 3, 1) := by decide +kernel
theorem dX10_found_67 : decode cX10_found 67 = .ok (.invokevirtual 303, 3) := by decide +kernel
theorem dX10_found_70 : decode cX10_found 70 = .ok (.iinc 3 1, 3) := by decide +kernel
theorem dX10_found_73 : decode cX10_found 73 = .ok (.goto (-20), 3) := by decide +kernel
theorem dX10_found_76 : decode cX10_found 76 = .ok (.aload_n 0, 1) := by decide +kernel
theorem dX10_found_77 : decode cX10_found 77 = .ok (.getfield 54, 3) := by decide +kernel
theorem dX10_found_80 : decode cX10_found 80 = .ok (.ireturn, 1) := by decide +kernel
set_option maxRecDepth 20000 in
theorem ggX10_turn_X10_within : GoodIn wsX10_turn wsX10_within := goodIn_r _ [7] (by decide +kernel) (by decide +kernel)
set_option maxRecDepth 20000 in
theorem gX10_turn_X10_within : GoodIn wsX10_turn (va_wsS RX10 82 yX10_within wsX10_within) := goodIn_app (goodIn_of _ (by decide +kernel)) ggX10_turn_X10_within
theorem dX10_turn_0 : decode cX10_turn 0 = .ok (.iload_n 1, 1) := by decide +kernel
theorem dX10_turn_1 : decode cX10_turn 1 = .ok (.i2l, 1) := by decide +kernel
theorem dX10_turn_2 : decode cX10_turn 2 = .ok (.lconst 0, 1) := by decide +kernel
theorem dX10_turn_3 : decode cX10_turn 3 = .ok (.aload_n 0, 1) := by decide +kernel
theorem dX10_turn_4 : decode cX10_turn 4 = .ok (.getfield 54, 3) := by decide +kernel
theorem dX10_turn_7 : decode cX10_turn 7 = .ok (.iconst 1, 1) := by decide +kernel
theorem dX10_turn_8 : decode cX10_turn 8 = .ok (.isub, 1) := by decide +kernel
theorem dX10_turn_9 : decode cX10_turn 9 = .ok (.i2l, 1) := by decide +kernel
theorem dX10_turn_10 : decode cX10_turn 10 = .ok (.invokestatic 82, 3) := by decide +kernel
theorem dX10_turn_13 : decode cX10_turn 13 = .ok (.ifCond .eq 12, 3) := by decide +kernel
theorem dX10_turn_16 : decode cX10_turn 16 = .ok (.aload_n 0, 1) := by decide +kernel
theorem dX10_turn_17 : decode cX10_turn 17 = .ok (.getfield 50, 3) := by decide +kernel
theorem dX10_turn_20 : decode cX10_turn 20 = .ok (.iload_n 1, 1) := by decide +kernel
theorem dX10_turn_21 : decode cX10_turn 21 = .ok (.iaload, 1) := by decide +kernel
theorem dX10_turn_22 : decode cX10_turn 22 = .ok (.goto 5, 3) := by decide +kernel
theorem dX10_turn_25 : decode cX10_turn 25 = .ok (.ldc 86, 2) := by decide +kernel
theorem dX10_turn_27 : decode cX10_turn 27 = .ok (.ireturn, 1) := by decide +kernel
set_option maxRecDepth 20000 in
theorem ggX10_count_X10_countDials : GoodIn wsX10_count wsX10_countDials := goodIn_r _ [10, 11, 12, 18, 19, 20, 21, 22, 23, 24, 25, 26, 27, 28, 29] (by decide +kernel) (by decide +kernel)
set_option maxRecDepth 20000 in
theorem gX10_count_X10_countDials : GoodIn wsX10_count (wsV RX10 306 RX10 yX10_countDials wsX10_countDials) := goodIn_app (goodIn_of _ (by decide +kernel)) ggX10_count_X10_countDials
set_option maxRecDepth 20000 in
theorem ggX10_count_X10_countHouses : GoodIn wsX10_count wsX10_countHouses := goodIn_r _ [16, 11, 17, 18, 19, 20, 21, 22, 23, 24, 25, 26, 27, 28, 29] (by decide +kernel) (by decide +kernel)
set_option maxRecDepth 20000 in
theorem gX10_count_X10_countHouses : GoodIn wsX10_count (wsV RX10 309 RX10 yX10_countHouses wsX10_countHouses) := goodIn_app (goodIn_of _ (by decide +kernel)) ggX10_count_X10_countHouses
theorem dX10_count_0 : decode cX10_count 0 = .ok (.iload_n 1, 1) := by decide +kernel
theorem dX10_count_1 : decode cX10_count 1 = .ok (.tableswitch 92 0 6 #[43, 53, 58, 63, 71, 79, 87], 43) := by decide +kernel
theorem dX10_count_44 : decode cX10_count 44 = .ok (.aload_n 0, 1) := by decide +kernel
theorem dX10_count_45 : decode cX10_count 45 = .ok (.invokevirtual 306, 3) := by decide +kernel
theorem dX10_count_48 : decode cX10_count 48 = .ok (.aload_n 0, 1) := by decide +kernel
theorem dX10_count_49 : decode cX10_count 49 = .ok (.invokevirtual 309, 3) := by decide +kernel
theorem dX10_count_52 : decode cX10_count 52 = .ok (.iadd, 1) := by decide +kernel
theorem dX10_count_53 : decode cX10_count 53 = .ok (.ireturn, 1) := by decide +kernel
theorem dX10_count_54 : decode cX10_count 54 = .ok (.aload_n 0, 1) := by decide +kernel
theorem dX10_count_55 : decode cX10_count 55 = .ok (.invokevirtual 306, 3) := by decide +kernel
theorem dX10_count_58 : decode cX10_count 58 = .ok (.ireturn, 1) := by decide +kernel
theorem dX10_count_59 : decode cX10_count 59 = .ok (.aload_n 0, 1) := by decide +kernel
theorem dX10_count_60 : decode cX10_count 60 = .ok (.invokevirtual 309, 3) := by decide +kernel
theorem dX10_count_63 : decode cX10_count 63 = .ok (.ireturn, 1) := by decide +kernel
theorem dX10_count_64 : decode cX10_count 64 = .ok (.aload_n 0, 1) := by decide +kernel
theorem dX10_count_65 : decode cX10_count 65 = .ok (.getfield 10, 3) := by decide +kernel
theorem dX10_count_68 : decode cX10_count 68 = .ok (.getfield 103, 3) := by decide +kernel
theorem dX10_count_71 : decode cX10_count 71 = .ok (.ireturn, 1) := by decide +kernel
theorem dX10_count_72 : decode cX10_count 72 = .ok (.aload_n 0, 1) := by decide +kernel
theorem dX10_count_73 : decode cX10_count 73 = .ok (.getfield 46, 3) := by decide +kernel
theorem dX10_count_76 : decode cX10_count 76 = .ok (.getfield 294, 3) := by decide +kernel
theorem dX10_count_79 : decode cX10_count 79 = .ok (.ireturn, 1) := by decide +kernel
theorem dX10_count_80 : decode cX10_count 80 = .ok (.aload_n 0, 1) := by decide +kernel
theorem dX10_count_81 : decode cX10_count 81 = .ok (.getfield 25, 3) := by decide +kernel
theorem dX10_count_84 : decode cX10_count 84 = .ok (.getfield 215, 3) := by decide +kernel
theorem dX10_count_87 : decode cX10_count 87 = .ok (.ireturn, 1) := by decide +kernel
theorem dX10_count_88 : decode cX10_count 88 = .ok (.aload_n 0, 1) := by decide +kernel
theorem dX10_count_89 : decode cX10_count 89 = .ok (.getfield 54, 3) := by decide +kernel
theorem dX10_count_92 : decode cX10_count 92 = .ok (.ireturn, 1) := by decide +kernel
theorem dX10_count_93 : decode cX10_count 93 = .ok (.ldc 86, 2) := by decide +kernel
theorem dX10_count_95 : decode cX10_count 95 = .ok (.ireturn, 1) := by decide +kernel
theorem dX10_within_0 : decode cX10_within 0 = .ok (.lload_n 0, 1) := by decide +kernel
theorem dX10_within_1 : decode cX10_within 1 = .ok (.lload_n 2, 1) := by decide +kernel
theorem dX10_within_2 : decode cX10_within 2 = .ok (.lcmp, 1) := by decide +kernel
theorem dX10_within_3 : decode cX10_within 3 = .ok (.ifCond .lt 14, 3) := by decide +kernel
theorem dX10_within_6 : decode cX10_within 6 = .ok (.lload_n 0, 1) := by decide +kernel
theorem dX10_within_7 : decode cX10_within 7 = .ok (.lload 4, 2) := by decide +kernel
theorem dX10_within_9 : decode cX10_within 9 = .ok (.lcmp, 1) := by decide +kernel
theorem dX10_within_10 : decode cX10_within 10 = .ok (.ifCond .gt 7, 3) := by decide +kernel
theorem dX10_within_13 : decode cX10_within 13 = .ok (.iconst 1, 1) := by decide +kernel
theorem dX10_within_14 : decode cX10_within 14 = .ok (.goto 4, 3) := by decide +kernel
theorem dX10_within_17 : decode cX10_within 17 = .ok (.iconst 0, 1) := by decide +kernel
theorem dX10_within_18 : decode cX10_within 18 = .ok (.ireturn, 1) := by decide +kernel
set_option maxRecDepth 20000 in
theorem ggX10_isPlace_X10_within : GoodIn wsX10_isPlace wsX10_within := goodIn_r _ [5] (by decide +kernel) (by decide +kernel)
set_option maxRecDepth 20000 in
theorem gX10_isPlace_X10_within : GoodIn wsX10_isPlace (va_wsS RX10 82 yX10_within wsX10_within) := goodIn_app (goodIn_of _ (by decide +kernel)) ggX10_isPlace_X10_within
theorem dX10_isPlace_0 : decode cX10_isPlace 0 = .ok (.iload_n 0, 1) := by decide +kernel
theorem dX10_isPlace_1 : decode cX10_isPlace 1 = .ok (.i2l, 1) := by decide +kernel
theorem dX10_isPlace_2 : decode cX10_isPlace 2 = .ok (.lconst 0, 1) := by decide +kernel
theorem dX10_isPlace_3 : decode cX10_isPlace 3 = .ok (.ldc2_w 312, 3) := by decide +kernel
theorem dX10_isPlace_6 : decode cX10_isPlace 6 = .ok (.invokestatic 82, 3) := by decide +kernel
theorem dX10_isPlace_9 : decode cX10_isPlace 9 = .ok (.ireturn, 1) := by decide +kernel
set_option maxRecDepth 20000 in
theorem ggX10_isKind_X10_within : GoodIn wsX10_isKind wsX10_within := goodIn_r _ [5] (by decide +kernel) (by decide +kernel)
set_option maxRecDepth 20000 in
theorem gX10_isKind_X10_within : GoodIn wsX10_isKind (va_wsS RX10 82 yX10_within wsX10_within) := goodIn_app (goodIn_of _ (by decide +kernel)) ggX10_isKind_X10_within
theorem dX10_isKind_0 : decode cX10_isKind 0 = .ok (.iload_n 0, 1) := by decide +kernel
theorem dX10_isKind_1 : decode cX10_isKind 1 = .ok (.i2l, 1) := by decide +kernel
theorem dX10_isKind_2 : decode cX10_isKind 2 = .ok (.lconst 0, 1) := by decide +kernel
theorem dX10_isKind_3 : decode cX10_isKind 3 = .ok (.ldc2_w 314, 3) := by decide +kernel
theorem dX10_isKind_6 : decode cX10_isKind 6 = .ok (.invokestatic 82, 3) := by decide +kernel
theorem dX10_isKind_9 : decode cX10_isKind 9 = .ok (.ireturn, 1) := by decide +kernel
set_option maxRecDepth 20000 in
theorem ggX10_isSpot_X10_within : GoodIn wsX10_isSpot wsX10_within := goodIn_r _ [6] (by decide +kernel) (by decide +kernel)
set_option maxRecDepth 20000 in
theorem gX10_isSpot_X10_within : GoodIn wsX10_isSpot (va_wsS RX10 82 yX10_within wsX10_within) := goodIn_app (goodIn_of _ (by decide +kernel)) ggX10_isSpot_X10_within
theorem dX10_isSpot_0 : decode cX10_isSpot 0 = .ok (.iload_n 0, 1) := by decide +kernel
theorem dX10_isSpot_1 : decode cX10_isSpot 1 = .ok (.i2l, 1) := by decide +kernel
theorem dX10_isSpot_2 : decode cX10_isSpot 2 = .ok (.ldc2_w 316, 3) := by decide +kernel
theorem dX10_isSpot_5 : decode cX10_isSpot 5 = .ok (.ldc2_w 165, 3) := by decide +kernel
theorem dX10_isSpot_8 : decode cX10_isSpot 8 = .ok (.invokestatic 82, 3) := by decide +kernel
theorem dX10_isSpot_11 : decode cX10_isSpot 11 = .ok (.ifCond .eq 21, 3) := by decide +kernel
theorem dX10_isSpot_14 : decode cX10_isSpot 14 = .ok (.iload_n 1, 1) := by decide +kernel
theorem dX10_isSpot_15 : decode cX10_isSpot 15 = .ok (.i2l, 1) := by decide +kernel
theorem dX10_isSpot_16 : decode cX10_isSpot 16 = .ok (.ldc2_w 316, 3) := by decide +kernel
theorem dX10_isSpot_19 : decode cX10_isSpot 19 = .ok (.ldc2_w 165, 3) := by decide +kernel
theorem dX10_isSpot_22 : decode cX10_isSpot 22 = .ok (.invokestatic 82, 3) := by decide +kernel
theorem dX10_isSpot_25 : decode cX10_isSpot 25 = .ok (.ifCond .eq 7, 3) := by decide +kernel
theorem dX10_isSpot_28 : decode cX10_isSpot 28 = .ok (.iconst 1, 1) := by decide +kernel
theorem dX10_isSpot_29 : decode cX10_isSpot 29 = .ok (.goto 4, 3) := by decide +kernel
theorem dX10_isSpot_32 : decode cX10_isSpot 32 = .ok (.iconst 0, 1) := by decide +kernel
theorem dX10_isSpot_33 : decode cX10_isSpot 33 = .ok (.ireturn, 1) := by decide +kernel
set_option maxRecDepth 20000 in
theorem ggX10_isHour_X10_within : GoodIn wsX10_isHour wsX10_within := goodIn_r _ [5] (by decide +kernel) (by decide +kernel)
set_option maxRecDepth 20000 in
theorem gX10_isHour_X10_within : GoodIn wsX10_isHour (va_wsS RX10 82 yX10_within wsX10_within) := goodIn_app (goodIn_of _ (by decide +kernel)) ggX10_isHour_X10_within
theorem dX10_isHour_0 : decode cX10_isHour 0 = .ok (.iload_n 0, 1) := by decide +kernel
theorem dX10_isHour_1 : decode cX10_isHour 1 = .ok (.i2l, 1) := by decide +kernel
theorem dX10_isHour_2 : decode cX10_isHour 2 = .ok (.lconst 0, 1) := by decide +kernel
theorem dX10_isHour_3 : decode cX10_isHour 3 = .ok (.ldc2_w 318, 3) := by decide +kernel
theorem dX10_isHour_6 : decode cX10_isHour 6 = .ok (.invokestatic 82, 3) := by decide +kernel
theorem dX10_isHour_9 : decode cX10_isHour 9 = .ok (.ireturn, 1) := by decide +kernel
set_option maxRecDepth 20000 in
theorem ggX10_isDay_X10_within : GoodIn wsX10_isDay wsX10_within := goodIn_r _ [5] (by decide +kernel) (by decide +kernel)
set_option maxRecDepth 20000 in
theorem gX10_isDay_X10_within : GoodIn wsX10_isDay (va_wsS RX10 82 yX10_within wsX10_within) := goodIn_app (goodIn_of _ (by decide +kernel)) ggX10_isDay_X10_within
theorem dX10_isDay_0 : decode cX10_isDay 0 = .ok (.iload_n 0, 1) := by decide +kernel
theorem dX10_isDay_1 : decode cX10_isDay 1 = .ok (.i2l, 1) := by decide +kernel
theorem dX10_isDay_2 : decode cX10_isDay 2 = .ok (.lconst 0, 1) := by decide +kernel
theorem dX10_isDay_3 : decode cX10_isDay 3 = .ok (.ldc2_w 320, 3) := by decide +kernel
theorem dX10_isDay_6 : decode cX10_isDay 6 = .ok (.invokestatic 82, 3) := by decide +kernel
theorem dX10_isDay_9 : decode cX10_isDay 9 = .ok (.ireturn, 1) := by decide +kernel
set_option maxRecDepth 20000 in
theorem ggX10_isTime_X10_isDay : GoodIn wsX10_isTime wsX10_isDay := goodIn_r _ [5, 6, 7, 8, 4, 9] (by decide +kernel) (by decide +kernel)
set_option maxRecDepth 20000 in
theorem gX10_isTime_X10_isDay : GoodIn wsX10_isTime (va_wsS RX10 279 yX10_isDay wsX10_isDay) := goodIn_app (goodIn_of _ (by decide +kernel)) ggX10_isTime_X10_isDay
set_option maxRecDepth 20000 in
theorem ggX10_isTime_X10_within : GoodIn wsX10_isTime wsX10_within := goodIn_r _ [9] (by decide +kernel) (by decide +kernel)
set_option maxRecDepth 20000 in
theorem gX10_isTime_X10_within : GoodIn wsX10_isTime (va_wsS RX10 82 yX10_within wsX10_within) := goodIn_app (goodIn_of _ (by decide +kernel)) ggX10_isTime_X10_within
theorem dX10_isTime_0 : decode cX10_isTime 0 = .ok (.iload_n 0, 1) := by decide +kernel
theorem dX10_isTime_1 : decode cX10_isTime 1 = .ok (.invokestatic 279, 3) := by decide +kernel
theorem dX10_isTime_4 : decode cX10_isTime 4 = .ok (.ifCond .eq 19, 3) := by decide +kernel
theorem dX10_isTime_7 : decode cX10_isTime 7 = .ok (.iload_n 1, 1) := by decide +kernel
theorem dX10_isTime_8 : decode cX10_isTime 8 = .ok (.i2l, 1) := by decide +kernel
theorem dX10_isTime_9 : decode cX10_isTime 9 = .ok (.lconst 0, 1) := by decide +kernel
theorem dX10_isTime_10 : decode cX10_isTime 10 = .ok (.ldc2_w 322, 3) := by decide +kernel
theorem dX10_isTime_13 : decode cX10_isTime 13 = .ok (.invokestatic 82, 3) := by decide +kernel
theorem dX10_isTime_16 : decode cX10_isTime 16 = .ok (.ifCond .eq 7, 3) := by decide +kernel
theorem dX10_isTime_19 : decode cX10_isTime 19 = .ok (.iconst 1, 1) := by decide +kernel
theorem dX10_isTime_20 : decode cX10_isTime 20 = .ok (.goto 4, 3) := by decide +kernel
theorem dX10_isTime_23 : decode cX10_isTime 23 = .ok (.iconst 0, 1) := by decide +kernel
theorem dX10_isTime_24 : decode cX10_isTime 24 = .ok (.ireturn, 1) := by decide +kernel
set_option maxRecDepth 20000 in
theorem ggX10_isNear_X10_within : GoodIn wsX10_isNear wsX10_within := goodIn_r _ [6] (by decide +kernel) (by decide +kernel)
set_option maxRecDepth 20000 in
theorem gX10_isNear_X10_within : GoodIn wsX10_isNear (va_wsS RX10 82 yX10_within wsX10_within) := goodIn_app (goodIn_of _ (by decide +kernel)) ggX10_isNear_X10_within
theorem dX10_isNear_0 : decode cX10_isNear 0 = .ok (.lload_n 0, 1) := by decide +kernel
theorem dX10_isNear_1 : decode cX10_isNear 1 = .ok (.ldc2_w 324, 3) := by decide +kernel
theorem dX10_isNear_4 : decode cX10_isNear 4 = .ok (.ldc2_w 326, 3) := by decide +kernel
theorem dX10_isNear_7 : decode cX10_isNear 7 = .ok (.invokestatic 82, 3) := by decide +kernel
theorem dX10_isNear_10 : decode cX10_isNear 10 = .ok (.ireturn, 1) := by decide +kernel
theorem dX10_sineOf_0 : decode cX10_sineOf 0 = .ok (.iload_n 0, 1) := by decide +kernel
theorem dX10_sineOf_1 : decode cX10_sineOf 1 = .ok (.sipush 32767, 3) := by decide +kernel
theorem dX10_sineOf_4 : decode cX10_sineOf 4 = .ok (.iand, 1) := by decide +kernel
theorem dX10_sineOf_5 : decode cX10_sineOf 5 = .ok (.istore_n 1, 1) := by decide +kernel
theorem dX10_sineOf_6 : decode cX10_sineOf 6 = .ok (.iload_n 1, 1) := by decide +kernel
theorem dX10_sineOf_7 : decode cX10_sineOf 7 = .ok (.i2l, 1) := by decide +kernel
theorem dX10_sineOf_8 : decode cX10_sineOf 8 = .ok (.ldc_w 328, 3) := by decide +kernel
theorem dX10_sineOf_11 : decode cX10_sineOf 11 = .ok (.iload_n 1, 1) := by decide +kernel
theorem dX10_sineOf_12 : decode cX10_sineOf 12 = .ok (.isub, 1) := by decide +kernel
theorem dX10_sineOf_13 : decode cX10_sineOf 13 = .ok (.i2l, 1) := by decide +kernel
theorem dX10_sineOf_14 : decode cX10_sineOf 14 = .ok (.lmul, 1) := by decide +kernel
theorem dX10_sineOf_15 : decode cX10_sineOf 15 = .ok (.lstore_n 2, 1) := by decide +kernel
theorem dX10_sineOf_16 : decode cX10_sineOf 16 = .ok (.ldc2_w 329, 3) := by decide +kernel
theorem dX10_sineOf_19 : decode cX10_sineOf 19 = .ok (.lload_n 2, 1) := by decide +kernel
theorem dX10_sineOf_20 : decode cX10_sineOf 20 = .ok (.lmul, 1) := by decide +kernel
theorem dX10_sineOf_21 : decode cX10_sineOf 21 = .ok (.ldc2_w 331, 3) := by decide +kernel
theorem dX10_sineOf_24 : decode cX10_sineOf 24 = .ok (.lload_n 2, 1) := by decide +kernel
theorem dX10_sineOf_25 : decode cX10_sineOf 25 = .ok (.lsub, 1) := by decide +kernel
theorem dX10_sineOf_26 : decode cX10_sineOf 26 = .ok (.ldiv, 1) := by decide +kernel
theorem dX10_sineOf_27 : decode cX10_sineOf 27 = .ok (.l2i, 1) := by decide +kernel
theorem dX10_sineOf_28 : decode cX10_sineOf 28 = .ok (.istore 4, 2) := by decide +kernel
theorem dX10_sineOf_30 : decode cX10_sineOf 30 = .ok (.iload_n 0, 1) := by decide +kernel
theorem dX10_sineOf_31 : decode cX10_sineOf 31 = .ok (.ldc_w 328, 3) := by decide +kernel
theorem dX10_sineOf_34 : decode cX10_sineOf 34 = .ok (.iand, 1) := by decide +kernel
theorem dX10_sineOf_35 : decode cX10_sineOf 35 = .ok (.ifCond .ne 8, 3) := by decide +kernel
theorem dX10_sineOf_38 : decode cX10_sineOf 38 = .ok (.iload 4, 2) := by decide +kernel
theorem dX10_sineOf_40 : decode cX10_sineOf 40 = .ok (.goto 6, 3) := by decide +kernel
theorem dX10_sineOf_43 : decode cX10_sineOf 43 = .ok (.iload 4, 2) := by decide +kernel
theorem dX10_sineOf_45 : decode cX10_sineOf 45 = .ok (.ineg, 1) := by decide +kernel
theorem dX10_sineOf_46 : decode cX10_sineOf 46 = .ok (.ireturn, 1) := by decide +kernel
set_option maxRecDepth 20000 in
theorem ggX10_cosineOf_X10_sineOf : GoodIn wsX10_cosineOf wsX10_sineOf := goodIn_r _ [4, 5, 6, 7] (by decide +kernel) (by decide +kernel)
set_option maxRecDepth 20000 in
theorem gX10_cosineOf_X10_sineOf : GoodIn wsX10_cosineOf (va_wsS RX10 74 yX10_sineOf wsX10_sineOf) := goodIn_app (goodIn_of _ (by decide +kernel)) ggX10_cosineOf_X10_sineOf
theorem dX10_cosineOf_0 : decode cX10_cosineOf 0 = .ok (.iload_n 0, 1) := by decide +kernel
theorem dX10_cosineOf_1 : decode cX10_cosineOf 1 = .ok (.sipush 16384, 3) := by decide +kernel
theorem dX10_cosineOf_4 : decode cX10_cosineOf 4 = .ok (.iadd, 1) := by decide +kernel
theorem dX10_cosineOf_5 : decode cX10_cosineOf 5 = .ok (.invokestatic 74, 3) := by decide +kernel
theorem dX10_cosineOf_8 : decode cX10_cosineOf 8 = .ok (.ireturn, 1) := by decide +kernel
theorem dX10_dot_0 : decode cX10_dot 0 = .ok (.iload_n 0, 1) := by decide +kernel
theorem dX10_dot_1 : decode cX10_dot 1 = .ok (.i2l, 1) := by decide +kernel
theorem dX10_dot_2 : decode cX10_dot 2 = .ok (.iload_n 1, 1) := by decide +kernel
theorem dX10_dot_3 : decode cX10_dot 3 = .ok (.i2l, 1) := by decide +kernel
theorem dX10_dot_4 : decode cX10_dot 4 = .ok (.lmul, 1) := by decide +kernel
theorem dX10_dot_5 : decode cX10_dot 5 = .ok (.bipush 14, 2) := by decide +kernel
theorem dX10_dot_7 : decode cX10_dot 7 = .ok (.lshr, 1) := by decide +kernel
theorem dX10_dot_8 : decode cX10_dot 8 = .ok (.l2i, 1) := by decide +kernel
theorem dX10_dot_9 : decode cX10_dot 9 = .ok (.ireturn, 1) := by decide +kernel
set_option maxRecDepth 20000 in
theorem ggX10_dialAt_X10_isPlace : GoodIn wsX10_dialAt wsX10_isPlace := goodIn_r _ [6, 7, 8, 9, 5, 10] (by decide +kernel) (by decide +kernel)
set_option maxRecDepth 20000 in
theorem gX10_dialAt_X10_isPlace : GoodIn wsX10_dialAt (va_wsS RX10 143 yX10_isPlace wsX10_isPlace) := goodIn_app (goodIn_of _ (by decide +kernel)) ggX10_dialAt_X10_isPlace
set_option maxRecDepth 20000 in
theorem ggX10_dialAt_X1_isA : GoodIn wsX10_dialAt wsX1_isA := goodIn_r _ [15, 16, 17, 5, 18, 19, 8, 9, 10, 32, 33, 34, 35, 36, 37, 38] (by decide +kernel) (by decide +kernel)
set_option maxRecDepth 20000 in
theorem gX10_dialAt_X1_isA : GoodIn wsX10_dialAt (wsV RX10 333 RX1 yX1_isA wsX1_isA) := goodIn_app (goodIn_of _ (by decide +kernel)) ggX10_dialAt_X1_isA
theorem dX10_dialAt_0 : decode cX10_dialAt 0 = .ok (.iload_n 1, 1) := by decide +kernel
theorem dX10_dialAt_1 : decode cX10_dialAt 1 = .ok (.invokestatic 143, 3) := by decide +kernel
theorem dX10_dialAt_4 : decode cX10_dialAt 4 = .ok (.ifCond .ne 5, 3) := by decide +kernel
theorem dX10_dialAt_7 : decode cX10_dialAt 7 = .ok (.aconst_null, 1) := by decide +kernel
theorem dX10_dialAt_8 : decode cX10_dialAt 8 = .ok (.areturn, 1) := by decide +kernel
theorem dX10_dialAt_9 : decode cX10_dialAt 9 = .ok (.aload_n 0, 1) := by decide +kernel
theorem dX10_dialAt_10 : decode cX10_dialAt 10 = .ok (.getfield 18, 3) := by decide +kernel
theorem dX10_dialAt_13 : decode cX10_dialAt 13 = .ok (.iload_n 1, 1) := by decide +kernel
theorem dX10_dialAt_14 : decode cX10_dialAt 14 = .ok (.aaload, 1) := by decide +kernel
theorem dX10_dialAt_15 : decode cX10_dialAt 15 = .ok (.astore 4, 2) := by decide +kernel
theorem dX10_dialAt_17 : decode cX10_dialAt 17 = .ok (.aload 4, 2) := by decide +kernel
theorem dX10_dialAt_19 : decode cX10_dialAt 19 = .ok (.instanceof 155, 3) := by decide +kernel
theorem dX10_dialAt_22 : decode cX10_dialAt 22 = .ok (.ifCond .eq 21, 3) := by decide +kernel
theorem dX10_dialAt_25 : decode cX10_dialAt 25 = .ok (.aload 4, 2) := by decide +kernel
theorem dX10_dialAt_27 : decode cX10_dialAt 27 = .ok (.checkcast 155, 3) := by decide +kernel
theorem dX10_dialAt_30 : decode cX10_dialAt 30 = .ok (.astore_n 3, 1) := by decide +kernel
theorem dX10_dialAt_31 : decode cX10_dialAt 31 = .ok (.aload_n 3, 1) := by decide +kernel
theorem dX10_dialAt_32 : decode cX10_dialAt 32 = .ok (.iload_n 2, 1) := by decide +kernel
theorem dX10_dialAt_33 : decode cX10_dialAt 33 = .ok (.invokevirtual 333, 3) := by decide +kernel
theorem dX10_dialAt_36 : decode cX10_dialAt 36 = .ok (.ifCond .eq 7, 3) := by decide +kernel
theorem dX10_dialAt_39 : decode cX10_dialAt 39 = .ok (.aload_n 3, 1) := by decide +kernel
theorem dX10_dialAt_40 : decode cX10_dialAt 40 = .ok (.goto 4, 3) := by decide +kernel
theorem dX10_dialAt_43 : decode cX10_dialAt 43 = .ok (.aconst_null, 1) := by decide +kernel
theorem dX10_dialAt_44 : decode cX10_dialAt 44 = .ok (.areturn, 1) := by decide +kernel
set_option maxRecDepth 20000 in
theorem ggX10_put_X0_keep : GoodIn wsX10_put wsX0_keep := goodIn_r _ [7, 8, 9, 10, 11, 12, 13, 14, 15, 16, 17, 18, 19, 32, 33, 34, 35] (by decide +kernel) (by decide +kernel)
set_option maxRecDepth 20000 in
theorem gX10_put_X0_keep : GoodIn wsX10_put (wsV RX10 336 RX0 yX0_keep wsX0_keep) := goodIn_app (goodIn_of _ (by decide +kernel)) ggX10_put_X0_keep
theorem dX10_put_0 : decode cX10_put 0 = .ok (.aload_n 0, 1) := by decide +kernel
theorem dX10_put_1 : decode cX10_put 1 = .ok (.getfield 25, 3) := by decide +kernel
theorem dX10_put_4 : decode cX10_put 4 = .ok (.iload_n 1, 1) := by decide +kernel
theorem dX10_put_5 : decode cX10_put 5 = .ok (.aload_n 0, 1) := by decide +kernel
theorem dX10_put_6 : decode cX10_put 6 = .ok (.getfield 18, 3) := by decide +kernel
theorem dX10_put_9 : decode cX10_put 9 = .ok (.iload_n 1, 1) := by decide +kernel
theorem dX10_put_10 : decode cX10_put 10 = .ok (.aaload, 1) := by decide +kernel
theorem dX10_put_11 : decode cX10_put 11 = .ok (.invokevirtual 336, 3) := by decide +kernel
theorem dX10_put_14 : decode cX10_put 14 = .ok (.aload_n 0, 1) := by decide +kernel
theorem dX10_put_15 : decode cX10_put 15 = .ok (.getfield 18, 3) := by decide +kernel
theorem dX10_put_18 : decode cX10_put 18 = .ok (.iload_n 1, 1) := by decide +kernel
theorem dX10_put_19 : decode cX10_put 19 = .ok (.aload_n 2, 1) := by decide +kernel
theorem dX10_put_20 : decode cX10_put 20 = .ok (.aastore, 1) := by decide +kernel
theorem dX10_put_21 : decode cX10_put 21 = .ok (.return_, 1) := by decide +kernel
theorem dX10_countDials_0 : decode cX10_countDials 0 = .ok (.iconst 0, 1) := by decide +kernel
theorem dX10_countDials_1 : decode cX10_countDials 1 = .ok (.istore_n 1, 1) := by decide +kernel
theorem dX10_countDials_2 : decode cX10_countDials 2 = .ok (.aload_n 0, 1) := by decide +kernel
theorem dX10_countDials_3 : decode cX10_countDials 3 = .ok (.getfield 18, 3) := by decide +kernel
theorem dX10_countDials_6 : decode cX10_countDials 6 = .ok (.astore_n 2, 1) := by decide +kernel
theorem dX10_countDials_7 : decode cX10_countDials 7 = .ok (.aload_n 2, 1) := by decide +kernel
theorem dX10_countDials_8 : decode cX10_countDials 8 = .ok (.arraylength, 1) := by decide +kernel
theorem dX10_countDials_9 : decode cX10_countDials 9 = .ok (.istore_n 3, 1) := by decide +kernel
theorem dX10_countDials_10 : decode cX10_countDials 10 = .ok (.iconst 0, 1) := by decide +kernel
theorem dX10_countDials_11 : decode cX10_countDials 11 = .ok (.istore 4, 2) := by decide +kernel
theorem dX10_countDials_13 : decode cX10_countDials 13 = .ok (.iload 4, 2) := by decide +kernel
theorem dX10_countDials_15 : decode cX10_countDials 15 = .ok (.iload_n 3, 1) := by decide +kernel
theorem dX10_countDials_16 : decode cX10_countDials 16 = .ok (.if_icmp .ge 26, 3) := by decide +kernel
theorem dX10_countDials_19 : decode cX10_countDials 19 = .ok (.aload_n 2, 1) := by decide +kernel
theorem dX10_countDials_20 : decode cX10_countDials 20 = .ok (.iload 4, 2) := by decide +kernel
theorem dX10_countDials_22 : decode cX10_countDials 22 = .ok (.aaload, 1) := by decide +kernel
theorem dX10_countDials_23 : decode cX10_countDials 23 = .ok (.astore 5, 2) := by decide +kernel
theorem dX10_countDials_25 : decode cX10_countDials 25 = .ok (.aload 5, 2) := by decide +kernel
theorem dX10_countDials_27 : decode cX10_countDials 27 = .ok (.instanceof 155, 3) := by decide +kernel
theorem dX10_countDials_30 : decode cX10_countDials 30 = .ok (.ifCond .eq 6, 3) := by decide +kernel
theorem dX10_countDials_33 : decode cX10_countDials 33 = .ok (.iinc 1 1, 3) := by decide +kernel
theorem dX10_countDials_36 : decode cX10_countDials 36 = .ok (.iinc 4 1, 3) := by decide +kernel
theorem dX10_countDials_39 : decode cX10_countDials 39 = .ok (.goto (-26), 3) := by decide +kernel
theorem dX10_countDials_42 : decode cX10_countDials 42 = .ok (.iload_n 1, 1) := by decide +kernel
theorem dX10_countDials_43 : decode cX10_countDials 43 = .ok (.ireturn, 1) := by decide +kernel
theorem dX10_countHouses_0 : decode cX10_countHouses 0 = .ok (.iconst 0, 1) := by decide +kernel
theorem dX10_countHouses_1 : decode cX10_countHouses 1 = .ok (.istore_n 1, 1) := by decide +kernel
theorem dX10_countHouses_2 : decode cX10_countHouses 2 = .ok (.aload_n 0, 1) := by decide +kernel
theorem dX10_countHouses_3 : decode cX10_countHouses 3 = .ok (.getfield 18, 3) := by decide +kernel
theorem dX10_countHouses_6 : decode cX10_countHouses 6 = .ok (.astore_n 2, 1) := by decide +kernel
theorem dX10_countHouses_7 : decode cX10_countHouses 7 = .ok (.aload_n 2, 1) := by decide +kernel
theorem dX10_countHouses_8 : decode cX10_countHouses 8 = .ok (.arraylength, 1) := by decide +kernel
theorem dX10_countHouses_9 : decode cX10_countHouses 9 = .ok (.istore_n 3, 1) := by decide +kernel
theorem dX10_countHouses_10 : decode cX10_countHouses 10 = .ok (.iconst 0, 1) := by decide +kernel
theorem dX10_countHouses_11 : decode cX10_countHouses 11 = .ok (.istore 4, 2) := by decide +kernel
theorem dX10_countHouses_13 : decode cX10_countHouses 13 = .ok (.iload 4, 2) := by decide +kernel
theorem dX10_countHouses_15 : decode cX10_countHouses 15 = .ok (.iload_n 3, 1) := by decide +kernel
theorem dX10_countHouses_16 : decode cX10_countHouses 16 = .ok (.if_icmp .ge 26, 3) := by decide +kernel
theorem dX10_countHouses_19 : decode cX10_countHouses 19 = .ok (.aload_n 2, 1) := by decide +kernel
theorem dX10_countHouses_20 : decode cX10_countHouses 20 = .ok (.iload 4, 2) := by decide +kernel
theorem dX10_countHouses_22 : decode cX10_countHouses 22 = .ok (.aaload, 1) := by decide +kernel
theorem dX10_countHouses_23 : decode cX10_countHouses 23 = .ok (.astore 5, 2) := by decide +kernel
theorem dX10_countHouses_25 : decode cX10_countHouses 25 = .ok (.aload 5, 2) := by decide +kernel
theorem dX10_countHouses_27 : decode cX10_countHouses 27 = .ok (.instanceof 171, 3) := by decide +kernel
theorem dX10_countHouses_30 : decode cX10_countHouses 30 = .ok (.ifCond .eq 6, 3) := by decide +kernel
theorem dX10_countHouses_33 : decode cX10_countHouses 33 = .ok (.iinc 1 1, 3) := by decide +kernel
theorem dX10_countHouses_36 : decode cX10_countHouses 36 = .ok (.iinc 4 1, 3) := by decide +kernel
theorem dX10_countHouses_39 : decode cX10_countHouses 39 = .ok (.goto (-26), 3) := by decide +kernel
theorem dX10_countHouses_42 : decode cX10_countHouses 42 = .ok (.iload_n 1, 1) := by decide +kernel
theorem dX10_countHouses_43 : decode cX10_countHouses 43 = .ok (.ireturn, 1) := by decide +kernel
set_option maxRecDepth 20000 in
theorem ggX10_stateOf_X6_setUp : GoodIn wsX10_stateOf wsX6_setUp := goodIn_r _ [8, 9, 10, 11, 12, 13, 14, 15, 16, 17, 18, 19, 20, 21, 22, 23, 24, 25, 26, 27, 28, 7, 29, 30, 31, 32, 33, 34, 35, 36, 37, 38, 39, 40, 41, 42, 43, 44, 45, 46, 47, 48, 49, 50, 51, 52, 53, 54, 55, 56, 57, 58, 149, 150, 151, 152, 153, 154, 155, 156, 157, 158, 159, 160, 161, 162, 163, 164, 165, 166, 167, 168, 169, 170, 171] (by decide +kernel) (by decide +kernel)
set_option maxRecDepth 20000 in
theorem gX10_stateOf_X6_setUp : GoodIn wsX10_stateOf (wsV RX10 259 RX6 yX6_setUp wsX6_setUp) := goodIn_app (goodIn_of _ (by decide +kernel)) ggX10_stateOf_X6_setUp
set_option maxRecDepth 20000 in
theorem ggX10_stateOf_X8_setTime : GoodIn wsX10_stateOf wsX8_setTime := goodIn_r _ [63, 64, 65, 66, 62, 67, 68, 69, 70, 71, 72, 73, 74, 75, 76, 77, 78, 79, 24, 20, 25, 80, 81, 82, 83, 33, 34, 35, 36, 37, 41, 42, 38, 39, 40, 84, 85, 86, 87, 88, 89, 90, 91, 172, 173, 174, 175, 176, 177, 178, 179, 180, 181, 182, 183, 184, 185, 186, 187] (by decide +kernel) (by decide +kernel)
set_option maxRecDepth 20000 in
theorem gX10_stateOf_X8_setTime : GoodIn wsX10_stateOf (wsV RX10 121 RX8 yX8_setTime wsX8_setTime) := goodIn_app (goodIn_of _ (by decide +kernel)) ggX10_stateOf_X8_setTime
set_option maxRecDepth 20000 in
theorem ggX10_stateOf_X6_cast : GoodIn wsX10_stateOf wsX6_cast := goodIn_r _ [95, 96, 97, 98, 7, 99, 100, 101, 55, 57, 9, 10, 58, 102, 103, 104, 105, 106, 107, 108, 109, 110, 111, 112, 113, 114, 115, 30, 12, 11, 31, 32, 116, 117, 118, 119, 120, 46, 121, 48, 49, 50, 122, 123, 124, 62, 125, 91, 33, 20, 34, 35, 36, 37, 126, 127, 82, 128, 129, 130, 131, 132, 89, 133, 134, 135, 136, 23, 24, 25, 156, 157, 158, 159, 160, 161, 162, 163, 164, 165, 166, 167, 168, 172, 173, 174, 175, 176, 177, 178, 179, 180, 181, 182, 183, 184, 185, 186, 187, 188, 189, 190, 191, 192, 169, 170, 171] (by decide +kernel) (by decide +kernel)
set_option maxRecDepth 20000 in
theorem gX10_stateOf_X6_cast : GoodIn wsX10_stateOf (wsV RX10 339 RX6 yX6_cast wsX6_cast) := goodIn_app (goodIn_of _ (by decide +kernel)) ggX10_stateOf_X6_cast
theorem dX10_stateOf_0 : decode cX10_stateOf 0 = .ok (.aload_n 0, 1) := by decide +kernel
theorem dX10_stateOf_1 : decode cX10_stateOf 1 = .ok (.getfield 32, 3) := by decide +kernel
theorem dX10_stateOf_4 : decode cX10_stateOf 4 = .ok (.aload_n 1, 1) := by decide +kernel
theorem dX10_stateOf_5 : decode cX10_stateOf 5 = .ok (.aload_n 0, 1) := by decide +kernel
theorem dX10_stateOf_6 : decode cX10_stateOf 6 = .ok (.getfield 18, 3) := by decide +kernel
theorem dX10_stateOf_9 : decode cX10_stateOf 9 = .ok (.invokevirtual 259, 3) := by decide +kernel
theorem dX10_stateOf_12 : decode cX10_stateOf 12 = .ok (.aload_n 0, 1) := by decide +kernel
theorem dX10_stateOf_13 : decode cX10_stateOf 13 = .ok (.getfield 10, 3) := by decide +kernel
theorem dX10_stateOf_16 : decode cX10_stateOf 16 = .ok (.iload_n 2, 1) := by decide +kernel
theorem dX10_stateOf_17 : decode cX10_stateOf 17 = .ok (.iload_n 3, 1) := by decide +kernel
theorem dX10_stateOf_18 : decode cX10_stateOf 18 = .ok (.invokevirtual 121, 3) := by decide +kernel
theorem dX10_stateOf_21 : decode cX10_stateOf 21 = .ok (.aload_n 0, 1) := by decide +kernel
theorem dX10_stateOf_22 : decode cX10_stateOf 22 = .ok (.getfield 32, 3) := by decide +kernel
theorem dX10_stateOf_25 : decode cX10_stateOf 25 = .ok (.aload_n 0, 1) := by decide +kernel
theorem dX10_stateOf_26 : decode cX10_stateOf 26 = .ok (.getfield 10, 3) := by decide +kernel
theorem dX10_stateOf_29 : decode cX10_stateOf 29 = .ok (.invokevirtual 339, 3) := by decide +kernel
theorem dX10_stateOf_32 : decode cX10_stateOf 32 = .ok (.ireturn, 1) := by decide +kernel
set_option maxRecDepth 20000 in
theorem ggX10_followLine_X4_clear : GoodIn wsX10_followLine wsX4_clear := goodIn_r _ [11, 12, 177, 178, 179] (by decide +kernel) (by decide +kernel)
set_option maxRecDepth 20000 in
theorem gX10_followLine_X4_clear : GoodIn wsX10_followLine (wsV RX10 343 RX4 yX4_clear wsX4_clear) := goodIn_app (goodIn_of _ (by decide +kernel)) ggX10_followLine_X4_clear
set_option maxRecDepth 20000 in
theorem ggX10_followLine_X6_setUp : GoodIn wsX10_followLine wsX6_setUp := goodIn_r _ [17, 18, 19, 20, 21, 22, 23, 24, 25, 26, 27, 28, 29, 30, 31, 32, 33, 34, 35, 36, 37, 16, 38, 39, 40, 41, 42, 43, 44, 45, 46, 47, 48, 49, 50, 51, 52, 53, 54, 55, 56, 57, 58, 59, 60, 61, 62, 63, 64, 65, 66, 67, 180, 181, 182, 183, 184, 185, 186, 164, 165, 166, 167, 168, 169, 170, 171, 172, 173, 174, 175, 176, 187, 188, 189] (by decide +kernel) (by decide +kernel)
set_option maxRecDepth 20000 in
theorem gX10_followLine_X6_setUp : GoodIn wsX10_followLine (wsV RX10 259 RX6 yX6_setUp wsX6_setUp) := goodIn_app (goodIn_of _ (by decide +kernel)) ggX10_followLine_X6_setUp
set_option maxRecDepth 20000 in
theorem ggX10_followLine_X8_setTime : GoodIn wsX10_followLine wsX8_setTime := goodIn_r _ [72, 73, 74, 75, 71, 76, 77, 78, 79, 80, 81, 82, 83, 84, 85, 86, 87, 88, 33, 29, 34, 89, 90, 91, 92, 42, 43, 44, 45, 46, 50, 51, 47, 48, 49, 93, 94, 95, 96, 97, 98, 99, 100, 190, 191, 192, 193, 194, 195, 196, 197, 198, 199, 200, 201, 202, 203, 204, 205] (by decide +kernel) (by decide +kernel)
set_option maxRecDepth 20000 in
theorem gX10_followLine_X8_setTime : GoodIn wsX10_followLine (wsV RX10 121 RX8 yX8_setTime wsX8_setTime) := goodIn_app (goodIn_of _ (by decide +kernel)) ggX10_followLine_X8_setTime
set_option maxRecDepth 20000 in
theorem ggX10_followLine_X6_cast : GoodIn wsX10_followLine wsX6_cast := goodIn_r _ [104, 105, 106, 107, 16, 108, 109, 110, 64, 66, 18, 19, 67, 111, 112, 113, 114, 115, 116, 117, 118, 119, 120, 121, 122, 123, 124, 39, 21, 20, 40, 41, 125, 126, 127, 128, 129, 55, 130, 57, 58, 59, 131, 132, 133, 71, 134, 100, 42, 29, 43, 44, 45, 46, 135, 136, 91, 137, 138, 139, 140, 141, 98, 142, 143, 144, 145, 32, 33, 34, 164, 165, 166, 167, 168, 169, 170, 171, 172, 173, 174, 175, 176, 190, 191, 192, 193, 194, 195, 196, 197, 198, 199, 200, 201, 202, 203, 204, 205, 206, 207, 208, 209, 210, 187, 188, 189] (by decide +kernel) (by decide +kernel)
set_option maxRecDepth 20000 in
theorem gX10_followLine_X6_cast : GoodIn wsX10_followLine (wsV RX10 339 RX6 yX6_cast wsX6_cast) := goodIn_app (goodIn_of _ (by decide +kernel)) ggX10_followLine_X6_cast
set_option maxRecDepth 20000 in
theorem ggX10_followLine_X4_add : GoodIn wsX10_followLine wsX4_add := goodIn_r _ [149, 12, 150, 151, 177, 178, 179] (by decide +kernel) (by decide +kernel)
set_option maxRecDepth 20000 in
theorem gX10_followLine_X4_add : GoodIn wsX10_followLine (wsV RX10 346 RX4 yX4_add wsX4_add) := goodIn_app (goodIn_of _ (by decide +kernel)) ggX10_followLine_X4_add
theorem dX10_followLine_0 : decode cX10_followLine 0 = .ok (.aload_n 0, 1) := by decide +kernel
theorem dX10_followLine_1 : decode cX10_followLine 1 = .ok (.getfield 61, 3) := by decide +kernel
theorem dX10_followLine_4 : decode cX10_followLine 4 = .ok (.invokevirtual 343, 3) := by decide +kernel
theorem dX10_followLine_7 : decode cX10_followLine 7 = .ok (.aload_n 0, 1) := by decide +kernel
theorem dX10_followLine_8 : decode cX10_followLine 8 = .ok (.getfield 65, 3) := by decide +kernel
theorem dX10_followLine_11 : decode cX10_followLine 11 = .ok (.invokevirtual 343, 3) := by decide +kernel
theorem dX10_followLine_14 : decode cX10_followLine 14 = .ok (.aload_n 0, 1) := by decide +kernel
theorem dX10_followLine_15 : decode cX10_followLine 15 = .ok (.getfield 68, 3) := by decide +kernel
theorem dX10_followLine_18 : decode cX10_followLine 18 = .ok (.invokevirtual 343, 3) := by decide +kernel
theorem dX10_followLine_21 : decode cX10_followLine 21 = .ok (.aload_n 0, 1) := by decide +kernel
theorem dX10_followLine_22 : decode cX10_followLine 22 = .ok (.getfield 32, 3) := by decide +kernel
theorem dX10_followLine_25 : decode cX10_followLine 25 = .ok (.aload_n 1, 1) := by decide +kernel
theorem dX10_followLine_26 : decode cX10_followLine 26 = .ok (.aload_n 0, 1) := by decide +kernel
theorem dX10_followLine_27 : decode cX10_followLine 27 = .ok (.getfield 18, 3) := by decide +kernel
theorem dX10_followLine_30 : decode cX10_followLine 30 = .ok (.invokevirtual 259, 3) := by decide +kernel
theorem dX10_followLine_33 : decode cX10_followLine 33 = .ok (.iconst 0, 1) := by decide +kernel
theorem dX10_followLine_34 : decode cX10_followLine 34 = .ok (.istore_n 3, 1) := by decide +kernel
theorem dX10_followLine_35 : decode cX10_followLine 35 = .ok (.iload_n 3, 1) := by decide +kernel
theorem dX10_followLine_36 : decode cX10_followLine 36 = .ok (.sipush 366, 3) := by decide +kernel
theorem dX10_followLine_39 : decode cX10_followLine 39 = .ok (.if_icmp .ge 74, 3) := by decide +kernel
theorem dX10_followLine_42 : decode cX10_followLine 42 = .ok (.aload_n 0, 1) := by decide +kernel
theorem dX10_followLine_43 : decode cX10_followLine 43 = .ok (.getfield 10, 3) := by decide +kernel
theorem dX10_followLine_46 : decode cX10_followLine 46 = .ok (.iload_n 3, 1) := by decide +kernel
theorem dX10_followLine_47 : decode cX10_followLine 47 = .ok (.bipush 60, 2) := by decide +kernel
theorem dX10_followLine_49 : decode cX10_followLine 49 = .ok (.iload_n 2, 1) := by decide +kernel
theorem dX10_followLine_50 : decode cX10_followLine 50 = .ok (.imul, 1) := by decide +kernel
theorem dX10_followLine_51 : decode cX10_followLine 51 = .ok (.invokevirtual 121, 3) := by decide +kernel
theorem dX10_followLine_54 : decode cX10_followLine 54 = .ok (.aload_n 0, 1) := by decide +kernel
theorem dX10_followLine_55 : decode cX10_followLine 55 = .ok (.getfield 32, 3) := by decide +kernel
theorem dX10_followLine_58 : decode cX10_followLine 58 = .ok (.aload_n 0, 1) := by decide +kernel
theorem dX10_followLine_59 : decode cX10_followLine 59 = .ok (.getfield 10, 3) := by decide +kernel
theorem dX10_followLine_62 : decode cX10_followLine 62 = .ok (.invokevirtual 339, 3) := by decide +kernel
theorem dX10_followLine_65 : decode cX10_followLine 65 = .ok (.ifCond .eq 6, 3) := by decide +kernel
theorem dX10_followLine_68 : decode cX10_followLine 68 = .ok (.goto 39, 3) := by decide +kernel
theorem dX10_followLine_71 : decode cX10_followLine 71 = .ok (.aload_n 0, 1) := by decide +kernel
theorem dX10_followLine_72 : decode cX10_followLine 72 = .ok (.getfield 61, 3) := by decide +kernel
theorem dX10_followLine_75 : decode cX10_followLine 75 = .ok (.iload_n 3, 1) := by decide +kernel
theorem dX10_followLine_76 : decode cX10_followLine 76 = .ok (.invokevirtual 346, 3) := by decide +kernel
theorem dX10_followLine_79 : decode cX10_followLine 79 = .ok (.aload_n 0, 1) := by decide +kernel
theorem dX10_followLine_80 : decode cX10_followLine 80 = .ok (.getfield 65, 3) := by decide +kernel
theorem dX10_followLine_83 : decode cX10_followLine 83 = .ok (.aload_n 0, 1) := by decide +kernel
theorem dX10_followLine_84 : decode cX10_followLine 84 = .ok (.getfield 32, 3) := by decide +kernel
theorem dX10_followLine_87 : decode cX10_followLine 87 = .ok (.getfield 236, 3) := by decide +kernel
theorem dX10_followLine_90 : decode cX10_followLine 90 = .ok (.invokevirtual 346, 3) := by decide +kernel
theorem dX10_followLine_93 : decode cX10_followLine 93 = .ok (.aload_n 0, 1) := by decide +kernel
theorem dX10_followLine_94 : decode cX10_followLine 94 = .ok (.getfield 68, 3) := by decide +kernel
theorem dX10_followLine_97 : decode cX10_followLine 97 = .ok (.aload_n 0, 1) := by decide +kernel
theorem dX10_followLine_98 : decode cX10_followLine 98 = .ok (.getfield 32, 3) := by decide +kernel
theorem dX10_followLine_101 : decode cX10_followLine 101 = .ok (.getfield 239, 3) := by decide +kernel
theorem dX10_followLine_104 : decode cX10_followLine 104 = .ok (.invokevirtual 346, 3) := by decide +kernel
theorem dX10_followLine_107 : decode cX10_followLine 107 = .ok (.iinc 3 1, 3) := by decide +kernel
theorem dX10_followLine_110 : decode cX10_followLine 110 = .ok (.goto (-75), 3) := by decide +kernel
theorem dX10_followLine_113 : decode cX10_followLine 113 = .ok (.return_, 1) := by decide +kernel
set_option maxRecDepth 20000 in
theorem ggX10_setMarks_X8_setDay : GoodIn wsX10_setMarks wsX8_setDay := goodIn_r _ [8, 9, 10, 11, 12, 13, 14, 15, 16, 17, 18, 19, 20, 21, 22, 23, 24, 25, 26, 27, 28, 29, 30, 31, 32, 33, 34, 35, 36, 37, 154, 155, 156, 157, 158, 159, 160, 161, 162, 163, 164, 165, 166, 167, 168, 169] (by decide +kernel) (by decide +kernel)
set_option maxRecDepth 20000 in
theorem gX10_setMarks_X8_setDay : GoodIn wsX10_setMarks (wsV RX10 349 RX8 yX8_setDay wsX8_setDay) := goodIn_app (goodIn_of _ (by decide +kernel)) ggX10_setMarks_X8_setDay
set_option maxRecDepth 20000 in
theorem ggX10_setMarks_X1_hourLeft : GoodIn wsX10_setMarks wsX1_hourLeft := goodIn_r _ [42, 43, 170, 171, 172, 173, 174, 175, 176] (by decide +kernel) (by decide +kernel)
set_option maxRecDepth 20000 in
theorem gX10_setMarks_X1_hourLeft : GoodIn wsX10_setMarks (wsV RX10 205 RX1 yX1_hourLeft wsX1_hourLeft) := goodIn_app (goodIn_of _ (by decide +kernel)) ggX10_setMarks_X1_hourLeft
set_option maxRecDepth 20000 in
theorem ggX10_setMarks_X8_setMinute : GoodIn wsX10_setMarks wsX8_setMinute := goodIn_r _ [47, 11, 48, 14, 49, 16, 18, 50, 19, 20, 51, 24, 25, 26, 27, 35, 22, 36, 37, 28, 29, 30, 31, 32, 33, 34, 154, 155, 156, 157, 158, 159, 160, 161, 162, 163, 164, 165, 166, 167, 168, 169] (by decide +kernel) (by decide +kernel)
set_option maxRecDepth 20000 in
theorem gX10_setMarks_X8_setMinute : GoodIn wsX10_setMarks (wsV RX10 352 RX8 yX8_setMinute wsX8_setMinute) := goodIn_app (goodIn_of _ (by decide +kernel)) ggX10_setMarks_X8_setMinute
set_option maxRecDepth 20000 in
theorem ggX10_setMarks_X6_cast : GoodIn wsX10_setMarks wsX6_cast := goodIn_r _ [56, 57, 58, 59, 55, 60, 61, 62, 63, 64, 65, 66, 67, 68, 69, 70, 71, 72, 73, 74, 75, 76, 77, 78, 79, 80, 81, 82, 83, 84, 85, 86, 87, 88, 89, 90, 91, 92, 93, 94, 95, 96, 97, 98, 99, 7, 100, 51, 28, 22, 29, 30, 31, 32, 101, 102, 26, 103, 104, 105, 106, 107, 49, 108, 109, 110, 111, 112, 21, 23, 141, 142, 143, 144, 145, 146, 147, 148, 149, 150, 151, 152, 153, 154, 155, 156, 157, 158, 159, 160, 161, 162, 163, 164, 165, 166, 167, 168, 169, 177, 178, 179, 180, 181, 182, 183, 184] (by decide +kernel) (by decide +kernel)
set_option maxRecDepth 20000 in
theorem gX10_setMarks_X6_cast : GoodIn wsX10_setMarks (wsV RX10 339 RX6 yX6_cast wsX6_cast) := goodIn_app (goodIn_of _ (by decide +kernel)) ggX10_setMarks_X6_cast
set_option maxRecDepth 20000 in
theorem ggX10_setMarks_X3_add : GoodIn wsX10_setMarks wsX3_add := goodIn_r _ [117, 118, 119, 120, 121, 134, 135, 136, 137, 138, 139, 140] (by decide +kernel) (by decide +kernel)
set_option maxRecDepth 20000 in
theorem gX10_setMarks_X3_add : GoodIn wsX10_setMarks (wsV RX10 355 RX3 yX3_add wsX3_add) := goodIn_app (goodIn_of _ (by decide +kernel)) ggX10_setMarks_X3_add
theorem dX10_setMarks_0 : decode cX10_setMarks 0 = .ok (.aload_n 0, 1) := by decide +kernel
theorem dX10_setMarks_1 : decode cX10_setMarks 1 = .ok (.getfield 39, 3) := by decide +kernel
theorem dX10_setMarks_4 : decode cX10_setMarks 4 = .ok (.iconst 0, 1) := by decide +kernel
theorem dX10_setMarks_5 : decode cX10_setMarks 5 = .ok (.putfield 348, 3) := by decide +kernel
theorem dX10_setMarks_8 : decode cX10_setMarks 8 = .ok (.aload_n 0, 1) := by decide +kernel
theorem dX10_setMarks_9 : decode cX10_setMarks 9 = .ok (.getfield 10, 3) := by decide +kernel
theorem dX10_setMarks_12 : decode cX10_setMarks 12 = .ok (.iload_n 2, 1) := by decide +kernel
theorem dX10_setMarks_13 : decode cX10_setMarks 13 = .ok (.invokevirtual 349, 3) := by decide +kernel
theorem dX10_setMarks_16 : decode cX10_setMarks 16 = .ok (.iconst 0, 1) := by decide +kernel
theorem dX10_setMarks_17 : decode cX10_setMarks 17 = .ok (.istore_n 3, 1) := by decide +kernel
theorem dX10_setMarks_18 : decode cX10_setMarks 18 = .ok (.iload_n 3, 1) := by decide +kernel
theorem dX10_setMarks_19 : decode cX10_setMarks 19 = .ok (.bipush 24, 2) := by decide +kernel
theorem dX10_setMarks_21 : decode cX10_setMarks 21 = .ok (.if_icmp .ge 67, 3) := by decide +kernel
theorem dX10_setMarks_24 : decode cX10_setMarks 24 = .ok (.aload_n 1, 1) := by decide +kernel
theorem dX10_setMarks_25 : decode cX10_setMarks 25 = .ok (.iload_n 3, 1) := by decide +kernel
theorem dX10_setMarks_26 : decode cX10_setMarks 26 = .ok (.invokevirtual 205, 3) := by decide +kernel
theorem dX10_setMarks_29 : decode cX10_setMarks 29 = .ok (.ifCond .ne 6, 3) := by decide +kernel
theorem dX10_setMarks_32 : decode cX10_setMarks 32 = .ok (.goto 50, 3) := by decide +kernel
theorem dX10_setMarks_35 : decode cX10_setMarks 35 = .ok (.aload_n 0, 1) := by decide +kernel
theorem dX10_setMarks_36 : decode cX10_setMarks 36 = .ok (.getfield 10, 3) := by decide +kernel
theorem dX10_setMarks_39 : decode cX10_setMarks 39 = .ok (.bipush 60, 2) := by decide +kernel
theorem dX10_setMarks_41 : decode cX10_setMarks 41 = .ok (.iload_n 3, 1) := by decide +kernel
theorem dX10_setMarks_42 : decode cX10_setMarks 42 = .ok (.imul, 1) := by decide +kernel
theorem dX10_setMarks_43 : decode cX10_setMarks 43 = .ok (.invokevirtual 352, 3) := by decide +kernel
theorem dX10_setMarks_46 : decode cX10_setMarks 46 = .ok (.aload_n 0, 1) := by decide +kernel
theorem dX10_setMarks_47 : decode cX10_setMarks 47 = .ok (.getfield 32, 3) := by decide +kernel
theorem dX10_setMarks_50 : decode cX10_setMarks 50 = .ok (.aload_n 0, 1) := by decide +kernel
theorem dX10_setMarks_51 : decode cX10_setMarks 51 = .ok (.getfield 10, 3) := by decide +kernel
theorem dX10_setMarks_54 : decode cX10_setMarks 54 = .ok (.invokevirtual 339, 3) := by decide +kernel
theorem dX10_setMarks_57 : decode cX10_setMarks 57 = .ok (.ifCond .ne 25, 3) := by decide +kernel
theorem dX10_setMarks_60 : decode cX10_setMarks 60 = .ok (.aload_n 0, 1) := by decide +kernel
theorem dX10_setMarks_61 : decode cX10_setMarks 61 = .ok (.getfield 39, 3) := by decide +kernel
theorem dX10_setMarks_64 : decode cX10_setMarks 64 = .ok (.iload_n 3, 1) := by decide +kernel
theorem dX10_setMarks_65 : decode cX10_setMarks 65 = .ok (.aload_n 0, 1) := by decide +kernel
theorem dX10_setMarks_66 : decode cX10_setMarks 66 = .ok (.getfield 32, 3) := by decide +kernel
theorem dX10_setMarks_69 : decode cX10_setMarks 69 = .ok (.getfield 236, 3) := by decide +kernel
theorem dX10_setMarks_72 : decode cX10_setMarks 72 = .ok (.aload_n 0, 1) := by decide +kernel
theorem dX10_setMarks_73 : decode cX10_setMarks 73 = .ok (.getfield 32, 3) := by decide +kernel
theorem dX10_setMarks_76 : decode cX10_setMarks 76 = .ok (.getfield 239, 3) := by decide +kernel
theorem dX10_setMarks_79 : decode cX10_setMarks 79 = .ok (.invokevirtual 355, 3) := by decide +kernel
theorem dX10_setMarks_82 : decode cX10_setMarks 82 = .ok (.iinc 3 1, 3) := by decide +kernel
theorem dX10_setMarks_85 : decode cX10_setMarks 85 = .ok (.goto (-67), 3) := by decide +kernel
theorem dX10_setMarks_88 : decode cX10_setMarks 88 = .ok (.return_, 1) := by decide +kernel
set_option maxRecDepth 20000 in
theorem ggX10_hasReading_X8_setMinute : GoodIn wsX10_hasReading wsX8_setMinute := goodIn_r _ [8, 9, 10, 11, 12, 13, 14, 15, 16, 17, 18, 19, 20, 21, 22, 23, 24, 25, 26, 27, 28, 29, 30, 31, 32, 33, 148, 149, 150, 151, 152, 153, 154, 155, 156, 157, 158, 159, 160, 161, 162, 163] (by decide +kernel) (by decide +kernel)
set_option maxRecDepth 20000 in
theorem gX10_hasReading_X8_setMinute : GoodIn wsX10_hasReading (wsV RX10 352 RX8 yX8_setMinute wsX8_setMinute) := goodIn_app (goodIn_of _ (by decide +kernel)) ggX10_hasReading_X8_setMinute
set_option maxRecDepth 20000 in
theorem ggX10_hasReading_X6_cast : GoodIn wsX10_hasReading wsX6_cast := goodIn_r _ [38, 39, 40, 41, 37, 42, 43, 44, 45, 46, 47, 48, 49, 50, 51, 52, 53, 54, 55, 56, 57, 58, 59, 60, 61, 62, 63, 64, 65, 66, 67, 68, 69, 70, 71, 72, 73, 74, 75, 76, 77, 78, 79, 80, 81, 7, 82, 18, 27, 24, 28, 29, 30, 31, 83, 84, 21, 85, 86, 87, 88, 89, 12, 90, 91, 92, 93, 94, 95, 96, 135, 136, 137, 138, 139, 140, 141, 142, 143, 144, 145, 146, 147, 148, 149, 150, 151, 152, 153, 154, 155, 156, 157, 158, 159, 160, 161, 162, 163, 164, 165, 166, 167, 168, 169, 170, 171] (by decide +kernel) (by decide +kernel)
set_option maxRecDepth 20000 in
theorem gX10_hasReading_X6_cast : GoodIn wsX10_hasReading (wsV RX10 339 RX6 yX6_cast wsX6_cast) := goodIn_app (goodIn_of _ (by decide +kernel)) ggX10_hasReading_X6_cast
set_option maxRecDepth 20000 in
theorem ggX10_hasReading_X1_isA : GoodIn wsX10_hasReading wsX1_isA := goodIn_r _ [101, 102, 103, 24, 104, 105, 94, 95, 96, 172, 173, 174, 175, 176, 177, 178] (by decide +kernel) (by decide +kernel)
set_option maxRecDepth 20000 in
theorem gX10_hasReading_X1_isA : GoodIn wsX10_hasReading (wsV RX10 333 RX1 yX1_isA wsX1_isA) := goodIn_app (goodIn_of _ (by decide +kernel)) ggX10_hasReading_X1_isA
set_option maxRecDepth 20000 in
theorem ggX10_hasReading_X3_show : GoodIn wsX10_hasReading wsX3_show := goodIn_r _ [110, 111, 112, 113, 114, 115, 116, 109, 117, 118, 119, 120, 121, 122, 95, 24, 96, 179, 180, 181, 182, 183, 184, 185] (by decide +kernel) (by decide +kernel)
set_option maxRecDepth 20000 in
theorem gX10_hasReading_X3_show : GoodIn wsX10_hasReading (wsV RX10 358 RX3 yX3_show wsX3_show) := goodIn_app (goodIn_of _ (by decide +kernel)) ggX10_hasReading_X3_show
theorem dX10_hasReading_0 : decode cX10_hasReading 0 = .ok (.aload_n 0, 1) := by decide +kernel
theorem dX10_hasReading_1 : decode cX10_hasReading 1 = .ok (.getfield 10, 3) := by decide +kernel
theorem dX10_hasReading_4 : decode cX10_hasReading 4 = .ok (.iload_n 2, 1) := by decide +kernel
theorem dX10_hasReading_5 : decode cX10_hasReading 5 = .ok (.invokevirtual 352, 3) := by decide +kernel
theorem dX10_hasReading_8 : decode cX10_hasReading 8 = .ok (.aload_n 0, 1) := by decide +kernel
theorem dX10_hasReading_9 : decode cX10_hasReading 9 = .ok (.getfield 32, 3) := by decide +kernel
theorem dX10_hasReading_12 : decode cX10_hasReading 12 = .ok (.aload_n 0, 1) := by decide +kernel
theorem dX10_hasReading_13 : decode cX10_hasReading 13 = .ok (.getfield 10, 3) := by decide +kernel
theorem dX10_hasReading_16 : decode cX10_hasReading 16 = .ok (.invokevirtual 339, 3) := by decide +kernel
theorem dX10_hasReading_19 : decode cX10_hasReading 19 = .ok (.ifCond .ne 36, 3) := by decide +kernel
theorem dX10_hasReading_22 : decode cX10_hasReading 22 = .ok (.aload_n 0, 1) := by decide +kernel
theorem dX10_hasReading_23 : decode cX10_hasReading 23 = .ok (.getfield 39, 3) := by decide +kernel
theorem dX10_hasReading_26 : decode cX10_hasReading 26 = .ok (.aload_n 0, 1) := by decide +kernel
theorem dX10_hasReading_27 : decode cX10_hasReading 27 = .ok (.getfield 32, 3) := by decide +kernel
theorem dX10_hasReading_30 : decode cX10_hasReading 30 = .ok (.getfield 236, 3) := by decide +kernel
theorem dX10_hasReading_33 : decode cX10_hasReading 33 = .ok (.aload_n 0, 1) := by decide +kernel
theorem dX10_hasReading_34 : decode cX10_hasReading 34 = .ok (.getfield 32, 3) := by decide +kernel
theorem dX10_hasReading_37 : decode cX10_hasReading 37 = .ok (.getfield 239, 3) := by decide +kernel
theorem dX10_hasReading_40 : decode cX10_hasReading 40 = .ok (.aload_n 1, 1) := by decide +kernel
theorem dX10_hasReading_41 : decode cX10_hasReading 41 = .ok (.iconst 3, 1) := by decide +kernel
theorem dX10_hasReading_42 : decode cX10_hasReading 42 = .ok (.invokevirtual 333, 3) := by decide +kernel
theorem dX10_hasReading_45 : decode cX10_hasReading 45 = .ok (.invokevirtual 358, 3) := by decide +kernel
theorem dX10_hasReading_48 : decode cX10_hasReading 48 = .ok (.ifCond .eq 7, 3) := by decide +kernel
theorem dX10_hasReading_51 : decode cX10_hasReading 51 = .ok (.iconst 1, 1) := by decide +kernel
theorem dX10_hasReading_52 : decode cX10_hasReading 52 = .ok (.goto 4, 3) := by decide +kernel
theorem dX10_hasReading_55 : decode cX10_hasReading 55 = .ok (.iconst 0, 1) := by decide +kernel
theorem dX10_hasReading_56 : decode cX10_hasReading 56 = .ok (.ireturn, 1) := by decide +kernel
set_option maxRecDepth 20000 in
theorem ggX10_followStretches_X4_clear : GoodIn wsX10_followStretches wsX4_clear := goodIn_r _ [9, 10, 158, 159, 160] (by decide +kernel) (by decide +kernel)
set_option maxRecDepth 20000 in
theorem gX10_followStretches_X4_clear : GoodIn wsX10_followStretches (wsV RX10 343 RX4 yX4_clear wsX4_clear) := goodIn_app (goodIn_of _ (by decide +kernel)) ggX10_followStretches_X4_clear
set_option maxRecDepth 20000 in
theorem ggX10_followStretches_X6_setUp : GoodIn wsX10_followStretches wsX6_setUp := goodIn_r _ [15, 16, 17, 18, 19, 20, 21, 22, 23, 24, 25, 26, 27, 28, 29, 30, 31, 32, 33, 34, 35, 14, 36, 37, 38, 39, 40, 41, 42, 43, 44, 45, 46, 47, 48, 49, 50, 51, 52, 53, 54, 55, 56, 57, 58, 59, 60, 61, 62, 63, 64, 65, 161, 162, 163, 164, 165, 166, 167, 168, 169, 170, 171, 172, 173, 174, 175, 176, 177, 178, 179, 180, 181, 182, 183] (by decide +kernel) (by decide +kernel)
set_option maxRecDepth 20000 in
theorem gX10_followStretches_X6_setUp : GoodIn wsX10_followStretches (wsV RX10 259 RX6 yX6_setUp wsX6_setUp) := goodIn_app (goodIn_of _ (by decide +kernel)) ggX10_followStretches_X6_setUp
set_option maxRecDepth 20000 in
theorem ggX10_followStretches_X8_setDay : GoodIn wsX10_followStretches wsX8_setDay := goodIn_r _ [70, 71, 72, 73, 74, 75, 76, 77, 78, 79, 80, 81, 82, 31, 27, 32, 83, 84, 85, 86, 40, 41, 42, 43, 44, 48, 49, 45, 46, 47, 184, 185, 186, 187, 188, 189, 190, 191, 192, 193, 194, 195, 196, 197, 198, 199] (by decide +kernel) (by decide +kernel)
set_option maxRecDepth 20000 in
theorem gX10_followStretches_X8_setDay : GoodIn wsX10_followStretches (wsV RX10 349 RX8 yX8_setDay wsX8_setDay) := goodIn_app (goodIn_of _ (by decide +kernel)) ggX10_followStretches_X8_setDay
set_option maxRecDepth 20000 in
theorem ggX10_followStretches_X8_setMinute : GoodIn wsX10_followStretches wsX8_setMinute := goodIn_r _ [90, 73, 91, 76, 92, 78, 80, 93, 81, 82, 94, 83, 84, 85, 86, 45, 27, 46, 47, 40, 41, 42, 43, 44, 48, 49, 184, 185, 186, 187, 188, 189, 190, 191, 192, 193, 194, 195, 196, 197, 198, 199] (by decide +kernel) (by decide +kernel)
set_option maxRecDepth 20000 in
theorem gX10_followStretches_X8_setMinute : GoodIn wsX10_followStretches (wsV RX10 352 RX8 yX8_setMinute wsX8_setMinute) := goodIn_app (goodIn_of _ (by decide +kernel)) ggX10_followStretches_X8_setMinute
set_option maxRecDepth 20000 in
theorem ggX10_followStretches_X6_cast : GoodIn wsX10_followStretches wsX6_cast := goodIn_r _ [98, 99, 100, 101, 14, 102, 103, 104, 62, 64, 16, 17, 65, 105, 106, 107, 108, 109, 110, 111, 112, 113, 114, 115, 116, 117, 118, 37, 19, 18, 38, 39, 119, 120, 121, 122, 123, 53, 124, 55, 56, 57, 125, 126, 127, 69, 128, 94, 40, 27, 41, 42, 43, 44, 129, 130, 85, 131, 132, 133, 134, 135, 92, 136, 137, 138, 139, 30, 31, 32, 168, 169, 170, 171, 172, 173, 174, 175, 176, 177, 178, 179, 180, 184, 185, 186, 187, 188, 189, 190, 191, 192, 193, 194, 195, 196, 197, 198, 199, 200, 201, 202, 203, 204, 181, 182, 183] (by decide +kernel) (by decide +kernel)
set_option maxRecDepth 20000 in
theorem gX10_followStretches_X6_cast : GoodIn wsX10_followStretches (wsV RX10 339 RX6 yX6_cast wsX6_cast) := goodIn_app (goodIn_of _ (by decide +kernel)) ggX10_followStretches_X6_cast
set_option maxRecDepth 20000 in
theorem ggX10_followStretches_X4_add : GoodIn wsX10_followStretches wsX4_add := goodIn_r _ [143, 10, 144, 145, 158, 159, 160] (by decide +kernel) (by decide +kernel)
set_option maxRecDepth 20000 in
theorem gX10_followStretches_X4_add : GoodIn wsX10_followStretches (wsV RX10 346 RX4 yX4_add wsX4_add) := goodIn_app (goodIn_of _ (by decide +kernel)) ggX10_followStretches_X4_add
theorem dX10_followStretches_0 : decode cX10_followStretches 0 = .ok (.aload_n 0, 1) := by decide +kernel
theorem dX10_followStretches_1 : decode cX10_followStretches 1 = .ok (.getfield 71, 3) := by decide +kernel
theorem dX10_followStretches_4 : decode cX10_followStretches 4 = .ok (.invokevirtual 343, 3) := by decide +kernel
theorem dX10_followStretches_7 : decode cX10_followStretches 7 = .ok (.aload_n 0, 1) := by decide +kernel
theorem dX10_followStretches_8 : decode cX10_followStretches 8 = .ok (.getfield 32, 3) := by decide +kernel
theorem dX10_followStretches_11 : decode cX10_followStretches 11 = .ok (.aload_n 1, 1) := by decide +kernel
theorem dX10_followStretches_12 : decode cX10_followStretches 12 = .ok (.aload_n 0, 1) := by decide +kernel
theorem dX10_followStretches_13 : decode cX10_followStretches 13 = .ok (.getfield 18, 3) := by decide +kernel
theorem dX10_followStretches_16 : decode cX10_followStretches 16 = .ok (.invokevirtual 259, 3) := by decide +kernel
theorem dX10_followStretches_19 : decode cX10_followStretches 19 = .ok (.aload_n 0, 1) := by decide +kernel
theorem dX10_followStretches_20 : decode cX10_followStretches 20 = .ok (.getfield 10, 3) := by decide +kernel
theorem dX10_followStretches_23 : decode cX10_followStretches 23 = .ok (.iload_n 2, 1) := by decide +kernel
theorem dX10_followStretches_24 : decode cX10_followStretches 24 = .ok (.invokevirtual 349, 3) := by decide +kernel
theorem dX10_followStretches_27 : decode cX10_followStretches 27 = .ok (.iconst 0, 1) := by decide +kernel
theorem dX10_followStretches_28 : decode cX10_followStretches 28 = .ok (.istore 4, 2) := by decide +kernel
theorem dX10_followStretches_30 : decode cX10_followStretches 30 = .ok (.iconst 0, 1) := by decide +kernel
theorem dX10_followStretches_31 : decode cX10_followStretches 31 = .ok (.istore 5, 2) := by decide +kernel
theorem dX10_followStretches_33 : decode cX10_followStretches 33 = .ok (.iconst 0, 1) := by decide +kernel
theorem dX10_followStretches_34 : decode cX10_followStretches 34 = .ok (.istore 6, 2) := by decide +kernel
theorem dX10_followStretches_36 : decode cX10_followStretches 36 = .ok (.iload 6, 2) := by decide +kernel
theorem dX10_followStretches_38 : decode cX10_followStretches 38 = .ok (.sipush 1440, 3) := by decide +kernel
theorem dX10_followStretches_41 : decode cX10_followStretches 41 = .ok (.if_icmp .ge 78, 3) := by decide +kernel
theorem dX10_followStretches_44 : decode cX10_followStretches 44 = .ok (.aload_n 0, 1) := by decide +kernel
theorem dX10_followStretches_45 : decode cX10_followStretches 45 = .ok (.getfield 10, 3) := by decide +kernel
theorem dX10_followStretches_48 : decode cX10_followStretches 48 = .ok (.iload 6, 2) := by decide +kernel
theorem dX10_followStretches_50 : decode cX10_followStretches 50 = .ok (.invokevirtual 352, 3) := by decide +kernel
theorem dX10_followStretches_53 : decode cX10_followStretches 53 = .ok (.aload_n 0, 1) := by decide +kernel
theorem dX10_followStretches_54 : decode cX10_followStretches 54 = .ok (.getfield 32, 3) := by decide +kernel
theorem dX10_followStretches_57 : decode cX10_followStretches 57 = .ok (.aload_n 0, 1) := by decide +kernel
theorem dX10_followStretches_58 : decode cX10_followStretches 58 = .ok (.getfield 10, 3) := by decide +kernel
theorem dX10_followStretches_61 : decode cX10_followStretches 61 = .ok (.invokevirtual 339, 3) := by decide +kernel
theorem dX10_followStretches_64 : decode cX10_followStretches 64 = .ok (.ifCond .ne 7, 3) := by decide +kernel
theorem dX10_followStretches_67 : decode cX10_followStretches 67 = .ok (.iconst 1, 1) := by decide +kernel
theorem dX10_followStretches_68 : decode cX10_followStretches 68 = .ok (.goto 4, 3) := by decide +kernel
theorem dX10_followStretches_71 : decode cX10_followStretches 71 = .ok (.iconst 0, 1) := by decide +kernel
theorem dX10_followStretches_72 : decode cX10_followStretches 72 = .ok (.istore 7, 2) := by decide +kernel
theorem dX10_followStretches_74 : decode cX10_followStretches 74 = .ok (.iload 7, 2) := by decide +kernel
theorem dX10_followStretches_76 : decode cX10_followStretches 76 = .ok (.ifCond .eq 11, 3) := by decide +kernel
theorem dX10_followStretches_79 : decode cX10_followStretches 79 = .ok (.iload 5, 2) := by decide +kernel
theorem dX10_followStretches_81 : decode cX10_followStretches 81 = .ok (.ifCond .ne 6, 3) := by decide +kernel
theorem dX10_followStretches_84 : decode cX10_followStretches 84 = .ok (.iinc 4 1, 3) := by decide +kernel
theorem dX10_followStretches_87 : decode cX10_followStretches 87 = .ok (.iload 7, 2) := by decide +kernel
theorem dX10_followStretches_89 : decode cX10_followStretches 89 = .ok (.ifCond .eq 20, 3) := by decide +kernel
theorem dX10_followStretches_92 : decode cX10_followStretches 92 = .ok (.iload 4, 2) := by decide +kernel
theorem dX10_followStretches_94 : decode cX10_followStretches 94 = .ok (.iconst 1, 1) := by decide +kernel
theorem dX10_followStretches_95 : decode cX10_followStretches 95 = .ok (.isub, 1) := by decide +kernel
theorem dX10_followStretches_96 : decode cX10_followStretches 96 = .ok (.iload_n 3, 1) := by decide +kernel
theorem dX10_followStretches_97 : decode cX10_followStretches 97 = .ok (.if_icmp .ne 12, 3) := by decide +kernel
theorem dX10_followStretches_100 : decode cX10_followStretches 100 = .ok (.aload_n 0, 1) := by decide +kernel
theorem dX10_followStretches_101 : decode cX10_followStretches 101 = .ok (.getfield 71, 3) := by decide +kernel
theorem dX10_followStretches_104 : decode cX10_followStretches 104 = .ok (.iload 6, 2) := by decide +kernel
theorem dX10_followStretches_106 : decode cX10_followStretches 106 = .ok (.invokevirtual 346, 3) := by decide +kernel
theorem dX10_followStretches_109 : decode cX10_followStretches 109 = .ok (.iload 7, 2) := by decide +kernel
theorem dX10_followStretches_111 : decode cX10_followStretches 111 = .ok (.istore 5, 2) := by decide +kernel
theorem dX10_followStretches_113 : decode cX10_followStretches 113 = .ok (.iinc 6 1, 3) := by decide +kernel
theorem dX10_followStretches_116 : decode cX10_followStretches 116 = .ok (.goto (-80), 3) := by decide +kernel
theorem dX10_followStretches_119 : decode cX10_followStretches 119 = .ok (.iload 4, 2) := by decide +kernel
theorem dX10_followStretches_121 : decode cX10_followStretches 121 = .ok (.ireturn, 1) := by decide +kernel
theorem dX10_keepAllTurns_0 : decode cX10_keepAllTurns 0 = .ok (.iconst 0, 1) := by decide +kernel
theorem dX10_keepAllTurns_1 : decode cX10_keepAllTurns 1 = .ok (.istore_n 1, 1) := by decide +kernel
theorem dX10_keepAllTurns_2 : decode cX10_keepAllTurns 2 = .ok (.iload_n 1, 1) := by decide +kernel
theorem dX10_keepAllTurns_3 : decode cX10_keepAllTurns 3 = .ok (.aload_n 0, 1) := by decide +kernel
theorem dX10_keepAllTurns_4 : decode cX10_keepAllTurns 4 = .ok (.getfield 50, 3) := by decide +kernel
theorem dX10_keepAllTurns_7 : decode cX10_keepAllTurns 7 = .ok (.arraylength, 1) := by decide +kernel
theorem dX10_keepAllTurns_8 : decode cX10_keepAllTurns 8 = .ok (.if_icmp .ge 20, 3) := by decide +kernel
theorem dX10_keepAllTurns_11 : decode cX10_keepAllTurns 11 = .ok (.aload_n 0, 1) := by decide +kernel
theorem dX10_keepAllTurns_12 : decode cX10_keepAllTurns 12 = .ok (.getfield 50, 3) := by decide +kernel
theorem dX10_keepAllTurns_15 : decode cX10_keepAllTurns 15 = .ok (.iload_n 1, 1) := by decide +kernel
theorem dX10_keepAllTurns_16 : decode cX10_keepAllTurns 16 = .ok (.iload_n 1, 1) := by decide +kernel
theorem dX10_keepAllTurns_17 : decode cX10_keepAllTurns 17 = .ok (.sipush 300, 3) := by decide +kernel
theorem dX10_keepAllTurns_20 : decode cX10_keepAllTurns 20 = .ok (.isub, 1) := by decide +kernel
theorem dX10_keepAllTurns_21 : decode cX10_keepAllTurns 21 = .ok (.iastore, 1) := by decide +kernel
theorem dX10_keepAllTurns_22 : decode cX10_keepAllTurns 22 = .ok (.iinc 1 1, 3) := by decide +kernel
theorem dX10_keepAllTurns_25 : decode cX10_keepAllTurns 25 = .ok (.goto (-23), 3) := by decide +kernel
theorem dX10_keepAllTurns_28 : decode cX10_keepAllTurns 28 = .ok (.aload_n 0, 1) := by decide +kernel
theorem dX10_keepAllTurns_29 : decode cX10_keepAllTurns 29 = .ok (.aload_n 0, 1) := by decide +kernel
theorem dX10_keepAllTurns_30 : decode cX10_keepAllTurns 30 = .ok (.getfield 50, 3) := by decide +kernel
theorem dX10_keepAllTurns_33 : decode cX10_keepAllTurns 33 = .ok (.arraylength, 1) := by decide +kernel
theorem dX10_keepAllTurns_34 : decode cX10_keepAllTurns 34 = .ok (.putfield 54, 3) := by decide +kernel
theorem dX10_keepAllTurns_37 : decode cX10_keepAllTurns 37 = .ok (.return_, 1) := by decide +kernel
set_option maxRecDepth 20000 in
theorem ggX10_keepAgreeingTurns_X8_setTime : GoodIn wsX10_keepAgreeingTurns wsX8_setTime := goodIn_r _ [10, 11, 12, 13, 9, 14, 15, 16, 17, 18, 19, 20, 21, 22, 23, 24, 25, 26, 27, 28, 29, 30, 31, 32, 33, 34, 35, 36, 37, 38, 39, 40, 41, 42, 43, 44, 45, 46, 47, 48, 49, 50, 51, 175, 176, 177, 178, 179, 180, 181, 182, 183, 184, 185, 186, 187, 188, 189, 190] (by decide +kernel) (by decide +kernel)
set_option maxRecDepth 20000 in
theorem gX10_keepAgreeingTurns_X8_setTime : GoodIn wsX10_keepAgreeingTurns (wsV RX10 121 RX8 yX8_setTime wsX8_setTime) := goodIn_app (goodIn_of _ (by decide +kernel)) ggX10_keepAgreeingTurns_X8_setTime
set_option maxRecDepth 20000 in
theorem ggX10_keepAgreeingTurns_X6_findHider : GoodIn wsX10_keepAgreeingTurns wsX6_findHider := goodIn_r _ [56, 57, 58, 59, 60, 61, 62, 63, 64, 65, 66, 67, 68, 69, 70, 71, 72, 73, 162, 163, 164, 165, 166, 167, 168, 169, 170, 171, 172, 173, 174, 175, 176, 177, 178, 179, 180, 181, 182, 183, 184, 185, 186, 187, 188, 189, 190, 191, 192, 193, 194, 195] (by decide +kernel) (by decide +kernel)
set_option maxRecDepth 20000 in
theorem gX10_keepAgreeingTurns_X6_findHider : GoodIn wsX10_keepAgreeingTurns (wsV RX10 368 RX6 yX6_findHider wsX6_findHider) := goodIn_app (goodIn_of _ (by decide +kernel)) ggX10_keepAgreeingTurns_X6_findHider
set_option maxRecDepth 20000 in
theorem ggX10_keepAgreeingTurns_X6_setRows : GoodIn wsX10_keepAgreeingTurns wsX6_setRows := goodIn_r _ [77, 78, 79, 80, 34, 28, 35, 36, 37, 38, 41, 42, 43, 81, 82, 83, 84, 85, 86, 87, 88, 89, 90, 27, 29, 39, 40, 91, 92, 93, 94, 95, 96, 97, 98, 155, 156, 157, 158, 159, 160, 161, 162, 163, 164, 165, 166, 167, 168, 169, 170, 171, 172, 173, 174, 196, 197, 198] (by decide +kernel) (by decide +kernel)
set_option maxRecDepth 20000 in
theorem gX10_keepAgreeingTurns_X6_setRows : GoodIn wsX10_keepAgreeingTurns (wsV RX10 372 RX6 yX6_setRows wsX6_setRows) := goodIn_app (goodIn_of _ (by decide +kernel)) ggX10_keepAgreeingTurns_X6_setRows
set_option maxRecDepth 20000 in
theorem ggX10_keepAgreeingTurns_X6_settle : GoodIn wsX10_keepAgreeingTurns wsX6_settle := goodIn_r _ [102, 78, 58, 57, 103, 104, 79, 80, 105, 106, 107, 108, 109, 94, 110, 96, 97, 98, 111, 112, 113, 9, 114, 51, 34, 28, 35, 36, 37, 38, 115, 116, 32, 117, 118, 119, 120, 121, 49, 122, 123, 124, 125, 90, 27, 29, 175, 176, 177, 178, 179, 180, 181, 182, 183, 184, 185, 186, 187, 188, 189, 190, 162, 163, 164, 165, 166, 167, 168, 169, 170, 171, 172, 173, 174, 196, 197, 198] (by decide +kernel) (by decide +kernel)
set_option maxRecDepth 20000 in
theorem gX10_keepAgreeingTurns_X6_settle : GoodIn wsX10_keepAgreeingTurns (wsV RX10 375 RX6 yX6_settle wsX6_settle) := goodIn_app (goodIn_of _ (by decide +kernel)) ggX10_keepAgreeingTurns_X6_settle
set_option maxRecDepth 20000 in
theorem ggX10_keepAgreeingTurns_X7_isCloseTo : GoodIn wsX10_keepAgreeingTurns wsX7_isCloseTo := goodIn_r _ [130, 131, 132, 133, 134, 135, 136, 137, 27, 28, 29, 150, 151, 152, 153, 154] (by decide +kernel) (by decide +kernel)
set_option maxRecDepth 20000 in
theorem gX10_keepAgreeingTurns_X7_isCloseTo : GoodIn wsX10_keepAgreeingTurns (wsV RX10 378 RX7 yX7_isCloseTo wsX7_isCloseTo) := goodIn_app (goodIn_of _ (by decide +kernel)) ggX10_keepAgreeingTurns_X7_isCloseTo
theorem dX10_keepAgreeingTurns_0 : decode cX10_keepAgreeingTurns 0 = .ok (.aload_n 0, 1) := by decide +kernel
theorem dX10_keepAgreeingTurns_1 : decode cX10_keepAgreeingTurns 1 = .ok (.getfield 10, 3) := by decide +kernel
theorem dX10_keepAgreeingTurns_4 : decode cX10_keepAgreeingTurns 4 = .ok (.aload_n 0, 1) := by decide +kernel
theorem dX10_keepAgreeingTurns_5 : decode cX10_keepAgreeingTurns 5 = .ok (.getfield 46, 3) := by decide +kernel
theorem dX10_keepAgreeingTurns_8 : decode cX10_keepAgreeingTurns 8 = .ok (.getfield 362, 3) := by decide +kernel
theorem dX10_keepAgreeingTurns_11 : decode cX10_keepAgreeingTurns 11 = .ok (.iload_n 2, 1) := by decide +kernel
theorem dX10_keepAgreeingTurns_12 : decode cX10_keepAgreeingTurns 12 = .ok (.iaload, 1) := by decide +kernel
theorem dX10_keepAgreeingTurns_13 : decode cX10_keepAgreeingTurns 13 = .ok (.aload_n 0, 1) := by decide +kernel
theorem dX10_keepAgreeingTurns_14 : decode cX10_keepAgreeingTurns 14 = .ok (.getfield 46, 3) := by decide +kernel
theorem dX10_keepAgreeingTurns_17 : decode cX10_keepAgreeingTurns 17 = .ok (.getfield 365, 3) := by decide +kernel
theorem dX10_keepAgreeingTurns_20 : decode cX10_keepAgreeingTurns 20 = .ok (.iload_n 2, 1) := by decide +kernel
theorem dX10_keepAgreeingTurns_21 : decode cX10_keepAgreeingTurns 21 = .ok (.iaload, 1) := by decide +kernel
theorem dX10_keepAgreeingTurns_22 : decode cX10_keepAgreeingTurns 22 = .ok (.invokevirtual 121, 3) := by decide +kernel
theorem dX10_keepAgreeingTurns_25 : decode cX10_keepAgreeingTurns 25 = .ok (.aload_n 0, 1) := by decide +kernel
theorem dX10_keepAgreeingTurns_26 : decode cX10_keepAgreeingTurns 26 = .ok (.getfield 32, 3) := by decide +kernel
theorem dX10_keepAgreeingTurns_29 : decode cX10_keepAgreeingTurns 29 = .ok (.aload_n 0, 1) := by decide +kernel
theorem dX10_keepAgreeingTurns_30 : decode cX10_keepAgreeingTurns 30 = .ok (.getfield 10, 3) := by decide +kernel
theorem dX10_keepAgreeingTurns_33 : decode cX10_keepAgreeingTurns 33 = .ok (.invokevirtual 368, 3) := by decide +kernel
theorem dX10_keepAgreeingTurns_36 : decode cX10_keepAgreeingTurns 36 = .ok (.iconst 0, 1) := by decide +kernel
theorem dX10_keepAgreeingTurns_37 : decode cX10_keepAgreeingTurns 37 = .ok (.istore_n 3, 1) := by decide +kernel
theorem dX10_keepAgreeingTurns_38 : decode cX10_keepAgreeingTurns 38 = .ok (.iconst 0, 1) := by decide +kernel
theorem dX10_keepAgreeingTurns_39 : decode cX10_keepAgreeingTurns 39 = .ok (.istore 4, 2) := by decide +kernel
theorem dX10_keepAgreeingTurns_41 : decode cX10_keepAgreeingTurns 41 = .ok (.iload 4, 2) := by decide +kernel
theorem dX10_keepAgreeingTurns_43 : decode cX10_keepAgreeingTurns 43 = .ok (.aload_n 0, 1) := by decide +kernel
theorem dX10_keepAgreeingTurns_44 : decode cX10_keepAgreeingTurns 44 = .ok (.getfield 54, 3) := by decide +kernel
theorem dX10_keepAgreeingTurns_47 : decode cX10_keepAgreeingTurns 47 = .ok (.if_icmp .ge 84, 3) := by decide +kernel
theorem dX10_keepAgreeingTurns_50 : decode cX10_keepAgreeingTurns 50 = .ok (.aload_n 0, 1) := by decide +kernel
theorem dX10_keepAgreeingTurns_51 : decode cX10_keepAgreeingTurns 51 = .ok (.getfield 32, 3) := by decide +kernel
theorem dX10_keepAgreeingTurns_54 : decode cX10_keepAgreeingTurns 54 = .ok (.aload_n 1, 1) := by decide +kernel
theorem dX10_keepAgreeingTurns_55 : decode cX10_keepAgreeingTurns 55 = .ok (.aload_n 1, 1) := by decide +kernel
theorem dX10_keepAgreeingTurns_56 : decode cX10_keepAgreeingTurns 56 = .ok (.getfield 190, 3) := by decide +kernel
theorem dX10_keepAgreeingTurns_59 : decode cX10_keepAgreeingTurns 59 = .ok (.aload_n 0, 1) := by decide +kernel
theorem dX10_keepAgreeingTurns_60 : decode cX10_keepAgreeingTurns 60 = .ok (.getfield 50, 3) := by decide +kernel
theorem dX10_keepAgreeingTurns_63 : decode cX10_keepAgreeingTurns 63 = .ok (.iload 4, 2) := by decide +kernel
theorem dX10_keepAgreeingTurns_65 : decode cX10_keepAgreeingTurns 65 = .ok (.iaload, 1) := by decide +kernel
theorem dX10_keepAgreeingTurns_66 : decode cX10_keepAgreeingTurns 66 = .ok (.iadd, 1) := by decide +kernel
theorem dX10_keepAgreeingTurns_67 : decode cX10_keepAgreeingTurns 67 = .ok (.invokevirtual 372, 3) := by decide +kernel
theorem dX10_keepAgreeingTurns_70 : decode cX10_keepAgreeingTurns 70 = .ok (.aload_n 0, 1) := by decide +kernel
theorem dX10_keepAgreeingTurns_71 : decode cX10_keepAgreeingTurns 71 = .ok (.getfield 32, 3) := by decide +kernel
theorem dX10_keepAgreeingTurns_74 : decode cX10_keepAgreeingTurns 74 = .ok (.aload_n 0, 1) := by decide +kernel
theorem dX10_keepAgreeingTurns_75 : decode cX10_keepAgreeingTurns 75 = .ok (.getfield 10, 3) := by decide +kernel
theorem dX10_keepAgreeingTurns_78 : decode cX10_keepAgreeingTurns 78 = .ok (.invokevirtual 375, 3) := by decide +kernel
theorem dX10_keepAgreeingTurns_81 : decode cX10_keepAgreeingTurns 81 = .ok (.ifCond .ne 44, 3) := by decide +kernel
theorem dX10_keepAgreeingTurns_84 : decode cX10_keepAgreeingTurns 84 = .ok (.aload_n 0, 1) := by decide +kernel
theorem dX10_keepAgreeingTurns_85 : decode cX10_keepAgreeingTurns 85 = .ok (.getfield 46, 3) := by decide +kernel
theorem dX10_keepAgreeingTurns_88 : decode cX10_keepAgreeingTurns 88 = .ok (.iload_n 2, 1) := by decide +kernel
theorem dX10_keepAgreeingTurns_89 : decode cX10_keepAgreeingTurns 89 = .ok (.aload_n 0, 1) := by decide +kernel
theorem dX10_keepAgreeingTurns_90 : decode cX10_keepAgreeingTurns 90 = .ok (.getfield 32, 3) := by decide +kernel
theorem dX10_keepAgreeingTurns_93 : decode cX10_keepAgreeingTurns 93 = .ok (.getfield 236, 3) := by decide +kernel
theorem dX10_keepAgreeingTurns_96 : decode cX10_keepAgreeingTurns 96 = .ok (.aload_n 0, 1) := by decide +kernel
theorem dX10_keepAgreeingTurns_97 : decode cX10_keepAgreeingTurns 97 = .ok (.getfield 32, 3) := by decide +kernel
theorem dX10_keepAgreeingTurns_100 : decode cX10_keepAgreeingTurns 100 = .ok (.getfield 239, 3) := by decide +kernel
theorem dX10_keepAgreeingTurns_103 : decode cX10_keepAgreeingTurns 103 = .ok (.invokevirtual 378, 3) := by decide +kernel
theorem dX10_keepAgreeingTurns_106 : decode cX10_keepAgreeingTurns 106 = .ok (.ifCond .eq 19, 3) := by decide +kernel
theorem dX10_keepAgreeingTurns_109 : decode cX10_keepAgreeingTurns 109 = .ok (.aload_n 0, 1) := by decide +kernel
theorem dX10_keepAgreeingTurns_110 : decode cX10_keepAgreeingTurns 110 = .ok (.getfield 50, 3) := by decide +kernel
theorem dX10_keepAgreeingTurns_113 : decode cX10_keepAgreeingTurns 113 = .ok (.iload_n 3, 1) := by decide +kernel
theorem dX10_keepAgreeingTurns_114 : decode cX10_keepAgreeingTurns 114 = .ok (.iinc 3 1, 3) := by decide +kernel
theorem dX10_keepAgreeingTurns_117 : decode cX10_keepAgreeingTurns 117 = .ok (.aload_n 0, 1) := by decide +kernel
theorem dX10_keepAgreeingTurns_118 : decode cX10_keepAgreeingTurns 118 = .ok (.getfield 50, 3) := by decide +kernel
theorem dX10_keepAgreeingTurns_121 : decode cX10_keepAgreeingTurns 121 = .ok (.iload 4, 2) := by decide +kernel
theorem dX10_keepAgreeingTurns_123 : decode cX10_keepAgreeingTurns 123 = .ok (.iaload, 1) := by decide +kernel
theorem dX10_keepAgreeingTurns_124 : decode cX10_keepAgreeingTurns 124 = .ok (.iastore, 1) := by decide +kernel
theorem dX10_keepAgreeingTurns_125 : decode cX10_keepAgreeingTurns 125 = .ok (.iinc 4 1, 3) := by decide +kernel
theorem dX10_keepAgreeingTurns_128 : decode cX10_keepAgreeingTurns 128 = .ok (.goto (-87), 3) := by decide +kernel
theorem dX10_keepAgreeingTurns_131 : decode cX10_keepAgreeingTurns 131 = .ok (.aload_n 0, 1) := by decide +kernel
theorem dX10_keepAgreeingTurns_132 : decode cX10_keepAgreeingTurns 132 = .ok (.iload_n 3, 1) := by decide +kernel
theorem dX10_keepAgreeingTurns_133 : decode cX10_keepAgreeingTurns 133 = .ok (.putfield 54, 3) := by decide +kernel
theorem dX10_keepAgreeingTurns_136 : decode cX10_keepAgreeingTurns 136 = .ok (.return_, 1) := by decide +kernel
theorem dX11_init_0 : decode cX11_init 0 = .ok (.aload_n 0, 1) := by decide +kernel
theorem dX11_init_1 : decode cX11_init 1 = .ok (.invokespecial 1, 3) := by decide +kernel
theorem dX11_init_4 : decode cX11_init 4 = .ok (.aload_n 0, 1) := by decide +kernel
theorem dX11_init_5 : decode cX11_init 5 = .ok (.sipush 280, 3) := by decide +kernel
theorem dX11_init_8 : decode cX11_init 8 = .ok (.newarray .int, 2) := by decide +kernel
theorem dX11_init_10 : decode cX11_init 10 = .ok (.putfield 7, 3) := by decide +kernel
theorem dX11_init_13 : decode cX11_init 13 = .ok (.aload_n 0, 1) := by decide +kernel
theorem dX11_init_14 : decode cX11_init 14 = .ok (.bipush 16, 2) := by decide +kernel
theorem dX11_init_16 : decode cX11_init 16 = .ok (.newarray .int, 2) := by decide +kernel
theorem dX11_init_18 : decode cX11_init 18 = .ok (.putfield 13, 3) := by decide +kernel
theorem dX11_init_21 : decode cX11_init 21 = .ok (.aload_n 0, 1) := by decide +kernel
theorem dX11_init_22 : decode cX11_init 22 = .ok (.bipush 112, 2) := by decide +kernel
theorem dX11_init_24 : decode cX11_init 24 = .ok (.newarray .int, 2) := by decide +kernel
theorem dX11_init_26 : decode cX11_init 26 = .ok (.putfield 16, 3) := by decide +kernel
theorem dX11_init_29 : decode cX11_init 29 = .ok (.aload_n 0, 1) := by decide +kernel
theorem dX11_init_30 : decode cX11_init 30 = .ok (.sipush 8192, 3) := by decide +kernel
theorem dX11_init_33 : decode cX11_init 33 = .ok (.putfield 19, 3) := by decide +kernel
theorem dX11_init_36 : decode cX11_init 36 = .ok (.aload_n 0, 1) := by decide +kernel
theorem dX11_init_37 : decode cX11_init 37 = .ok (.sipush 366, 3) := by decide +kernel
theorem dX11_init_40 : decode cX11_init 40 = .ok (.newarray .int, 2) := by decide +kernel
theorem dX11_init_42 : decode cX11_init 42 = .ok (.putfield 23, 3) := by decide +kernel
theorem dX11_init_45 : decode cX11_init 45 = .ok (.aload_n 0, 1) := by decide +kernel
theorem dX11_init_46 : decode cX11_init 46 = .ok (.bipush 80, 2) := by decide +kernel
theorem dX11_init_48 : decode cX11_init 48 = .ok (.newarray .int, 2) := by decide +kernel
theorem dX11_init_50 : decode cX11_init 50 = .ok (.putfield 26, 3) := by decide +kernel
theorem dX11_init_53 : decode cX11_init 53 = .ok (.aload_n 0, 1) := by decide +kernel
theorem dX11_init_54 : decode cX11_init 54 = .ok (.sipush 601, 3) := by decide +kernel
theorem dX11_init_57 : decode cX11_init 57 = .ok (.newarray .int, 2) := by decide +kernel
theorem dX11_init_59 : decode cX11_init 59 = .ok (.putfield 29, 3) := by decide +kernel
theorem dX11_init_62 : decode cX11_init 62 = .ok (.aload_n 0, 1) := by decide +kernel
theorem dX11_init_63 : decode cX11_init 63 = .ok (.bipush 7, 2) := by decide +kernel
theorem dX11_init_65 : decode cX11_init 65 = .ok (.newarray .long, 2) := by decide +kernel
theorem dX11_init_67 : decode cX11_init 67 = .ok (.putfield 32, 3) := by decide +kernel
theorem dX11_init_70 : decode cX11_init 70 = .ok (.aload_n 0, 1) := by decide +kernel
theorem dX11_init_71 : decode cX11_init 71 = .ok (.bipush 24, 2) := by decide +kernel
theorem dX11_init_73 : decode cX11_init 73 = .ok (.newarray .long, 2) := by decide +kernel
theorem dX11_init_75 : decode cX11_init 75 = .ok (.putfield 36, 3) := by decide +kernel
theorem dX11_init_78 : decode cX11_init 78 = .ok (.aload_n 0, 1) := by decide +kernel
theorem dX11_init_79 : decode cX11_init 79 = .ok (.bipush 24, 2) := by decide +kernel
theorem dX11_init_81 : decode cX11_init 81 = .ok (.newarray .long, 2) := by decide +kernel
theorem dX11_init_83 : decode cX11_init 83 = .ok (.putfield 39, 3) := by decide +kernel
theorem dX11_init_86 : decode cX11_init 86 = .ok (.aload_n 0, 1) := by decide +kernel
theorem dX11_init_87 : decode cX11_init 87 = .ok (.bipush 24, 2) := by decide +kernel
theorem dX11_init_89 : decode cX11_init 89 = .ok (.newarray .boolean, 2) := by decide +kernel
theorem dX11_init_91 : decode cX11_init 91 = .ok (.putfield 42, 3) := by decide +kernel
theorem dX11_init_94 : decode cX11_init 94 = .ok (.aload_n 0, 1) := by decide +kernel
theorem dX11_init_95 : decode cX11_init 95 = .ok (.iconst 0, 1) := by decide +kernel
theorem dX11_init_96 : decode cX11_init 96 = .ok (.putfield 46, 3) := by decide +kernel
theorem dX11_init_99 : decode cX11_init 99 = .ok (.return_, 1) := by decide +kernel
theorem dX11_isIn_0 : decode cX11_isIn 0 = .ok (.lload_n 0, 1) := by decide +kernel
theorem dX11_isIn_1 : decode cX11_isIn 1 = .ok (.lload_n 2, 1) := by decide +kernel
theorem dX11_isIn_2 : decode cX11_isIn 2 = .ok (.lcmp, 1) := by decide +kernel
theorem dX11_isIn_3 : decode cX11_isIn 3 = .ok (.ifCond .lt 14, 3) := by decide +kernel
theorem dX11_isIn_6 : decode cX11_isIn 6 = .ok (.lload_n 0, 1) := by decide +kernel
theorem dX11_isIn_7 : decode cX11_isIn 7 = .ok (.lload 4, 2) := by decide +kernel
theorem dX11_isIn_9 : decode cX11_isIn 9 = .ok (.lcmp, 1) := by decide +kernel
theorem dX11_isIn_10 : decode cX11_isIn 10 = .ok (.ifCond .gt 7, 3) := by decide +kernel
theorem dX11_isIn_13 : decode cX11_isIn 13 = .ok (.iconst 1, 1) := by decide +kernel
theorem dX11_isIn_14 : decode cX11_isIn 14 = .ok (.goto 4, 3) := by decide +kernel
theorem dX11_isIn_17 : decode cX11_isIn 17 = .ok (.iconst 0, 1) := by decide +kernel
theorem dX11_isIn_18 : decode cX11_isIn 18 = .ok (.ireturn, 1) := by decide +kernel
theorem dX11_down_0 : decode cX11_down 0 = .ok (.lload_n 0, 1) := by decide +kernel
theorem dX11_down_1 : decode cX11_down 1 = .ok (.lload_n 2, 1) := by decide +kernel
theorem dX11_down_2 : decode cX11_down 2 = .ok (.ldiv, 1) := by decide +kernel
theorem dX11_down_3 : decode cX11_down 3 = .ok (.lstore 4, 2) := by decide +kernel
theorem dX11_down_5 : decode cX11_down 5 = .ok (.lload_n 0, 1) := by decide +kernel
theorem dX11_down_6 : decode cX11_down 6 = .ok (.lload_n 2, 1) := by decide +kernel
theorem dX11_down_7 : decode cX11_down 7 = .ok (.lrem, 1) := by decide +kernel
theorem dX11_down_8 : decode cX11_down 8 = .ok (.lconst 0, 1) := by decide +kernel
theorem dX11_down_9 : decode cX11_down 9 = .ok (.lcmp, 1) := by decide +kernel
theorem dX11_down_10 : decode cX11_down 10 = .ok (.ifCond .eq 35, 3) := by decide +kernel
theorem dX11_down_13 : decode cX11_down 13 = .ok (.lload_n 0, 1) := by decide +kernel
theorem dX11_down_14 : decode cX11_down 14 = .ok (.lconst 0, 1) := by decide +kernel
theorem dX11_down_15 : decode cX11_down 15 = .ok (.lcmp, 1) := by decide +kernel
theorem dX11_down_16 : decode cX11_down 16 = .ok (.ifCond .ge 7, 3) := by decide +kernel
theorem dX11_down_19 : decode cX11_down 19 = .ok (.iconst 1, 1) := by decide +kernel
theorem dX11_down_20 : decode cX11_down 20 = .ok (.goto 4, 3) := by decide +kernel
theorem dX11_down_23 : decode cX11_down 23 = .ok (.iconst 0, 1) := by decide +kernel
theorem dX11_down_24 : decode cX11_down 24 = .ok (.lload_n 2, 1) := by decide +kernel
theorem dX11_down_25 : decode cX11_down 25 = .ok (.lconst 0, 1) := by decide +kernel
theorem dX11_down_26 : decode cX11_down 26 = .ok (.lcmp, 1) := by decide +kernel
theorem dX11_down_27 : decode cX11_down 27 = .ok (.ifCond .ge 7, 3) := by decide +kernel
theorem dX11_down_30 : decode cX11_down 30 = .ok (.iconst 1, 1) := by decide +kernel
theorem dX11_down_31 : decode cX11_down 31 = .ok (.goto 4, 3) := by decide +kernel
theorem dX11_down_34 : decode cX11_down 34 = .ok (.iconst 0, 1) := by decide +kernel
theorem dX11_down_35 : decode cX11_down 35 = .ok (.if_icmp .eq 10, 3) := by decide +kernel
theorem dX11_down_38 : decode cX11_down 38 = .ok (.lload 4, 2) := by decide +kernel
theorem dX11_down_40 : decode cX11_down 40 = .ok (.lconst 1, 1) := by decide +kernel
theorem dX11_down_41 : decode cX11_down 41 = .ok (.lsub, 1) := by decide +kernel
theorem dX11_down_42 : decode cX11_down 42 = .ok (.goto 5, 3) := by decide +kernel
theorem dX11_down_45 : decode cX11_down 45 = .ok (.lload 4, 2) := by decide +kernel
theorem dX11_down_47 : decode cX11_down 47 = .ok (.lreturn, 1) := by decide +kernel
theorem dX11_sineOf_0 : decode cX11_sineOf 0 = .ok (.lload_n 0, 1) := by decide +kernel
theorem dX11_sineOf_1 : decode cX11_sineOf 1 = .ok (.ldc2_w 49, 3) := by decide +kernel
theorem dX11_sineOf_4 : decode cX11_sineOf 4 = .ok (.land, 1) := by decide +kernel
theorem dX11_sineOf_5 : decode cX11_sineOf 5 = .ok (.lstore_n 2, 1) := by decide +kernel
theorem dX11_sineOf_6 : decode cX11_sineOf 6 = .ok (.lload_n 2, 1) := by decide +kernel
theorem dX11_sineOf_7 : decode cX11_sineOf 7 = .ok (.ldc2_w 51, 3) := by decide +kernel
theorem dX11_sineOf_10 : decode cX11_sineOf 10 = .ok (.lcmp, 1) := by decide +kernel
theorem dX11_sineOf_11 : decode cX11_sineOf 11 = .ok (.ifCond .lt 7, 3) := by decide +kernel
theorem dX11_sineOf_14 : decode cX11_sineOf 14 = .ok (.iconst 1, 1) := by decide +kernel
theorem dX11_sineOf_15 : decode cX11_sineOf 15 = .ok (.goto 4, 3) := by decide +kernel
theorem dX11_sineOf_18 : decode cX11_sineOf 18 = .ok (.iconst 0, 1) := by decide +kernel
theorem dX11_sineOf_19 : decode cX11_sineOf 19 = .ok (.istore 4, 2) := by decide +kernel
theorem dX11_sineOf_21 : decode cX11_sineOf 21 = .ok (.iload 4, 2) := by decide +kernel
theorem dX11_sineOf_23 : decode cX11_sineOf 23 = .ok (.ifCond .eq 11, 3) := by decide +kernel
theorem dX11_sineOf_26 : decode cX11_sineOf 26 = .ok (.lload_n 2, 1) := by decide +kernel
theorem dX11_sineOf_27 : decode cX11_sineOf 27 = .ok (.ldc2_w 51, 3) := by decide +kernel
theorem dX11_sineOf_30 : decode cX11_sineOf 30 = .ok (.lsub, 1) := by decide +kernel
theorem dX11_sineOf_31 : decode cX11_sineOf 31 = .ok (.goto 4, 3) := by decide +kernel
theorem dX11_sineOf_34 : decode cX11_sineOf 34 = .ok (.lload_n 2, 1) := by decide +kernel
theorem dX11_sineOf_35 : decode cX11_sineOf 35 = .ok (.lstore 5, 2) := by decide +kernel
theorem dX11_sineOf_37 : decode cX11_sineOf 37 = .ok (.lload 5, 2) := by decide +kernel
theorem dX11_sineOf_39 : decode cX11_sineOf 39 = .ok (.ldc2_w 51, 3) := by decide +kernel
theorem dX11_sineOf_42 : decode cX11_sineOf 42 = .ok (.lload 5, 2) := by decide +kernel
theorem dX11_sineOf_44 : decode cX11_sineOf 44 = .ok (.lsub, 1) := by decide +kernel
theorem dX11_sineOf_45 : decode cX11_sineOf 45 = .ok (.lmul, 1) := by decide +kernel
theorem dX11_sineOf_46 : decode cX11_sineOf 46 = .ok (.lstore 7, 2) := by decide +kernel
theorem dX11_sineOf_48 : decode cX11_sineOf 48 = .ok (.ldc2_w 53, 3) := by decide +kernel
theorem dX11_sineOf_51 : decode cX11_sineOf 51 = .ok (.lload 7, 2) := by decide +kernel
theorem dX11_sineOf_53 : decode cX11_sineOf 53 = .ok (.lmul, 1) := by decide +kernel
theorem dX11_sineOf_54 : decode cX11_sineOf 54 = .ok (.ldc2_w 55, 3) := by decide +kernel
theorem dX11_sineOf_57 : decode cX11_sineOf 57 = .ok (.lload 7, 2) := by decide +kernel
theorem dX11_sineOf_59 : decode cX11_sineOf 59 = .ok (.lsub, 1) := by decide +kernel
theorem dX11_sineOf_60 : decode cX11_sineOf 60 = .ok (.ldiv, 1) := by decide +kernel
theorem dX11_sineOf_61 : decode cX11_sineOf 61 = .ok (.lstore 9, 2) := by decide +kernel
theorem dX11_sineOf_63 : decode cX11_sineOf 63 = .ok (.iload 4, 2) := by decide +kernel
theorem dX11_sineOf_65 : decode cX11_sineOf 65 = .ok (.ifCond .eq 9, 3) := by decide +kernel
theorem dX11_sineOf_68 : decode cX11_sineOf 68 = .ok (.lload 9, 2) := by decide +kernel
theorem dX11_sineOf_70 : decode cX11_sineOf 70 = .ok (.lneg, 1) := by decide +kernel
theorem dX11_sineOf_71 : decode cX11_sineOf 71 = .ok (.goto 5, 3) := by decide +kernel
theorem dX11_sineOf_74 : decode cX11_sineOf 74 = .ok (.lload 9, 2) := by decide +kernel
theorem dX11_sineOf_76 : decode cX11_sineOf 76 = .ok (.lreturn, 1) := by decide +kernel
set_option maxRecDepth 20000 in
theorem ggX11_cosineOf_X11_sineOf : GoodIn wsX11_cosineOf wsX11_sineOf := goodIn_r _ [5, 6, 7, 8, 9] (by decide +kernel) (by decide +kernel)
set_option maxRecDepth 20000 in
theorem gX11_cosineOf_X11_sineOf : GoodIn wsX11_cosineOf (va_wsS RX11 59 yX11_sineOf wsX11_sineOf) := goodIn_app (goodIn_of _ (by decide +kernel)) ggX11_cosineOf_X11_sineOf
theorem dX11_cosineOf_0 : decode cX11_cosineOf 0 = .ok (.lload_n 0, 1) := by decide +kernel
theorem dX11_cosineOf_1 : decode cX11_cosineOf 1 = .ok (.ldc2_w 57, 3) := by decide +kernel
theorem dX11_cosineOf_4 : decode cX11_cosineOf 4 = .ok (.ladd, 1) := by decide +kernel
theorem dX11_cosineOf_5 : decode cX11_cosineOf 5 = .ok (.invokestatic 59, 3) := by decide +kernel
theorem dX11_cosineOf_8 : decode cX11_cosineOf 8 = .ok (.lreturn, 1) := by decide +kernel
set_option maxRecDepth 20000 in
theorem ggX11_times_X11_down : GoodIn wsX11_times wsX11_down := goodIn_r _ [5] (by decide +kernel) (by decide +kernel)
set_option maxRecDepth 20000 in
theorem gX11_times_X11_down : GoodIn wsX11_times (va_wsS RX11 63 yX11_down wsX11_down) := goodIn_app (goodIn_of _ (by decide +kernel)) ggX11_times_X11_down
theorem dX11_times_0 : decode cX11_times 0 = .ok (.lload_n 0, 1) := by decide +kernel
theorem dX11_times_1 : decode cX11_times 1 = .ok (.lload_n 2, 1) := by decide +kernel
theorem dX11_times_2 : decode cX11_times 2 = .ok (.lmul, 1) := by decide +kernel
theorem dX11_times_3 : decode cX11_times 3 = .ok (.ldc2_w 57, 3) := by decide +kernel
theorem dX11_times_6 : decode cX11_times 6 = .ok (.invokestatic 63, 3) := by decide +kernel
theorem dX11_times_9 : decode cX11_times 9 = .ok (.lreturn, 1) := by decide +kernel
set_option maxRecDepth 20000 in
theorem ggX11_sine_X11_sineOf : GoodIn wsX11_sine wsX11_sineOf := goodIn_r _ [4, 5, 6, 7, 8] (by decide +kernel) (by decide +kernel)
set_option maxRecDepth 20000 in
theorem gX11_sine_X11_sineOf : GoodIn wsX11_sine (va_wsS RX11 59 yX11_sineOf wsX11_sineOf) := goodIn_app (goodIn_of _ (by decide +kernel)) ggX11_sine_X11_sineOf
theorem dX11_sine_0 : decode cX11_sine 0 = .ok (.iload_n 1, 1) := by decide +kernel
theorem dX11_sine_1 : decode cX11_sine 1 = .ok (.i2l, 1) := by decide +kernel
theorem dX11_sine_2 : decode cX11_sine 2 = .ok (.invokestatic 59, 3) := by decide +kernel
theorem dX11_sine_5 : decode cX11_sine 5 = .ok (.l2i, 1) := by decide +kernel
theorem dX11_sine_6 : decode cX11_sine 6 = .ok (.ireturn, 1) := by decide +kernel
set_option maxRecDepth 20000 in
theorem ggX11_latitude_X11_isIn : GoodIn wsX11_latitude wsX11_isIn := goodIn_r _ [8] (by decide +kernel) (by decide +kernel)
set_option maxRecDepth 20000 in
theorem gX11_latitude_X11_isIn : GoodIn wsX11_latitude (va_wsS RX11 69 yX11_isIn wsX11_isIn) := goodIn_app (goodIn_of _ (by decide +kernel)) ggX11_latitude_X11_isIn
theorem dX11_latitude_0 : decode cX11_latitude 0 = .ok (.iload_n 1, 1) := by decide +kernel
theorem dX11_latitude_1 : decode cX11_latitude 1 = .ok (.i2l, 1) := by decide +kernel
theorem dX11_latitude_2 : decode cX11_latitude 2 = .ok (.ldc2_w 67, 3) := by decide +kernel
theorem dX11_latitude_5 : decode cX11_latitude 5 = .ok (.ldc2_w 57, 3) := by decide +kernel
theorem dX11_latitude_8 : decode cX11_latitude 8 = .ok (.invokestatic 69, 3) := by decide +kernel
theorem dX11_latitude_11 : decode cX11_latitude 11 = .ok (.ifCond .ne 6, 3) := by decide +kernel
theorem dX11_latitude_14 : decode cX11_latitude 14 = .ok (.ldc 73, 2) := by decide +kernel
theorem dX11_latitude_16 : decode cX11_latitude 16 = .ok (.ireturn, 1) := by decide +kernel
theorem dX11_latitude_17 : decode cX11_latitude 17 = .ok (.aload_n 0, 1) := by decide +kernel
theorem dX11_latitude_18 : decode cX11_latitude 18 = .ok (.getfield 19, 3) := by decide +kernel
theorem dX11_latitude_21 : decode cX11_latitude 21 = .ok (.istore_n 2, 1) := by decide +kernel
theorem dX11_latitude_22 : decode cX11_latitude 22 = .ok (.aload_n 0, 1) := by decide +kernel
theorem dX11_latitude_23 : decode cX11_latitude 23 = .ok (.iload_n 1, 1) := by decide +kernel
theorem dX11_latitude_24 : decode cX11_latitude 24 = .ok (.putfield 19, 3) := by decide +kernel
theorem dX11_latitude_27 : decode cX11_latitude 27 = .ok (.iload_n 2, 1) := by decide +kernel
theorem dX11_latitude_28 : decode cX11_latitude 28 = .ok (.ireturn, 1) := by decide +kernel
set_option maxRecDepth 20000 in
theorem ggX11_corrections_X11_isIn : GoodIn wsX11_corrections wsX11_isIn := goodIn_r _ [8] (by decide +kernel) (by decide +kernel)
set_option maxRecDepth 20000 in
theorem gX11_corrections_X11_isIn : GoodIn wsX11_corrections (va_wsS RX11 69 yX11_isIn wsX11_isIn) := goodIn_app (goodIn_of _ (by decide +kernel)) ggX11_corrections_X11_isIn
theorem dX11_corrections_0 : decode cX11_corrections 0 = .ok (.iload_n 1, 1) := by decide +kernel
theorem dX11_corrections_1 : decode cX11_corrections 1 = .ok (.i2l, 1) := by decide +kernel
theorem dX11_corrections_2 : decode cX11_corrections 2 = .ok (.lconst 0, 1) := by decide +kernel
theorem dX11_corrections_3 : decode cX11_corrections 3 = .ok (.ldc2_w 74, 3) := by decide +kernel
theorem dX11_corrections_6 : decode cX11_corrections 6 = .ok (.invokestatic 69, 3) := by decide +kernel
theorem dX11_corrections_9 : decode cX11_corrections 9 = .ok (.ifCond .ne 6, 3) := by decide +kernel
theorem dX11_corrections_12 : decode cX11_corrections 12 = .ok (.ldc 73, 2) := by decide +kernel
theorem dX11_corrections_14 : decode cX11_corrections 14 = .ok (.ireturn, 1) := by decide +kernel
theorem dX11_corrections_15 : decode cX11_corrections 15 = .ok (.aload_n 0, 1) := by decide +kernel
theorem dX11_corrections_16 : decode cX11_corrections 16 = .ok (.iload_n 1, 1) := by decide +kernel
theorem dX11_corrections_17 : decode cX11_corrections 17 = .ok (.putfield 76, 3) := by decide +kernel
theorem dX11_corrections_20 : decode cX11_corrections 20 = .ok (.iconst 0, 1) := by decide +kernel
theorem dX11_corrections_21 : decode cX11_corrections 21 = .ok (.istore_n 2, 1) := by decide +kernel
theorem dX11_corrections_22 : decode cX11_corrections 22 = .ok (.iload_n 2, 1) := by decide +kernel
theorem dX11_corrections_23 : decode cX11_corrections 23 = .ok (.sipush 366, 3) := by decide +kernel
theorem dX11_corrections_26 : decode cX11_corrections 26 = .ok (.if_icmp .ge 16, 3) := by decide +kernel
theorem dX11_corrections_29 : decode cX11_corrections 29 = .ok (.aload_n 0, 1) := by decide +kernel
theorem dX11_corrections_30 : decode cX11_corrections 30 = .ok (.getfield 23, 3) := by decide +kernel
theorem dX11_corrections_33 : decode cX11_corrections 33 = .ok (.iload_n 2, 1) := by decide +kernel
theorem dX11_corrections_34 : decode cX11_corrections 34 = .ok (.iconst 0, 1) := by decide +kernel
theorem dX11_corrections_35 : decode cX11_corrections 35 = .ok (.iastore, 1) := by decide +kernel
theorem dX11_corrections_36 : decode cX11_corrections 36 = .ok (.iinc 2 1, 3) := by decide +kernel
theorem dX11_corrections_39 : decode cX11_corrections 39 = .ok (.goto (-17), 3) := by decide +kernel
theorem dX11_corrections_42 : decode cX11_corrections 42 = .ok (.iload_n 1, 1) := by decide +kernel
theorem dX11_corrections_43 : decode cX11_corrections 43 = .ok (.ireturn, 1) := by decide +kernel
set_option maxRecDepth 20000 in
theorem ggX11_correct_X11_isIn : GoodIn wsX11_correct wsX11_isIn := goodIn_r _ [9] (by decide +kernel) (by decide +kernel)
set_option maxRecDepth 20000 in
theorem gX11_correct_X11_isIn : GoodIn wsX11_correct (va_wsS RX11 69 yX11_isIn wsX11_isIn) := goodIn_app (goodIn_of _ (by decide +kernel)) ggX11_correct_X11_isIn
theorem dX11_correct_0 : decode cX11_correct 0 = .ok (.iload_n 1, 1) := by decide +kernel
theorem dX11_correct_1 : decode cX11_correct 1 = .ok (.i2l, 1) := by decide +kernel
theorem dX11_correct_2 : decode cX11_correct 2 = .ok (.lconst 0, 1) := by decide +kernel
theorem dX11_correct_3 : decode cX11_correct 3 = .ok (.aload_n 0, 1) := by decide +kernel
theorem dX11_correct_4 : decode cX11_correct 4 = .ok (.getfield 76, 3) := by decide +kernel
theorem dX11_correct_7 : decode cX11_correct 7 = .ok (.iconst 1, 1) := by decide +kernel
theorem dX11_correct_8 : decode cX11_correct 8 = .ok (.isub, 1) := by decide +kernel
theorem dX11_correct_9 : decode cX11_correct 9 = .ok (.i2l, 1) := by decide +kernel
theorem dX11_correct_10 : decode cX11_correct 10 = .ok (.invokestatic 69, 3) := by decide +kernel
theorem dX11_correct_13 : decode cX11_correct 13 = .ok (.ifCond .eq 17, 3) := by decide +kernel
theorem dX11_correct_16 : decode cX11_correct 16 = .ok (.iload_n 2, 1) := by decide +kernel
theorem dX11_correct_17 : decode cX11_correct 17 = .ok (.i2l, 1) := by decide +kernel
theorem dX11_correct_18 : decode cX11_correct 18 = .ok (.ldc2_w 79, 3) := by decide +kernel
theorem dX11_correct_21 : decode cX11_correct 21 = .ok (.ldc2_w 81, 3) := by decide +kernel
theorem dX11_correct_24 : decode cX11_correct 24 = .ok (.invokestatic 69, 3) := by decide +kernel
theorem dX11_correct_27 : decode cX11_correct 27 = .ok (.ifCond .ne 6, 3) := by decide +kernel
theorem dX11_correct_30 : decode cX11_correct 30 = .ok (.ldc 73, 2) := by decide +kernel
theorem dX11_correct_32 : decode cX11_correct 32 = .ok (.ireturn, 1) := by decide +kernel
theorem dX11_correct_33 : decode cX11_correct 33 = .ok (.aload_n 0, 1) := by decide +kernel
theorem dX11_correct_34 : decode cX11_correct 34 = .ok (.getfield 23, 3) := by decide +kernel
theorem dX11_correct_37 : decode cX11_correct 37 = .ok (.iload_n 1, 1) := by decide +kernel
theorem dX11_correct_38 : decode cX11_correct 38 = .ok (.iaload, 1) := by decide +kernel
theorem dX11_correct_39 : decode cX11_correct 39 = .ok (.istore_n 3, 1) := by decide +kernel
theorem dX11_correct_40 : decode cX11_correct 40 = .ok (.aload_n 0, 1) := by decide +kernel
theorem dX11_correct_41 : decode cX11_correct 41 = .ok (.getfield 23, 3) := by decide +kernel
theorem dX11_correct_44 : decode cX11_correct 44 = .ok (.iload_n 1, 1) := by decide +kernel
theorem dX11_correct_45 : decode cX11_correct 45 = .ok (.iload_n 2, 1) := by decide +kernel
theorem dX11_correct_46 : decode cX11_correct 46 = .ok (.iastore, 1) := by decide +kernel
theorem dX11_correct_47 : decode cX11_correct 47 = .ok (.iload_n 3, 1) := by decide +kernel
theorem dX11_correct_48 : decode cX11_correct 48 = .ok (.ireturn, 1) := by decide +kernel
set_option maxRecDepth 20000 in
theorem ggX11_copy_X11_isIn : GoodIn wsX11_copy wsX11_isIn := goodIn_r _ [7] (by decide +kernel) (by decide +kernel)
set_option maxRecDepth 20000 in
theorem gX11_copy_X11_isIn : GoodIn wsX11_copy (va_wsS RX11 69 yX11_isIn wsX11_isIn) := goodIn_app (goodIn_of _ (by decide +kernel)) ggX11_copy_X11_isIn
theorem dX11_copy_0 : decode cX11_copy 0 = .ok (.iload_n 3, 1) := by decide +kernel
theorem dX11_copy_1 : decode cX11_copy 1 = .ok (.i2l, 1) := by decide +kernel
theorem dX11_copy_2 : decode cX11_copy 2 = .ok (.lconst 0, 1) := by decide +kernel
theorem dX11_copy_3 : decode cX11_copy 3 = .ok (.aload_n 0, 1) := by decide +kernel
theorem dX11_copy_4 : decode cX11_copy 4 = .ok (.getfield 76, 3) := by decide +kernel
theorem dX11_copy_7 : decode cX11_copy 7 = .ok (.i2l, 1) := by decide +kernel
theorem dX11_copy_8 : decode cX11_copy 8 = .ok (.invokestatic 69, 3) := by decide +kernel
theorem dX11_copy_11 : decode cX11_copy 11 = .ok (.ifCond .eq 35, 3) := by decide +kernel
theorem dX11_copy_14 : decode cX11_copy 14 = .ok (.iload_n 1, 1) := by decide +kernel
theorem dX11_copy_15 : decode cX11_copy 15 = .ok (.i2l, 1) := by decide +kernel
theorem dX11_copy_16 : decode cX11_copy 16 = .ok (.lconst 0, 1) := by decide +kernel
theorem dX11_copy_17 : decode cX11_copy 17 = .ok (.aload_n 0, 1) := by decide +kernel
theorem dX11_copy_18 : decode cX11_copy 18 = .ok (.getfield 76, 3) := by decide +kernel
theorem dX11_copy_21 : decode cX11_copy 21 = .ok (.iload_n 3, 1) := by decide +kernel
theorem dX11_copy_22 : decode cX11_copy 22 = .ok (.isub, 1) := by decide +kernel
theorem dX11_copy_23 : decode cX11_copy 23 = .ok (.i2l, 1) := by decide +kernel
theorem dX11_copy_24 : decode cX11_copy 24 = .ok (.invokestatic 69, 3) := by decide +kernel
theorem dX11_copy_27 : decode cX11_copy 27 = .ok (.ifCond .eq 19, 3) := by decide +kernel
theorem dX11_copy_30 : decode cX11_copy 30 = .ok (.iload_n 2, 1) := by decide +kernel
theorem dX11_copy_31 : decode cX11_copy 31 = .ok (.i2l, 1) := by decide +kernel
theorem dX11_copy_32 : decode cX11_copy 32 = .ok (.lconst 0, 1) := by decide +kernel
theorem dX11_copy_33 : decode cX11_copy 33 = .ok (.aload_n 0, 1) := by decide +kernel
theorem dX11_copy_34 : decode cX11_copy 34 = .ok (.getfield 76, 3) := by decide +kernel
theorem dX11_copy_37 : decode cX11_copy 37 = .ok (.iload_n 3, 1) := by decide +kernel
theorem dX11_copy_38 : decode cX11_copy 38 = .ok (.isub, 1) := by decide +kernel
theorem dX11_copy_39 : decode cX11_copy 39 = .ok (.i2l, 1) := by decide +kernel
theorem dX11_copy_40 : decode cX11_copy 40 = .ok (.invokestatic 69, 3) := by decide +kernel
theorem dX11_copy_43 : decode cX11_copy 43 = .ok (.ifCond .ne 6, 3) := by decide +kernel
theorem dX11_copy_46 : decode cX11_copy 46 = .ok (.ldc 73, 2) := by decide +kernel
theorem dX11_copy_48 : decode cX11_copy 48 = .ok (.ireturn, 1) := by decide +kernel
theorem dX11_copy_49 : decode cX11_copy 49 = .ok (.iconst 0, 1) := by decide +kernel
theorem dX11_copy_50 : decode cX11_copy 50 = .ok (.istore 4, 2) := by decide +kernel
theorem dX11_copy_52 : decode cX11_copy 52 = .ok (.iload 4, 2) := by decide +kernel
theorem dX11_copy_54 : decode cX11_copy 54 = .ok (.iload_n 3, 1) := by decide +kernel
theorem dX11_copy_55 : decode cX11_copy 55 = .ok (.if_icmp .ge 45, 3) := by decide +kernel
theorem dX11_copy_58 : decode cX11_copy 58 = .ok (.iload_n 2, 1) := by decide +kernel
theorem dX11_copy_59 : decode cX11_copy 59 = .ok (.iload_n 1, 1) := by decide +kernel
theorem dX11_copy_60 : decode cX11_copy 60 = .ok (.if_icmp .le 12, 3) := by decide +kernel
theorem dX11_copy_63 : decode cX11_copy 63 = .ok (.iload_n 3, 1) := by decide +kernel
theorem dX11_copy_64 : decode cX11_copy 64 = .ok (.iconst 1, 1) := by decide +kernel
theorem dX11_copy_65 : decode cX11_copy 65 = .ok (.isub, 1) := by decide +kernel
theorem dX11_copy_66 : decode cX11_copy 66 = .ok (.iload 4, 2) := by decide +kernel
theorem dX11_copy_68 : decode cX11_copy 68 = .ok (.isub, 1) := by decide +kernel
theorem dX11_copy_69 : decode cX11_copy 69 = .ok (.goto 5, 3) := by decide +kernel
theorem dX11_copy_72 : decode cX11_copy 72 = .ok (.iload 4, 2) := by decide +kernel
theorem dX11_copy_74 : decode cX11_copy 74 = .ok (.istore 5, 2) := by decide +kernel
theorem dX11_copy_76 : decode cX11_copy 76 = .ok (.aload_n 0, 1) := by decide +kernel
theorem dX11_copy_77 : decode cX11_copy 77 = .ok (.getfield 23, 3) := by decide +kernel
theorem dX11_copy_80 : decode cX11_copy 80 = .ok (.iload_n 2, 1) := by decide +kernel
theorem dX11_copy_81 : decode cX11_copy 81 = .ok (.iload 5, 2) := by decide +kernel
theorem dX11_copy_83 : decode cX11_copy 83 = .ok (.iadd, 1) := by decide +kernel
theorem dX11_copy_84 : decode cX11_copy 84 = .ok (.aload_n 0, 1) := by decide +kernel
theorem dX11_copy_85 : decode cX11_copy 85 = .ok (.getfield 23, 3) := by decide +kernel
theorem dX11_copy_88 : decode cX11_copy 88 = .ok (.iload_n 1, 1) := by decide +kernel
theorem dX11_copy_89 : decode cX11_copy 89 = .ok (.iload 5, 2) := by decide +kernel
theorem dX11_copy_91 : decode cX11_copy 91 = .ok (.iadd, 1) := by decide +kernel
theorem dX11_copy_92 : decode cX11_copy 92 = .ok (.iaload, 1) := by decide +kernel
theorem dX11_copy_93 : decode cX11_copy 93 = .ok (.iastore, 1) := by decide +kernel
theorem dX11_copy_94 : decode cX11_copy 94 = .ok (.iinc 4 1, 3) := by decide +kernel
theorem dX11_copy_97 : decode cX11_copy 97 = .ok (.goto (-45), 3) := by decide +kernel
theorem dX11_copy_100 : decode cX11_copy 100 = .ok (.iconst 0, 1) := by decide +kernel
theorem dX11_copy_101 : decode cX11_copy 101 = .ok (.ireturn, 1) := by decide +kernel
set_option maxRecDepth 20000 in
theorem ggX11_isTime_X11_isIn : GoodIn wsX11_isTime wsX11_isIn := goodIn_r _ [6] (by decide +kernel) (by decide +kernel)
set_option maxRecDepth 20000 in
theorem gX11_isTime_X11_isIn : GoodIn wsX11_isTime (va_wsS RX11 69 yX11_isIn wsX11_isIn) := goodIn_app (goodIn_of _ (by decide +kernel)) ggX11_isTime_X11_isIn
theorem dX11_isTime_0 : decode cX11_isTime 0 = .ok (.iload_n 0, 1) := by decide +kernel
theorem dX11_isTime_1 : decode cX11_isTime 1 = .ok (.i2l, 1) := by decide +kernel
theorem dX11_isTime_2 : decode cX11_isTime 2 = .ok (.lconst 0, 1) := by decide +kernel
theorem dX11_isTime_3 : decode cX11_isTime 3 = .ok (.ldc2_w 83, 3) := by decide +kernel
theorem dX11_isTime_6 : decode cX11_isTime 6 = .ok (.invokestatic 69, 3) := by decide +kernel
theorem dX11_isTime_9 : decode cX11_isTime 9 = .ok (.ifCond .eq 19, 3) := by decide +kernel
theorem dX11_isTime_12 : decode cX11_isTime 12 = .ok (.iload_n 1, 1) := by decide +kernel
theorem dX11_isTime_13 : decode cX11_isTime 13 = .ok (.i2l, 1) := by decide +kernel
theorem dX11_isTime_14 : decode cX11_isTime 14 = .ok (.lconst 0, 1) := by decide +kernel
theorem dX11_isTime_15 : decode cX11_isTime 15 = .ok (.ldc2_w 85, 3) := by decide +kernel
theorem dX11_isTime_18 : decode cX11_isTime 18 = .ok (.invokestatic 69, 3) := by decide +kernel
theorem dX11_isTime_21 : decode cX11_isTime 21 = .ok (.ifCond .eq 7, 3) := by decide +kernel
theorem dX11_isTime_24 : decode cX11_isTime 24 = .ok (.iconst 1, 1) := by decide +kernel
theorem dX11_isTime_25 : decode cX11_isTime 25 = .ok (.goto 4, 3) := by decide +kernel
theorem dX11_isTime_28 : decode cX11_isTime 28 = .ok (.iconst 0, 1) := by decide +kernel
theorem dX11_isTime_29 : decode cX11_isTime 29 = .ok (.ireturn, 1) := by decide +kernel
theorem dX11_correctionOf_0 : decode cX11_correctionOf 0 = .ok (.iload_n 1, 1) := by decide +kernel
theorem dX11_correctionOf_1 : decode cX11_correctionOf 1 = .ok (.aload_n 0, 1) := by decide +kernel
theorem dX11_correctionOf_2 : decode cX11_correctionOf 2 = .ok (.getfield 76, 3) := by decide +kernel
theorem dX11_correctionOf_5 : decode cX11_correctionOf 5 = .ok (.if_icmp .ge 12, 3) := by decide +kernel
theorem dX11_correctionOf_8 : decode cX11_correctionOf 8 = .ok (.aload_n 0, 1) := by decide +kernel
theorem dX11_correctionOf_9 : decode cX11_correctionOf 9 = .ok (.getfield 23, 3) := by decide +kernel
theorem dX11_correctionOf_12 : decode cX11_correctionOf 12 = .ok (.iload_n 1, 1) := by decide +kernel
theorem dX11_correctionOf_13 : decode cX11_correctionOf 13 = .ok (.iaload, 1) := by decide +kernel
theorem dX11_correctionOf_14 : decode cX11_correctionOf 14 = .ok (.goto 4, 3) := by decide +kernel
theorem dX11_correctionOf_17 : decode cX11_correctionOf 17 = .ok (.iconst 0, 1) := by decide +kernel
theorem dX11_correctionOf_18 : decode cX11_correctionOf 18 = .ok (.ireturn, 1) := by decide +kernel
set_option maxRecDepth 20000 in
theorem ggX11_slopeOf_X11_down : GoodIn wsX11_slopeOf wsX11_down := goodIn_r _ [7] (by decide +kernel) (by decide +kernel)
set_option maxRecDepth 20000 in
theorem gX11_slopeOf_X11_down : GoodIn wsX11_slopeOf (va_wsS RX11 63 yX11_down wsX11_down) := goodIn_app (goodIn_of _ (by decide +kernel)) ggX11_slopeOf_X11_down
set_option maxRecDepth 20000 in
theorem ggX11_slopeOf_X11_sineOf : GoodIn wsX11_slopeOf wsX11_sineOf := goodIn_r _ [10, 11, 12, 2, 13] (by decide +kernel) (by decide +kernel)
set_option maxRecDepth 20000 in
theorem gX11_slopeOf_X11_sineOf : GoodIn wsX11_slopeOf (va_wsS RX11 59 yX11_sineOf wsX11_sineOf) := goodIn_app (goodIn_of _ (by decide +kernel)) ggX11_slopeOf_X11_sineOf
set_option maxRecDepth 20000 in
theorem ggX11_slopeOf_X11_times : GoodIn wsX11_slopeOf wsX11_times := goodIn_r _ [16, 17, 4, 5, 6, 7] (by decide +kernel) (by decide +kernel)
set_option maxRecDepth 20000 in
theorem gX11_slopeOf_X11_times : GoodIn wsX11_slopeOf (va_wsS RX11 89 yX11_times wsX11_times) := goodIn_app (goodIn_of _ (by decide +kernel)) ggX11_slopeOf_X11_times
theorem dX11_slopeOf_0 : decode cX11_slopeOf 0 = .ok (.ldc2_w 87, 3) := by decide +kernel
theorem dX11_slopeOf_3 : decode cX11_slopeOf 3 = .ok (.ldc2_w 53, 3) := by decide +kernel
theorem dX11_slopeOf_6 : decode cX11_slopeOf 6 = .ok (.iload_n 0, 1) := by decide +kernel
theorem dX11_slopeOf_7 : decode cX11_slopeOf 7 = .ok (.bipush 80, 2) := by decide +kernel
theorem dX11_slopeOf_9 : decode cX11_slopeOf 9 = .ok (.isub, 1) := by decide +kernel
theorem dX11_slopeOf_10 : decode cX11_slopeOf 10 = .ok (.i2l, 1) := by decide +kernel
theorem dX11_slopeOf_11 : decode cX11_slopeOf 11 = .ok (.lmul, 1) := by decide +kernel
theorem dX11_slopeOf_12 : decode cX11_slopeOf 12 = .ok (.ldc2_w 74, 3) := by decide +kernel
theorem dX11_slopeOf_15 : decode cX11_slopeOf 15 = .ok (.invokestatic 63, 3) := by decide +kernel
theorem dX11_slopeOf_18 : decode cX11_slopeOf 18 = .ok (.invokestatic 59, 3) := by decide +kernel
theorem dX11_slopeOf_21 : decode cX11_slopeOf 21 = .ok (.invokestatic 89, 3) := by decide +kernel
theorem dX11_slopeOf_24 : decode cX11_slopeOf 24 = .ok (.lreturn, 1) := by decide +kernel
set_option maxRecDepth 20000 in
theorem ggX11_turnOf_X11_correctionOf : GoodIn wsX11_turnOf wsX11_correctionOf := goodIn_r _ [7, 8, 9, 13, 14, 15, 16, 17, 18, 19, 20, 21, 22, 23, 24, 25, 26, 27, 28, 29, 30, 31, 32, 33, 34, 35] (by decide +kernel) (by decide +kernel)
set_option maxRecDepth 20000 in
theorem gX11_turnOf_X11_correctionOf : GoodIn wsX11_turnOf (wsV RX11 94 RX11 yX11_correctionOf wsX11_correctionOf) := goodIn_app (goodIn_of _ (by decide +kernel)) ggX11_turnOf_X11_correctionOf
set_option maxRecDepth 20000 in
theorem ggX11_turnOf_X11_down : GoodIn wsX11_turnOf wsX11_down := goodIn_r _ [12] (by decide +kernel) (by decide +kernel)
set_option maxRecDepth 20000 in
theorem gX11_turnOf_X11_down : GoodIn wsX11_turnOf (va_wsS RX11 63 yX11_down wsX11_down) := goodIn_app (goodIn_of _ (by decide +kernel)) ggX11_turnOf_X11_down
theorem dX11_turnOf_0 : decode cX11_turnOf 0 = .ok (.ldc2_w 92, 3) := by decide +kernel
theorem dX11_turnOf_3 : decode cX11_turnOf 3 = .ok (.iload_n 2, 1) := by decide +kernel
theorem dX11_turnOf_4 : decode cX11_turnOf 4 = .ok (.aload_n 0, 1) := by decide +kernel
theorem dX11_turnOf_5 : decode cX11_turnOf 5 = .ok (.iload_n 1, 1) := by decide +kernel
theorem dX11_turnOf_6 : decode cX11_turnOf 6 = .ok (.invokevirtual 94, 3) := by decide +kernel
theorem dX11_turnOf_9 : decode cX11_turnOf 9 = .ok (.iadd, 1) := by decide +kernel
theorem dX11_turnOf_10 : decode cX11_turnOf 10 = .ok (.sipush 720, 3) := by decide +kernel
theorem dX11_turnOf_13 : decode cX11_turnOf 13 = .ok (.isub, 1) := by decide +kernel
theorem dX11_turnOf_14 : decode cX11_turnOf 14 = .ok (.i2l, 1) := by decide +kernel
theorem dX11_turnOf_15 : decode cX11_turnOf 15 = .ok (.lmul, 1) := by decide +kernel
theorem dX11_turnOf_16 : decode cX11_turnOf 16 = .ok (.ldc2_w 98, 3) := by decide +kernel
theorem dX11_turnOf_19 : decode cX11_turnOf 19 = .ok (.invokestatic 63, 3) := by decide +kernel
theorem dX11_turnOf_22 : decode cX11_turnOf 22 = .ok (.lreturn, 1) := by decide +kernel
set_option maxRecDepth 20000 in
theorem ggX11_look_X11_slopeOf : GoodIn wsX11_look wsX11_slopeOf := goodIn_r _ [8, 9, 10, 11, 12, 13, 7, 14, 15, 16, 17, 18, 19, 20, 21, 22, 23, 24] (by decide +kernel) (by decide +kernel)
set_option maxRecDepth 20000 in
theorem gX11_look_X11_slopeOf : GoodIn wsX11_look (va_wsS RX11 100 yX11_slopeOf wsX11_slopeOf) := goodIn_app (goodIn_of _ (by decide +kernel)) ggX11_look_X11_slopeOf
set_option maxRecDepth 20000 in
theorem ggX11_look_X11_turnOf : GoodIn wsX11_look wsX11_turnOf := goodIn_r _ [28, 29, 30, 31, 32, 33, 7, 34, 35, 36, 12, 13, 14, 40, 41, 42, 43, 44, 45, 46, 47, 48, 49, 50, 51, 52, 53, 54, 55, 56, 57, 58, 59, 60, 61, 62] (by decide +kernel) (by decide +kernel)
set_option maxRecDepth 20000 in
theorem gX11_look_X11_turnOf : GoodIn wsX11_look (wsV RX11 104 RX11 yX11_turnOf wsX11_turnOf) := goodIn_app (goodIn_of _ (by decide +kernel)) ggX11_look_X11_turnOf
set_option maxRecDepth 20000 in
theorem ggX11_look_X11_sineOf : GoodIn wsX11_look wsX11_sineOf := goodIn_r _ [17, 18, 19, 10, 20] (by decide +kernel) (by decide +kernel)
set_option maxRecDepth 20000 in
theorem gX11_look_X11_sineOf : GoodIn wsX11_look (va_wsS RX11 59 yX11_sineOf wsX11_sineOf) := goodIn_app (goodIn_of _ (by decide +kernel)) ggX11_look_X11_sineOf
set_option maxRecDepth 20000 in
theorem ggX11_look_X11_cosineOf : GoodIn wsX11_look wsX11_cosineOf := goodIn_r _ [39, 24, 15, 16, 7, 17, 18, 19, 10, 20] (by decide +kernel) (by decide +kernel)
set_option maxRecDepth 20000 in
theorem gX11_look_X11_cosineOf : GoodIn wsX11_look (va_wsS RX11 108 yX11_cosineOf wsX11_cosineOf) := goodIn_app (goodIn_of _ (by decide +kernel)) ggX11_look_X11_cosineOf
set_option maxRecDepth 20000 in
theorem ggX11_look_X11_times : GoodIn wsX11_look wsX11_times := goodIn_r _ [23, 24, 12, 13, 7, 14] (by decide +kernel) (by decide +kernel)
set_option maxRecDepth 20000 in
theorem gX11_look_X11_times : GoodIn wsX11_look (va_wsS RX11 89 yX11_times wsX11_times) := goodIn_app (goodIn_of _ (by decide +kernel)) ggX11_look_X11_times
theorem dX11_look_0 : decode cX11_look 0 = .ok (.iload_n 1, 1) := by decide +kernel
theorem dX11_look_1 : decode cX11_look 1 = .ok (.invokestatic 100, 3) := by decide +kernel
theorem dX11_look_4 : decode cX11_look 4 = .ok (.lstore_n 3, 1) := by decide +kernel
theorem dX11_look_5 : decode cX11_look 5 = .ok (.aload_n 0, 1) := by decide +kernel
theorem dX11_look_6 : decode cX11_look 6 = .ok (.iload_n 1, 1) := by decide +kernel
theorem dX11_look_7 : decode cX11_look 7 = .ok (.iload_n 2, 1) := by decide +kernel
theorem dX11_look_8 : decode cX11_look 8 = .ok (.invokevirtual 104, 3) := by decide +kernel
theorem dX11_look_11 : decode cX11_look 11 = .ok (.lstore 5, 2) := by decide +kernel
theorem dX11_look_13 : decode cX11_look 13 = .ok (.aload_n 0, 1) := by decide +kernel
theorem dX11_look_14 : decode cX11_look 14 = .ok (.getfield 19, 3) := by decide +kernel
theorem dX11_look_17 : decode cX11_look 17 = .ok (.i2l, 1) := by decide +kernel
theorem dX11_look_18 : decode cX11_look 18 = .ok (.invokestatic 59, 3) := by decide +kernel
theorem dX11_look_21 : decode cX11_look 21 = .ok (.lstore 7, 2) := by decide +kernel
theorem dX11_look_23 : decode cX11_look 23 = .ok (.aload_n 0, 1) := by decide +kernel
theorem dX11_look_24 : decode cX11_look 24 = .ok (.getfield 19, 3) := by decide +kernel
theorem dX11_look_27 : decode cX11_look 27 = .ok (.i2l, 1) := by decide +kernel
theorem dX11_look_28 : decode cX11_look 28 = .ok (.invokestatic 108, 3) := by decide +kernel
theorem dX11_look_31 : decode cX11_look 31 = .ok (.lstore 9, 2) := by decide +kernel
theorem dX11_look_33 : decode cX11_look 33 = .ok (.lload_n 3, 1) := by decide +kernel
theorem dX11_look_34 : decode cX11_look 34 = .ok (.invokestatic 59, 3) := by decide +kernel
theorem dX11_look_37 : decode cX11_look 37 = .ok (.lstore 11, 2) := by decide +kernel
theorem dX11_look_39 : decode cX11_look 39 = .ok (.lload_n 3, 1) := by decide +kernel
theorem dX11_look_40 : decode cX11_look 40 = .ok (.invokestatic 108, 3) := by decide +kernel
theorem dX11_look_43 : decode cX11_look 43 = .ok (.lstore 13, 2) := by decide +kernel
theorem dX11_look_45 : decode cX11_look 45 = .ok (.lload 5, 2) := by decide +kernel
theorem dX11_look_47 : decode cX11_look 47 = .ok (.invokestatic 59, 3) := by decide +kernel
theorem dX11_look_50 : decode cX11_look 50 = .ok (.lstore 15, 2) := by decide +kernel
theorem dX11_look_52 : decode cX11_look 52 = .ok (.lload 5, 2) := by decide +kernel
theorem dX11_look_54 : decode cX11_look 54 = .ok (.invokestatic 108, 3) := by decide +kernel
theorem dX11_look_57 : decode cX11_look 57 = .ok (.lstore 17, 2) := by decide +kernel
theorem dX11_look_59 : decode cX11_look 59 = .ok (.aload_n 0, 1) := by decide +kernel
theorem dX11_look_60 : decode cX11_look 60 = .ok (.lload 13, 2) := by decide +kernel
theorem dX11_look_62 : decode cX11_look 62 = .ok (.lload 15, 2) := by decide +kernel
theorem dX11_look_64 : decode cX11_look 64 = .ok (.invokestatic 89, 3) := by decide +kernel
theorem dX11_look_67 : decode cX11_look 67 = .ok (.lneg, 1) := by decide +kernel
theorem dX11_look_68 : decode cX11_look 68 = .ok (.putfield 111, 3) := by decide +kernel
theorem dX11_look_71 : decode cX11_look 71 = .ok (.aload_n 0, 1) := by decide +kernel
theorem dX11_look_72 : decode cX11_look 72 = .ok (.lload 9, 2) := by decide +kernel
theorem dX11_look_74 : decode cX11_look 74 = .ok (.lload 11, 2) := by decide +kernel
theorem dX11_look_76 : decode cX11_look 76 = .ok (.invokestatic 89, 3) := by decide +kernel
theorem dX11_look_79 : decode cX11_look 79 = .ok (.lload 7, 2) := by decide +kernel
theorem dX11_look_81 : decode cX11_look 81 = .ok (.lload 13, 2) := by decide +kernel
theorem dX11_look_83 : decode cX11_look 83 = .ok (.invokestatic 89, 3) := by decide +kernel
theorem dX11_look_86 : decode cX11_look 86 = .ok (.lload 17, 2) := by decide +kernel
theorem dX11_look_88 : decode cX11_look 88 = .ok (.invokestatic 89, 3) := by decide +kernel
theorem dX11_look_91 : decode cX11_look 91 = .ok (.lsub, 1) := by decide +kernel
theorem dX11_look_92 : decode cX11_look 92 = .ok (.putfield 115, 3) := by decide +kernel
theorem dX11_look_95 : decode cX11_look 95 = .ok (.aload_n 0, 1) := by decide +kernel
theorem dX11_look_96 : decode cX11_look 96 = .ok (.lload 7, 2) := by decide +kernel
theorem dX11_look_98 : decode cX11_look 98 = .ok (.lload 11, 2) := by decide +kernel
theorem dX11_look_100 : decode cX11_look 100 = .ok (.invokestatic 89, 3) := by decide +kernel
theorem dX11_look_103 : decode cX11_look 103 = .ok (.lload 9, 2) := by decide +kernel
theorem dX11_look_105 : decode cX11_look 105 = .ok (.lload 13, 2) := by decide +kernel
theorem dX11_look_107 : decode cX11_look 107 = .ok (.invokestatic 89, 3) := by decide +kernel
theorem dX11_look_110 : decode cX11_look 110 = .ok (.lload 17, 2) := by decide +kernel
theorem dX11_look_112 : decode cX11_look 112 = .ok (.invokestatic 89, 3) := by decide +kernel
theorem dX11_look_115 : decode cX11_look 115 = .ok (.ladd, 1) := by decide +kernel
theorem dX11_look_116 : decode cX11_look 116 = .ok (.putfield 118, 3) := by decide +kernel
theorem dX11_look_119 : decode cX11_look 119 = .ok (.return_, 1) := by decide +kernel
set_option maxRecDepth 20000 in
theorem ggX11_sun_X11_isTime : GoodIn wsX11_sun wsX11_isTime := goodIn_r _ [9, 10, 11, 12, 13, 8, 14] (by decide +kernel) (by decide +kernel)
set_option maxRecDepth 20000 in
theorem gX11_sun_X11_isTime : GoodIn wsX11_sun (va_wsS RX11 121 yX11_isTime wsX11_isTime) := goodIn_app (goodIn_of _ (by decide +kernel)) ggX11_sun_X11_isTime
set_option maxRecDepth 20000 in
theorem ggX11_sun_X11_isIn : GoodIn wsX11_sun wsX11_isIn := goodIn_r _ [14] (by decide +kernel) (by decide +kernel)
set_option maxRecDepth 20000 in
theorem gX11_sun_X11_isIn : GoodIn wsX11_sun (va_wsS RX11 69 yX11_isIn wsX11_isIn) := goodIn_app (goodIn_of _ (by decide +kernel)) ggX11_sun_X11_isIn
set_option maxRecDepth 20000 in
theorem ggX11_sun_X11_look : GoodIn wsX11_sun wsX11_look := goodIn_r _ [18, 19, 3, 4, 5, 20, 21, 8, 22, 23, 24, 25, 26, 27, 28, 29, 30, 31, 32, 33, 34, 35, 36, 37, 38, 39, 40, 41, 42, 43, 44, 45, 46, 47, 48, 49, 50, 51, 52, 53, 54, 55, 56, 57, 58, 59, 60, 61, 62, 63, 64, 65, 66, 67, 68, 69, 70, 71, 72, 73, 74, 75, 76] (by decide +kernel) (by decide +kernel)
set_option maxRecDepth 20000 in
theorem gX11_sun_X11_look : GoodIn wsX11_sun (wsV RX11 127 RX11 yX11_look wsX11_look) := goodIn_app (goodIn_of _ (by decide +kernel)) ggX11_sun_X11_look
set_option maxRecDepth 20000 in
theorem ggX11_sun_X11_slopeOf : GoodIn wsX11_sun wsX11_slopeOf := goodIn_r _ [22, 23, 24, 25, 26, 27, 8, 28, 29, 30, 31, 32, 33, 34, 35, 36, 37, 38] (by decide +kernel) (by decide +kernel)
set_option maxRecDepth 20000 in
theorem gX11_sun_X11_slopeOf : GoodIn wsX11_sun (va_wsS RX11 100 yX11_slopeOf wsX11_slopeOf) := goodIn_app (goodIn_of _ (by decide +kernel)) ggX11_sun_X11_slopeOf
set_option maxRecDepth 20000 in
theorem ggX11_sun_X11_turnOf : GoodIn wsX11_sun wsX11_turnOf := goodIn_r _ [42, 43, 44, 45, 46, 47, 8, 48, 49, 50, 26, 27, 28, 54, 55, 56, 57, 58, 59, 60, 61, 62, 63, 64, 65, 66, 67, 68, 69, 70, 71, 72, 73, 74, 75, 76] (by decide +kernel) (by decide +kernel)
set_option maxRecDepth 20000 in
theorem gX11_sun_X11_turnOf : GoodIn wsX11_sun (wsV RX11 104 RX11 yX11_turnOf wsX11_turnOf) := goodIn_app (goodIn_of _ (by decide +kernel)) ggX11_sun_X11_turnOf
set_option maxRecDepth 20000 in
theorem ggX11_sun_X11_correctionOf : GoodIn wsX11_sun wsX11_correctionOf := goodIn_r _ [48, 49, 50, 54, 55, 56, 57, 58, 59, 60, 61, 62, 63, 64, 65, 66, 67, 68, 69, 70, 71, 72, 73, 74, 75, 76] (by decide +kernel) (by decide +kernel)
set_option maxRecDepth 20000 in
theorem gX11_sun_X11_correctionOf : GoodIn wsX11_sun (wsV RX11 94 RX11 yX11_correctionOf wsX11_correctionOf) := goodIn_app (goodIn_of _ (by decide +kernel)) ggX11_sun_X11_correctionOf
theorem dX11_sun_0 : decode cX11_sun 0 = .ok (.iload_n 1, 1) := by decide +kernel
theorem dX11_sun_1 : decode cX11_sun 1 = .ok (.iload_n 2, 1) := by decide +kernel
theorem dX11_sun_2 : decode cX11_sun 2 = .ok (.invokestatic 121, 3) := by decide +kernel
theorem dX11_sun_5 : decode cX11_sun 5 = .ok (.ifCond .eq 15, 3) := by decide +kernel
theorem dX11_sun_8 : decode cX11_sun 8 = .ok (.iload_n 3, 1) := by decide +kernel
theorem dX11_sun_9 : decode cX11_sun 9 = .ok (.i2l, 1) := by decide +kernel
theorem dX11_sun_10 : decode cX11_sun 10 = .ok (.lconst 0, 1) := by decide +kernel
theorem dX11_sun_11 : decode cX11_sun 11 = .ok (.ldc2_w 125, 3) := by decide +kernel
theorem dX11_sun_14 : decode cX11_sun 14 = .ok (.invokestatic 69, 3) := by decide +kernel
theorem dX11_sun_17 : decode cX11_sun 17 = .ok (.ifCond .ne 6, 3) := by decide +kernel
theorem dX11_sun_20 : decode cX11_sun 20 = .ok (.ldc 73, 2) := by decide +kernel
theorem dX11_sun_22 : decode cX11_sun 22 = .ok (.ireturn, 1) := by decide +kernel
theorem dX11_sun_23 : decode cX11_sun 23 = .ok (.aload_n 0, 1) := by decide +kernel
theorem dX11_sun_24 : decode cX11_sun 24 = .ok (.iload_n 1, 1) := by decide +kernel
theorem dX11_sun_25 : decode cX11_sun 25 = .ok (.iload_n 2, 1) := by decide +kernel
theorem dX11_sun_26 : decode cX11_sun 26 = .ok (.invokevirtual 127, 3) := by decide +kernel
theorem dX11_sun_29 : decode cX11_sun 29 = .ok (.iload_n 3, 1) := by decide +kernel
theorem dX11_sun_30 : decode cX11_sun 30 = .ok (.ifCond .ne 10, 3) := by decide +kernel
theorem dX11_sun_33 : decode cX11_sun 33 = .ok (.aload_n 0, 1) := by decide +kernel
theorem dX11_sun_34 : decode cX11_sun 34 = .ok (.getfield 111, 3) := by decide +kernel
theorem dX11_sun_37 : decode cX11_sun 37 = .ok (.goto 59, 3) := by decide +kernel
theorem dX11_sun_40 : decode cX11_sun 40 = .ok (.iload_n 3, 1) := by decide +kernel
theorem dX11_sun_41 : decode cX11_sun 41 = .ok (.iconst 1, 1) := by decide +kernel
theorem dX11_sun_42 : decode cX11_sun 42 = .ok (.if_icmp .ne 10, 3) := by decide +kernel
theorem dX11_sun_45 : decode cX11_sun 45 = .ok (.aload_n 0, 1) := by decide +kernel
theorem dX11_sun_46 : decode cX11_sun 46 = .ok (.getfield 115, 3) := by decide +kernel
theorem dX11_sun_49 : decode cX11_sun 49 = .ok (.goto 47, 3) := by decide +kernel
theorem dX11_sun_52 : decode cX11_sun 52 = .ok (.iload_n 3, 1) := by decide +kernel
theorem dX11_sun_53 : decode cX11_sun 53 = .ok (.iconst 2, 1) := by decide +kernel
theorem dX11_sun_54 : decode cX11_sun 54 = .ok (.if_icmp .ne 10, 3) := by decide +kernel
theorem dX11_sun_57 : decode cX11_sun 57 = .ok (.aload_n 0, 1) := by decide +kernel
theorem dX11_sun_58 : decode cX11_sun 58 = .ok (.getfield 118, 3) := by decide +kernel
theorem dX11_sun_61 : decode cX11_sun 61 = .ok (.goto 35, 3) := by decide +kernel
theorem dX11_sun_64 : decode cX11_sun 64 = .ok (.iload_n 3, 1) := by decide +kernel
theorem dX11_sun_65 : decode cX11_sun 65 = .ok (.iconst 3, 1) := by decide +kernel
theorem dX11_sun_66 : decode cX11_sun 66 = .ok (.if_icmp .ne 10, 3) := by decide +kernel
theorem dX11_sun_69 : decode cX11_sun 69 = .ok (.iload_n 1, 1) := by decide +kernel
theorem dX11_sun_70 : decode cX11_sun 70 = .ok (.invokestatic 100, 3) := by decide +kernel
theorem dX11_sun_73 : decode cX11_sun 73 = .ok (.goto 23, 3) := by decide +kernel
theorem dX11_sun_76 : decode cX11_sun 76 = .ok (.iload_n 3, 1) := by decide +kernel
theorem dX11_sun_77 : decode cX11_sun 77 = .ok (.iconst 4, 1) := by decide +kernel
theorem dX11_sun_78 : decode cX11_sun 78 = .ok (.if_icmp .ne 12, 3) := by decide +kernel
theorem dX11_sun_81 : decode cX11_sun 81 = .ok (.aload_n 0, 1) := by decide +kernel
theorem dX11_sun_82 : decode cX11_sun 82 = .ok (.iload_n 1, 1) := by decide +kernel
theorem dX11_sun_83 : decode cX11_sun 83 = .ok (.iload_n 2, 1) := by decide +kernel
theorem dX11_sun_84 : decode cX11_sun 84 = .ok (.invokevirtual 104, 3) := by decide +kernel
theorem dX11_sun_87 : decode cX11_sun 87 = .ok (.goto 9, 3) := by decide +kernel
theorem dX11_sun_90 : decode cX11_sun 90 = .ok (.aload_n 0, 1) := by decide +kernel
theorem dX11_sun_91 : decode cX11_sun 91 = .ok (.iload_n 1, 1) := by decide +kernel
theorem dX11_sun_92 : decode cX11_sun 92 = .ok (.invokevirtual 94, 3) := by decide +kernel
theorem dX11_sun_95 : decode cX11_sun 95 = .ok (.i2l, 1) := by decide +kernel
theorem dX11_sun_96 : decode cX11_sun 96 = .ok (.lstore 4, 2) := by decide +kernel
theorem dX11_sun_98 : decode cX11_sun 98 = .ok (.lload 4, 2) := by decide +kernel
theorem dX11_sun_100 : decode cX11_sun 100 = .ok (.l2i, 1) := by decide +kernel
theorem dX11_sun_101 : decode cX11_sun 101 = .ok (.ireturn, 1) := by decide +kernel
set_option maxRecDepth 20000 in
theorem ggX11_isPlace_X11_isIn : GoodIn wsX11_isPlace wsX11_isIn := goodIn_r _ [5] (by decide +kernel) (by decide +kernel)

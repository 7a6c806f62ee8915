theorem dX8_setDay_88 : decode cX8_setDay 88 = .ok (.aload_n 0, 1) := by decide +kernel
theorem dX8_setDay_89 : decode cX8_setDay 89 = .ok (.getfield 30, 3) := by decide +kernel
theorem dX8_setDay_92 : decode cX8_setDay 92 = .ok (.aload_n 0, 1) := by decide +kernel
theorem dX8_setDay_93 : decode cX8_setDay 93 = .ok (.getfield 71, 3) := by decide +kernel
theorem dX8_setDay_96 : decode cX8_setDay 96 = .ok (.invokestatic 65, 3) := by decide +kernel
theorem dX8_setDay_99 : decode cX8_setDay 99 = .ok (.putfield 77, 3) := by decide +kernel
theorem dX8_setDay_102 : decode cX8_setDay 102 = .ok (.aload_n 0, 1) := by decide +kernel
theorem dX8_setDay_103 : decode cX8_setDay 103 = .ok (.aload_n 0, 1) := by decide +kernel
theorem dX8_setDay_104 : decode cX8_setDay 104 = .ok (.getfield 30, 3) := by decide +kernel
theorem dX8_setDay_107 : decode cX8_setDay 107 = .ok (.iload_n 2, 1) := by decide +kernel
theorem dX8_setDay_108 : decode cX8_setDay 108 = .ok (.invokestatic 65, 3) := by decide +kernel
theorem dX8_setDay_111 : decode cX8_setDay 111 = .ok (.putfield 80, 3) := by decide +kernel
theorem dX8_setDay_114 : decode cX8_setDay 114 = .ok (.aload_n 0, 1) := by decide +kernel
theorem dX8_setDay_115 : decode cX8_setDay 115 = .ok (.aload_n 0, 1) := by decide +kernel
theorem dX8_setDay_116 : decode cX8_setDay 116 = .ok (.getfield 36, 3) := by decide +kernel
theorem dX8_setDay_119 : decode cX8_setDay 119 = .ok (.aload_n 0, 1) := by decide +kernel
theorem dX8_setDay_120 : decode cX8_setDay 120 = .ok (.getfield 71, 3) := by decide +kernel
theorem dX8_setDay_123 : decode cX8_setDay 123 = .ok (.invokestatic 65, 3) := by decide +kernel
theorem dX8_setDay_126 : decode cX8_setDay 126 = .ok (.putfield 83, 3) := by decide +kernel
theorem dX8_setDay_129 : decode cX8_setDay 129 = .ok (.return_, 1) := by decide +kernel
set_option maxRecDepth 20000 in
theorem ggX8_setMinute_J9_floorDiv_7cf53 : GoodIn wsX8_setMinute wsJ9_floorDiv_7cf53 := goodIn_r _ [14] (by decide +kernel) (by decide +kernel)
set_option maxRecDepth 20000 in
theorem gX8_setMinute_J9_floorDiv_7cf53 : GoodIn wsX8_setMinute (va_wsS RX8 59 yJ9_floorDiv_7cf53 wsJ9_floorDiv_7cf53) := goodIn_app (goodIn_of _ (by decide +kernel)) ggX8_setMinute_J9_floorDiv_7cf53
set_option maxRecDepth 20000 in
theorem ggX8_setMinute_X10_cosineOf : GoodIn wsX8_setMinute wsX10_cosineOf := goodIn_r _ [17, 18, 19, 16, 20, 21, 22, 23] (by decide +kernel) (by decide +kernel)
set_option maxRecDepth 20000 in
theorem gX8_setMinute_X10_cosineOf_n33 : GoodIn wsX8_setMinute (wsX10_cosineOf) := ggX8_setMinute_X10_cosineOf
set_option maxRecDepth 20000 in
theorem ggX8_setMinute_X10_sineOf : GoodIn wsX8_setMinute wsX10_sineOf := goodIn_r _ [20, 21, 22, 23] (by decide +kernel) (by decide +kernel)
set_option maxRecDepth 20000 in
theorem gX8_setMinute_X10_sineOf_n26 : GoodIn wsX8_setMinute (wsX10_sineOf) := ggX8_setMinute_X10_sineOf
set_option maxRecDepth 20000 in
theorem ggX8_setMinute_X10_dot : GoodIn wsX8_setMinute wsX10_dot := goodIn_r _ [25] (by decide +kernel) (by decide +kernel)
set_option maxRecDepth 20000 in
theorem gX8_setMinute_X10_dot_n65 : GoodIn wsX8_setMinute (wsX10_dot) := ggX8_setMinute_X10_dot
theorem dX8_setMinute_0 : decode cX8_setMinute 0 = .ok (.aload_n 0, 1) := by decide +kernel
theorem dX8_setMinute_1 : decode cX8_setMinute 1 = .ok (.sipush 2048, 3) := by decide +kernel
theorem dX8_setMinute_4 : decode cX8_setMinute 4 = .ok (.iload_n 1, 1) := by decide +kernel
theorem dX8_setMinute_5 : decode cX8_setMinute 5 = .ok (.aload_n 0, 1) := by decide +kernel
theorem dX8_setMinute_6 : decode cX8_setMinute 6 = .ok (.getfield 55, 3) := by decide +kernel
theorem dX8_setMinute_9 : decode cX8_setMinute 9 = .ok (.iadd, 1) := by decide +kernel
theorem dX8_setMinute_10 : decode cX8_setMinute 10 = .ok (.sipush 720, 3) := by decide +kernel
theorem dX8_setMinute_13 : decode cX8_setMinute 13 = .ok (.isub, 1) := by decide +kernel
theorem dX8_setMinute_14 : decode cX8_setMinute 14 = .ok (.imul, 1) := by decide +kernel
theorem dX8_setMinute_15 : decode cX8_setMinute 15 = .ok (.bipush 45, 2) := by decide +kernel
theorem dX8_setMinute_17 : decode cX8_setMinute 17 = .ok (.invokestatic 59, 3) := by decide +kernel
theorem dX8_setMinute_20 : decode cX8_setMinute 20 = .ok (.putfield 86, 3) := by decide +kernel
theorem dX8_setMinute_23 : decode cX8_setMinute 23 = .ok (.aload_n 0, 1) := by decide +kernel
theorem dX8_setMinute_24 : decode cX8_setMinute 24 = .ok (.getfield 86, 3) := by decide +kernel
theorem dX8_setMinute_27 : decode cX8_setMinute 27 = .ok (.invokestatic 33, 3) := by decide +kernel
theorem dX8_setMinute_30 : decode cX8_setMinute 30 = .ok (.istore_n 2, 1) := by decide +kernel
theorem dX8_setMinute_31 : decode cX8_setMinute 31 = .ok (.aload_n 0, 1) := by decide +kernel
theorem dX8_setMinute_32 : decode cX8_setMinute 32 = .ok (.aload_n 0, 1) := by decide +kernel
theorem dX8_setMinute_33 : decode cX8_setMinute 33 = .ok (.getfield 71, 3) := by decide +kernel
theorem dX8_setMinute_36 : decode cX8_setMinute 36 = .ok (.aload_n 0, 1) := by decide +kernel
theorem dX8_setMinute_37 : decode cX8_setMinute 37 = .ok (.getfield 86, 3) := by decide +kernel
theorem dX8_setMinute_40 : decode cX8_setMinute 40 = .ok (.invokestatic 26, 3) := by decide +kernel
theorem dX8_setMinute_43 : decode cX8_setMinute 43 = .ok (.invokestatic 65, 3) := by decide +kernel
theorem dX8_setMinute_46 : decode cX8_setMinute 46 = .ok (.ineg, 1) := by decide +kernel
theorem dX8_setMinute_47 : decode cX8_setMinute 47 = .ok (.putfield 89, 3) := by decide +kernel
theorem dX8_setMinute_50 : decode cX8_setMinute 50 = .ok (.aload_n 0, 1) := by decide +kernel
theorem dX8_setMinute_51 : decode cX8_setMinute 51 = .ok (.aload_n 0, 1) := by decide +kernel
theorem dX8_setMinute_52 : decode cX8_setMinute 52 = .ok (.getfield 74, 3) := by decide +kernel
theorem dX8_setMinute_55 : decode cX8_setMinute 55 = .ok (.aload_n 0, 1) := by decide +kernel
theorem dX8_setMinute_56 : decode cX8_setMinute 56 = .ok (.getfield 77, 3) := by decide +kernel
theorem dX8_setMinute_59 : decode cX8_setMinute 59 = .ok (.iload_n 2, 1) := by decide +kernel
theorem dX8_setMinute_60 : decode cX8_setMinute 60 = .ok (.invokestatic 65, 3) := by decide +kernel
theorem dX8_setMinute_63 : decode cX8_setMinute 63 = .ok (.isub, 1) := by decide +kernel
theorem dX8_setMinute_64 : decode cX8_setMinute 64 = .ok (.putfield 92, 3) := by decide +kernel
theorem dX8_setMinute_67 : decode cX8_setMinute 67 = .ok (.aload_n 0, 1) := by decide +kernel
theorem dX8_setMinute_68 : decode cX8_setMinute 68 = .ok (.aload_n 0, 1) := by decide +kernel
theorem dX8_setMinute_69 : decode cX8_setMinute 69 = .ok (.getfield 80, 3) := by decide +kernel
theorem dX8_setMinute_72 : decode cX8_setMinute 72 = .ok (.aload_n 0, 1) := by decide +kernel
theorem dX8_setMinute_73 : decode cX8_setMinute 73 = .ok (.getfield 83, 3) := by decide +kernel
theorem dX8_setMinute_76 : decode cX8_setMinute 76 = .ok (.iload_n 2, 1) := by decide +kernel
theorem dX8_setMinute_77 : decode cX8_setMinute 77 = .ok (.invokestatic 65, 3) := by decide +kernel
theorem dX8_setMinute_80 : decode cX8_setMinute 80 = .ok (.iadd, 1) := by decide +kernel
theorem dX8_setMinute_81 : decode cX8_setMinute 81 = .ok (.putfield 95, 3) := by decide +kernel
theorem dX8_setMinute_84 : decode cX8_setMinute 84 = .ok (.return_, 1) := by decide +kernel
set_option maxRecDepth 20000 in
theorem ggX8_height_X10_sineOf : GoodIn wsX8_height wsX10_sineOf := goodIn_r _ [4, 5, 6, 7] (by decide +kernel) (by decide +kernel)
set_option maxRecDepth 20000 in
theorem gX8_height_X10_sineOf_n26 : GoodIn wsX8_height (wsX10_sineOf) := ggX8_height_X10_sineOf
theorem dX8_height_0 : decode cX8_height 0 = .ok (.iconst 0, 1) := by decide +kernel
theorem dX8_height_1 : decode cX8_height 1 = .ok (.istore_n 1, 1) := by decide +kernel
theorem dX8_height_2 : decode cX8_height 2 = .ok (.sipush 16384, 3) := by decide +kernel
theorem dX8_height_5 : decode cX8_height 5 = .ok (.istore_n 2, 1) := by decide +kernel
theorem dX8_height_6 : decode cX8_height 6 = .ok (.iload_n 2, 1) := by decide +kernel
theorem dX8_height_7 : decode cX8_height 7 = .ok (.ifCond .le 36, 3) := by decide +kernel
theorem dX8_height_10 : decode cX8_height 10 = .ok (.iload_n 1, 1) := by decide +kernel
theorem dX8_height_11 : decode cX8_height 11 = .ok (.iload_n 2, 1) := by decide +kernel
theorem dX8_height_12 : decode cX8_height 12 = .ok (.iadd, 1) := by decide +kernel
theorem dX8_height_13 : decode cX8_height 13 = .ok (.sipush 16384, 3) := by decide +kernel
theorem dX8_height_16 : decode cX8_height 16 = .ok (.if_icmp .gt 20, 3) := by decide +kernel
theorem dX8_height_19 : decode cX8_height 19 = .ok (.iload_n 1, 1) := by decide +kernel
theorem dX8_height_20 : decode cX8_height 20 = .ok (.iload_n 2, 1) := by decide +kernel
theorem dX8_height_21 : decode cX8_height 21 = .ok (.iadd, 1) := by decide +kernel
theorem dX8_height_22 : decode cX8_height 22 = .ok (.invokestatic 26, 3) := by decide +kernel
theorem dX8_height_25 : decode cX8_height 25 = .ok (.aload_n 0, 1) := by decide +kernel
theorem dX8_height_26 : decode cX8_height 26 = .ok (.getfield 95, 3) := by decide +kernel
theorem dX8_height_29 : decode cX8_height 29 = .ok (.if_icmp .gt 7, 3) := by decide +kernel
theorem dX8_height_32 : decode cX8_height 32 = .ok (.iload_n 1, 1) := by decide +kernel
theorem dX8_height_33 : decode cX8_height 33 = .ok (.iload_n 2, 1) := by decide +kernel
theorem dX8_height_34 : decode cX8_height 34 = .ok (.iadd, 1) := by decide +kernel
theorem dX8_height_35 : decode cX8_height 35 = .ok (.istore_n 1, 1) := by decide +kernel
theorem dX8_height_36 : decode cX8_height 36 = .ok (.iload_n 2, 1) := by decide +kernel
theorem dX8_height_37 : decode cX8_height 37 = .ok (.iconst 1, 1) := by decide +kernel
theorem dX8_height_38 : decode cX8_height 38 = .ok (.ishr, 1) := by decide +kernel
theorem dX8_height_39 : decode cX8_height 39 = .ok (.istore_n 2, 1) := by decide +kernel
theorem dX8_height_40 : decode cX8_height 40 = .ok (.goto (-34), 3) := by decide +kernel
theorem dX8_height_43 : decode cX8_height 43 = .ok (.iload_n 1, 1) := by decide +kernel
theorem dX8_height_44 : decode cX8_height 44 = .ok (.ireturn, 1) := by decide +kernel
theorem dX8_westSide_0 : decode cX8_westSide 0 = .ok (.aload_n 0, 1) := by decide +kernel
theorem dX8_westSide_1 : decode cX8_westSide 1 = .ok (.getfield 89, 3) := by decide +kernel
theorem dX8_westSide_4 : decode cX8_westSide 4 = .ok (.ifCond .ge 7, 3) := by decide +kernel
theorem dX8_westSide_7 : decode cX8_westSide 7 = .ok (.iconst 1, 1) := by decide +kernel
theorem dX8_westSide_8 : decode cX8_westSide 8 = .ok (.goto 4, 3) := by decide +kernel
theorem dX8_westSide_11 : decode cX8_westSide 11 = .ok (.iconst 0, 1) := by decide +kernel
theorem dX8_westSide_12 : decode cX8_westSide 12 = .ok (.ireturn, 1) := by decide +kernel
theorem dX9_init_0 : decode cX9_init 0 = .ok (.aload_n 0, 1) := by decide +kernel
theorem dX9_init_1 : decode cX9_init 1 = .ok (.invokespecial 1, 3) := by decide +kernel
theorem dX9_init_4 : decode cX9_init 4 = .ok (.return_, 1) := by decide +kernel
set_option maxRecDepth 20000 in
theorem ggX10_init_X8_init : GoodIn wsX10_init wsX8_init := goodIn_r _ [38, 39, 2, 3, 26, 40, 41, 42, 43, 44, 6, 45, 46, 47, 48, 49, 50, 51, 52, 53, 54, 55, 56, 57, 117, 118, 119, 120, 121, 122, 123, 124, 125, 126, 127, 128, 129, 130, 131, 132] (by decide +kernel) (by decide +kernel)
set_option maxRecDepth 20000 in
theorem gX10_init_X8_init : GoodIn wsX10_init (wsX8_init) := ggX10_init_X8_init
set_option maxRecDepth 20000 in
theorem ggX10_init_X0_init : GoodIn wsX10_init wsX0_init := goodIn_r _ [59, 60, 2, 3, 26, 61, 62, 63, 64, 65, 145, 146, 147, 148] (by decide +kernel) (by decide +kernel)
set_option maxRecDepth 20000 in
theorem gX10_init_X0_init_n24 : GoodIn wsX10_init (wsX0_init) := ggX10_init_X0_init
set_option maxRecDepth 20000 in
theorem ggX10_init_X6_init : GoodIn wsX10_init wsX6_init := goodIn_r _ [67, 68, 2, 3, 69, 70, 71, 72, 73, 74, 75, 76, 26, 77, 78, 79, 80, 81, 82, 83, 84, 85, 86, 87, 88, 89, 90, 91, 92, 177, 178, 179, 149, 150, 151, 152, 153, 154, 155, 156, 157, 158, 159, 160, 161] (by decide +kernel) (by decide +kernel)
set_option maxRecDepth 20000 in
theorem gX10_init_X6_init_n31 : GoodIn wsX10_init (wsX6_init) := ggX10_init_X6_init
set_option maxRecDepth 20000 in
theorem ggX10_init_X3_init : GoodIn wsX10_init wsX3_init := goodIn_r _ [94, 95, 2, 3, 26, 96, 97, 98, 99, 100, 101, 102, 162, 163, 164, 165, 166, 167, 168] (by decide +kernel) (by decide +kernel)
set_option maxRecDepth 20000 in
theorem gX10_init_X3_init_n38 : GoodIn wsX10_init (wsX3_init) := ggX10_init_X3_init
set_option maxRecDepth 20000 in
theorem ggX10_init_X7_init : GoodIn wsX10_init wsX7_init := goodIn_r _ [104, 105, 2, 3, 26, 106, 107, 108, 109, 110, 169, 170, 171, 172, 173] (by decide +kernel) (by decide +kernel)
set_option maxRecDepth 20000 in
theorem gX10_init_X7_init_n45 : GoodIn wsX10_init (wsX7_init) := ggX10_init_X7_init
set_option maxRecDepth 20000 in
theorem ggX10_init_X4_init : GoodIn wsX10_init wsX4_init := goodIn_r _ [112, 113, 2, 3, 114, 115, 116, 174, 175, 176] (by decide +kernel) (by decide +kernel)
set_option maxRecDepth 20000 in
theorem gX10_init_X4_init_n60 : GoodIn wsX10_init (wsX4_init) := ggX10_init_X4_init
theorem dX10_init_0 : decode cX10_init 0 = .ok (.aload_n 0, 1) := by decide +kernel
theorem dX10_init_1 : decode cX10_init 1 = .ok (.invokespecial 1, 3) := by decide +kernel
theorem dX10_init_4 : decode cX10_init 4 = .ok (.aload_n 0, 1) := by decide +kernel
theorem dX10_init_5 : decode cX10_init 5 = .ok (.new 7, 3) := by decide +kernel
theorem dX10_init_8 : decode cX10_init 8 = .ok (.dup, 1) := by decide +kernel
theorem dX10_init_9 : decode cX10_init 9 = .ok (.invokespecial 9, 3) := by decide +kernel
theorem dX10_init_12 : decode cX10_init 12 = .ok (.putfield 10, 3) := by decide +kernel
theorem dX10_init_15 : decode cX10_init 15 = .ok (.aload_n 0, 1) := by decide +kernel
theorem dX10_init_16 : decode cX10_init 16 = .ok (.bipush 40, 2) := by decide +kernel
theorem dX10_init_18 : decode cX10_init 18 = .ok (.anewarray 16, 3) := by decide +kernel
theorem dX10_init_21 : decode cX10_init 21 = .ok (.putfield 18, 3) := by decide +kernel
theorem dX10_init_24 : decode cX10_init 24 = .ok (.aload_n 0, 1) := by decide +kernel
theorem dX10_init_25 : decode cX10_init 25 = .ok (.new 22, 3) := by decide +kernel
theorem dX10_init_28 : decode cX10_init 28 = .ok (.dup, 1) := by decide +kernel
theorem dX10_init_29 : decode cX10_init 29 = .ok (.invokespecial 24, 3) := by decide +kernel
theorem dX10_init_32 : decode cX10_init 32 = .ok (.putfield 25, 3) := by decide +kernel
theorem dX10_init_35 : decode cX10_init 35 = .ok (.aload_n 0, 1) := by decide +kernel
theorem dX10_init_36 : decode cX10_init 36 = .ok (.new 29, 3) := by decide +kernel
theorem dX10_init_39 : decode cX10_init 39 = .ok (.dup, 1) := by decide +kernel
theorem dX10_init_40 : decode cX10_init 40 = .ok (.invokespecial 31, 3) := by decide +kernel
theorem dX10_init_43 : decode cX10_init 43 = .ok (.putfield 32, 3) := by decide +kernel
theorem dX10_init_46 : decode cX10_init 46 = .ok (.aload_n 0, 1) := by decide +kernel
theorem dX10_init_47 : decode cX10_init 47 = .ok (.new 36, 3) := by decide +kernel
theorem dX10_init_50 : decode cX10_init 50 = .ok (.dup, 1) := by decide +kernel
theorem dX10_init_51 : decode cX10_init 51 = .ok (.invokespecial 38, 3) := by decide +kernel
theorem dX10_init_54 : decode cX10_init 54 = .ok (.putfield 39, 3) := by decide +kernel
theorem dX10_init_57 : decode cX10_init 57 = .ok (.aload_n 0, 1) := by decide +kernel
theorem dX10_init_58 : decode cX10_init 58 = .ok (.new 43, 3) := by decide +kernel
theorem dX10_init_61 : decode cX10_init 61 = .ok (.dup, 1) := by decide +kernel
theorem dX10_init_62 : decode cX10_init 62 = .ok (.invokespecial 45, 3) := by decide +kernel
theorem dX10_init_65 : decode cX10_init 65 = .ok (.putfield 46, 3) := by decide +kernel
theorem dX10_init_68 : decode cX10_init 68 = .ok (.aload_n 0, 1) := by decide +kernel
theorem dX10_init_69 : decode cX10_init 69 = .ok (.sipush 601, 3) := by decide +kernel
theorem dX10_init_72 : decode cX10_init 72 = .ok (.newarray .int, 2) := by decide +kernel
theorem dX10_init_74 : decode cX10_init 74 = .ok (.putfield 50, 3) := by decide +kernel
theorem dX10_init_77 : decode cX10_init 77 = .ok (.aload_n 0, 1) := by decide +kernel
theorem dX10_init_78 : decode cX10_init 78 = .ok (.iconst 0, 1) := by decide +kernel
theorem dX10_init_79 : decode cX10_init 79 = .ok (.putfield 54, 3) := by decide +kernel
theorem dX10_init_82 : decode cX10_init 82 = .ok (.aload_n 0, 1) := by decide +kernel
theorem dX10_init_83 : decode cX10_init 83 = .ok (.new 58, 3) := by decide +kernel
theorem dX10_init_86 : decode cX10_init 86 = .ok (.dup, 1) := by decide +kernel
theorem dX10_init_87 : decode cX10_init 87 = .ok (.invokespecial 60, 3) := by decide +kernel
theorem dX10_init_90 : decode cX10_init 90 = .ok (.putfield 61, 3) := by decide +kernel
theorem dX10_init_93 : decode cX10_init 93 = .ok (.aload_n 0, 1) := by decide +kernel
theorem dX10_init_94 : decode cX10_init 94 = .ok (.new 58, 3) := by decide +kernel
theorem dX10_init_97 : decode cX10_init 97 = .ok (.dup, 1) := by decide +kernel
theorem dX10_init_98 : decode cX10_init 98 = .ok (.invokespecial 60, 3) := by decide +kernel
theorem dX10_init_101 : decode cX10_init 101 = .ok (.putfield 65, 3) := by decide +kernel
theorem dX10_init_104 : decode cX10_init 104 = .ok (.aload_n 0, 1) := by decide +kernel
theorem dX10_init_105 : decode cX10_init 105 = .ok (.new 58, 3) := by decide +kernel
theorem dX10_init_108 : decode cX10_init 108 = .ok (.dup, 1) := by decide +kernel
theorem dX10_init_109 : decode cX10_init 109 = .ok (.invokespecial 60, 3) := by decide +kernel
theorem dX10_init_112 : decode cX10_init 112 = .ok (.putfield 68, 3) := by decide +kernel
theorem dX10_init_115 : decode cX10_init 115 = .ok (.aload_n 0, 1) := by decide +kernel
theorem dX10_init_116 : decode cX10_init 116 = .ok (.new 58, 3) := by decide +kernel
theorem dX10_init_119 : decode cX10_init 119 = .ok (.dup, 1) := by decide +kernel
theorem dX10_init_120 : decode cX10_init 120 = .ok (.invokespecial 60, 3) := by decide +kernel
theorem dX10_init_123 : decode cX10_init 123 = .ok (.putfield 71, 3) := by decide +kernel
theorem dX10_init_126 : decode cX10_init 126 = .ok (.return_, 1) := by decide +kernel
set_option maxRecDepth 20000 in
theorem ggX10_sine_X10_sineOf : GoodIn wsX10_sine wsX10_sineOf := goodIn_r _ [4, 5, 6, 7] (by decide +kernel) (by decide +kernel)
set_option maxRecDepth 20000 in
theorem gX10_sine_X10_sineOf : GoodIn wsX10_sine (va_wsS RX10 74 yX10_sineOf wsX10_sineOf) := goodIn_app (goodIn_of _ (by decide +kernel)) ggX10_sine_X10_sineOf
theorem dX10_sine_0 : decode cX10_sine 0 = .ok (.iload_n 1, 1) := by decide +kernel
theorem dX10_sine_1 : decode cX10_sine 1 = .ok (.invokestatic 74, 3) := by decide +kernel
theorem dX10_sine_4 : decode cX10_sine 4 = .ok (.ireturn, 1) := by decide +kernel
set_option maxRecDepth 20000 in
theorem ggX10_latitude_X10_within : GoodIn wsX10_latitude wsX10_within := goodIn_r _ [8] (by decide +kernel) (by decide +kernel)
set_option maxRecDepth 20000 in
theorem gX10_latitude_X10_within : GoodIn wsX10_latitude (va_wsS RX10 82 yX10_within wsX10_within) := goodIn_app (goodIn_of _ (by decide +kernel)) ggX10_latitude_X10_within
set_option maxRecDepth 20000 in
theorem ggX10_latitude_X8_setLatitude : GoodIn wsX10_latitude wsX8_setLatitude := goodIn_r _ [13, 14, 15, 16, 17, 7, 18, 19, 20, 21, 22, 23, 24, 37, 38, 39, 40, 41, 42, 43, 44, 45, 46, 47, 48, 49, 50, 51, 52] (by decide +kernel) (by decide +kernel)
set_option maxRecDepth 20000 in
theorem gX10_latitude_X8_setLatitude : GoodIn wsX10_latitude (wsV RX10 90 RX8 yX8_setLatitude wsX8_setLatitude) := goodIn_app (goodIn_of _ (by decide +kernel)) ggX10_latitude_X8_setLatitude
theorem dX10_latitude_0 : decode cX10_latitude 0 = .ok (.iload_n 1, 1) := by decide +kernel
theorem dX10_latitude_1 : decode cX10_latitude 1 = .ok (.i2l, 1) := by decide +kernel
theorem dX10_latitude_2 : decode cX10_latitude 2 = .ok (.ldc2_w 78, 3) := by decide +kernel
theorem dX10_latitude_5 : decode cX10_latitude 5 = .ok (.ldc2_w 80, 3) := by decide +kernel
theorem dX10_latitude_8 : decode cX10_latitude 8 = .ok (.invokestatic 82, 3) := by decide +kernel
theorem dX10_latitude_11 : decode cX10_latitude 11 = .ok (.ifCond .ne 6, 3) := by decide +kernel
theorem dX10_latitude_14 : decode cX10_latitude 14 = .ok (.ldc 86, 2) := by decide +kernel
theorem dX10_latitude_16 : decode cX10_latitude 16 = .ok (.ireturn, 1) := by decide +kernel
theorem dX10_latitude_17 : decode cX10_latitude 17 = .ok (.aload_n 0, 1) := by decide +kernel
theorem dX10_latitude_18 : decode cX10_latitude 18 = .ok (.getfield 10, 3) := by decide +kernel
theorem dX10_latitude_21 : decode cX10_latitude 21 = .ok (.getfield 87, 3) := by decide +kernel
theorem dX10_latitude_24 : decode cX10_latitude 24 = .ok (.istore_n 2, 1) := by decide +kernel
theorem dX10_latitude_25 : decode cX10_latitude 25 = .ok (.aload_n 0, 1) := by decide +kernel
theorem dX10_latitude_26 : decode cX10_latitude 26 = .ok (.getfield 10, 3) := by decide +kernel
theorem dX10_latitude_29 : decode cX10_latitude 29 = .ok (.iload_n 1, 1) := by decide +kernel
theorem dX10_latitude_30 : decode cX10_latitude 30 = .ok (.invokevirtual 90, 3) := by decide +kernel
theorem dX10_latitude_33 : decode cX10_latitude 33 = .ok (.iload_n 2, 1) := by decide +kernel
theorem dX10_latitude_34 : decode cX10_latitude 34 = .ok (.ireturn, 1) := by decide +kernel
set_option maxRecDepth 20000 in
theorem ggX10_corrections_X10_within : GoodIn wsX10_corrections wsX10_within := goodIn_r _ [7] (by decide +kernel) (by decide +kernel)
set_option maxRecDepth 20000 in
theorem gX10_corrections_X10_within : GoodIn wsX10_corrections (va_wsS RX10 82 yX10_within wsX10_within) := goodIn_app (goodIn_of _ (by decide +kernel)) ggX10_corrections_X10_within
set_option maxRecDepth 20000 in
theorem ggX10_corrections_X8_clearCorrections : GoodIn wsX10_corrections wsX8_clearCorrections := goodIn_r _ [12, 13, 14, 15, 16, 17, 18, 31, 32, 33, 34, 35, 36, 37, 38, 39, 40, 41, 42, 43, 44, 45, 46] (by decide +kernel) (by decide +kernel)
set_option maxRecDepth 20000 in
theorem gX10_corrections_X8_clearCorrections : GoodIn wsX10_corrections (wsV RX10 96 RX8 yX8_clearCorrections wsX8_clearCorrections) := goodIn_app (goodIn_of _ (by decide +kernel)) ggX10_corrections_X8_clearCorrections
theorem dX10_corrections_0 : decode cX10_corrections 0 = .ok (.iload_n 1, 1) := by decide +kernel
theorem dX10_corrections_1 : decode cX10_corrections 1 = .ok (.i2l, 1) := by decide +kernel
theorem dX10_corrections_2 : decode cX10_corrections 2 = .ok (.lconst 0, 1) := by decide +kernel
theorem dX10_corrections_3 : decode cX10_corrections 3 = .ok (.ldc2_w 94, 3) := by decide +kernel
theorem dX10_corrections_6 : decode cX10_corrections 6 = .ok (.invokestatic 82, 3) := by decide +kernel
theorem dX10_corrections_9 : decode cX10_corrections 9 = .ok (.ifCond .ne 6, 3) := by decide +kernel
theorem dX10_corrections_12 : decode cX10_corrections 12 = .ok (.ldc 86, 2) := by decide +kernel
theorem dX10_corrections_14 : decode cX10_corrections 14 = .ok (.ireturn, 1) := by decide +kernel
theorem dX10_corrections_15 : decode cX10_corrections 15 = .ok (.aload_n 0, 1) := by decide +kernel
theorem dX10_corrections_16 : decode cX10_corrections 16 = .ok (.getfield 10, 3) := by decide +kernel
theorem dX10_corrections_19 : decode cX10_corrections 19 = .ok (.iload_n 1, 1) := by decide +kernel
theorem dX10_corrections_20 : decode cX10_corrections 20 = .ok (.invokevirtual 96, 3) := by decide +kernel
theorem dX10_corrections_23 : decode cX10_corrections 23 = .ok (.iload_n 1, 1) := by decide +kernel
theorem dX10_corrections_24 : decode cX10_corrections 24 = .ok (.ireturn, 1) := by decide +kernel
set_option maxRecDepth 20000 in
theorem ggX10_correct_X10_within : GoodIn wsX10_correct wsX10_within := goodIn_r _ [8] (by decide +kernel) (by decide +kernel)
set_option maxRecDepth 20000 in
theorem gX10_correct_X10_within : GoodIn wsX10_correct (va_wsS RX10 82 yX10_within wsX10_within) := goodIn_app (goodIn_of _ (by decide +kernel)) ggX10_correct_X10_within
theorem dX10_correct_0 : decode cX10_correct 0 = .ok (.iload_n 2, 1) := by decide +kernel
theorem dX10_correct_1 : decode cX10_correct 1 = .ok (.i2l, 1) := by decide +kernel
theorem dX10_correct_2 : decode cX10_correct 2 = .ok (.ldc2_w 99, 3) := by decide +kernel
theorem dX10_correct_5 : decode cX10_correct 5 = .ok (.ldc2_w 101, 3) := by decide +kernel
theorem dX10_correct_8 : decode cX10_correct 8 = .ok (.invokestatic 82, 3) := by decide +kernel
theorem dX10_correct_11 : decode cX10_correct 11 = .ok (.ifCond .eq 22, 3) := by decide +kernel
theorem dX10_correct_14 : decode cX10_correct 14 = .ok (.iload_n 1, 1) := by decide +kernel
theorem dX10_correct_15 : decode cX10_correct 15 = .ok (.i2l, 1) := by decide +kernel
theorem dX10_correct_16 : decode cX10_correct 16 = .ok (.lconst 0, 1) := by decide +kernel
theorem dX10_correct_17 : decode cX10_correct 17 = .ok (.aload_n 0, 1) := by decide +kernel
theorem dX10_correct_18 : decode cX10_correct 18 = .ok (.getfield 10, 3) := by decide +kernel
theorem dX10_correct_21 : decode cX10_correct 21 = .ok (.getfield 103, 3) := by decide +kernel
theorem dX10_correct_24 : decode cX10_correct 24 = .ok (.iconst 1, 1) := by decide +kernel
theorem dX10_correct_25 : decode cX10_correct 25 = .ok (.isub, 1) := by decide +kernel
theorem dX10_correct_26 : decode cX10_correct 26 = .ok (.i2l, 1) := by decide +kernel
theorem dX10_correct_27 : decode cX10_correct 27 = .ok (.invokestatic 82, 3) := by decide +kernel
theorem dX10_correct_30 : decode cX10_correct 30 = .ok (.ifCond .ne 6, 3) := by decide +kernel
theorem dX10_correct_33 : decode cX10_correct 33 = .ok (.ldc 86, 2) := by decide +kernel
theorem dX10_correct_35 : decode cX10_correct 35 = .ok (.ireturn, 1) := by decide +kernel
theorem dX10_correct_36 : decode cX10_correct 36 = .ok (.aload_n 0, 1) := by decide +kernel
theorem dX10_correct_37 : decode cX10_correct 37 = .ok (.getfield 10, 3) := by decide +kernel
theorem dX10_correct_40 : decode cX10_correct 40 = .ok (.getfield 106, 3) := by decide +kernel
theorem dX10_correct_43 : decode cX10_correct 43 = .ok (.iload_n 1, 1) := by decide +kernel
theorem dX10_correct_44 : decode cX10_correct 44 = .ok (.iaload, 1) := by decide +kernel
theorem dX10_correct_45 : decode cX10_correct 45 = .ok (.istore_n 3, 1) := by decide +kernel
theorem dX10_correct_46 : decode cX10_correct 46 = .ok (.aload_n 0, 1) := by decide +kernel
theorem dX10_correct_47 : decode cX10_correct 47 = .ok (.getfield 10, 3) := by decide +kernel
theorem dX10_correct_50 : decode cX10_correct 50 = .ok (.getfield 106, 3) := by decide +kernel
theorem dX10_correct_53 : decode cX10_correct 53 = .ok (.iload_n 1, 1) := by decide +kernel
theorem dX10_correct_54 : decode cX10_correct 54 = .ok (.iload_n 2, 1) := by decide +kernel
theorem dX10_correct_55 : decode cX10_correct 55 = .ok (.iastore, 1) := by decide +kernel
theorem dX10_correct_56 : decode cX10_correct 56 = .ok (.iload_n 3, 1) := by decide +kernel
theorem dX10_correct_57 : decode cX10_correct 57 = .ok (.ireturn, 1) := by decide +kernel
set_option maxRecDepth 20000 in
theorem ggX10_copy_X10_within : GoodIn wsX10_copy wsX10_within := goodIn_r _ [10] (by decide +kernel) (by decide +kernel)
set_option maxRecDepth 20000 in
theorem gX10_copy_X10_within : GoodIn wsX10_copy (va_wsS RX10 82 yX10_within wsX10_within) := goodIn_app (goodIn_of _ (by decide +kernel)) ggX10_copy_X10_within
theorem dX10_copy_0 : decode cX10_copy 0 = .ok (.iload_n 3, 1) := by decide +kernel
theorem dX10_copy_1 : decode cX10_copy 1 = .ok (.ifCond .lt 41, 3) := by decide +kernel
theorem dX10_copy_4 : decode cX10_copy 4 = .ok (.iload_n 1, 1) := by decide +kernel
theorem dX10_copy_5 : decode cX10_copy 5 = .ok (.i2l, 1) := by decide +kernel
theorem dX10_copy_6 : decode cX10_copy 6 = .ok (.lconst 0, 1) := by decide +kernel
theorem dX10_copy_7 : decode cX10_copy 7 = .ok (.aload_n 0, 1) := by decide +kernel
theorem dX10_copy_8 : decode cX10_copy 8 = .ok (.getfield 10, 3) := by decide +kernel
theorem dX10_copy_11 : decode cX10_copy 11 = .ok (.getfield 103, 3) := by decide +kernel
theorem dX10_copy_14 : decode cX10_copy 14 = .ok (.iload_n 3, 1) := by decide +kernel
theorem dX10_copy_15 : decode cX10_copy 15 = .ok (.isub, 1) := by decide +kernel
theorem dX10_copy_16 : decode cX10_copy 16 = .ok (.i2l, 1) := by decide +kernel
theorem dX10_copy_17 : decode cX10_copy 17 = .ok (.invokestatic 82, 3) := by decide +kernel
theorem dX10_copy_20 : decode cX10_copy 20 = .ok (.ifCond .eq 22, 3) := by decide +kernel
theorem dX10_copy_23 : decode cX10_copy 23 = .ok (.iload_n 2, 1) := by decide +kernel
theorem dX10_copy_24 : decode cX10_copy 24 = .ok (.i2l, 1) := by decide +kernel
theorem dX10_copy_25 : decode cX10_copy 25 = .ok (.lconst 0, 1) := by decide +kernel
theorem dX10_copy_26 : decode cX10_copy 26 = .ok (.aload_n 0, 1) := by decide +kernel
theorem dX10_copy_27 : decode cX10_copy 27 = .ok (.getfield 10, 3) := by decide +kernel
theorem dX10_copy_30 : decode cX10_copy 30 = .ok (.getfield 103, 3) := by decide +kernel
theorem dX10_copy_33 : decode cX10_copy 33 = .ok (.iload_n 3, 1) := by decide +kernel
theorem dX10_copy_34 : decode cX10_copy 34 = .ok (.isub, 1) := by decide +kernel
theorem dX10_copy_35 : decode cX10_copy 35 = .ok (.i2l, 1) := by decide +kernel
theorem dX10_copy_36 : decode cX10_copy 36 = .ok (.invokestatic 82, 3) := by decide +kernel
theorem dX10_copy_39 : decode cX10_copy 39 = .ok (.ifCond .ne 6, 3) := by decide +kernel
theorem dX10_copy_42 : decode cX10_copy 42 = .ok (.ldc 86, 2) := by decide +kernel
theorem dX10_copy_44 : decode cX10_copy 44 = .ok (.ireturn, 1) := by decide +kernel
theorem dX10_copy_45 : decode cX10_copy 45 = .ok (.aload_n 0, 1) := by decide +kernel
theorem dX10_copy_46 : decode cX10_copy 46 = .ok (.getfield 10, 3) := by decide +kernel
theorem dX10_copy_49 : decode cX10_copy 49 = .ok (.getfield 106, 3) := by decide +kernel
theorem dX10_copy_52 : decode cX10_copy 52 = .ok (.iload_n 1, 1) := by decide +kernel
theorem dX10_copy_53 : decode cX10_copy 53 = .ok (.aload_n 0, 1) := by decide +kernel
theorem dX10_copy_54 : decode cX10_copy 54 = .ok (.getfield 10, 3) := by decide +kernel
theorem dX10_copy_57 : decode cX10_copy 57 = .ok (.getfield 106, 3) := by decide +kernel
theorem dX10_copy_60 : decode cX10_copy 60 = .ok (.iload_n 2, 1) := by decide +kernel
theorem dX10_copy_61 : decode cX10_copy 61 = .ok (.iload_n 3, 1) := by decide +kernel
theorem dX10_copy_62 : decode cX10_copy 62 = .ok (.invokestatic 109, 3) := by decide +kernel
theorem dX10_copy_65 : decode cX10_copy 65 = .ok (.iconst 0, 1) := by decide +kernel
theorem dX10_copy_66 : decode cX10_copy 66 = .ok (.ireturn, 1) := by decide +kernel
set_option maxRecDepth 20000 in
theorem ggX10_sun_X10_isTime : GoodIn wsX10_sun wsX10_isTime := goodIn_r _ [7, 8, 9, 10, 6, 11, 12, 13, 14, 15] (by decide +kernel) (by decide +kernel)
set_option maxRecDepth 20000 in
theorem gX10_sun_X10_isTime : GoodIn wsX10_sun (va_wsS RX10 115 yX10_isTime wsX10_isTime) := goodIn_app (goodIn_of _ (by decide +kernel)) ggX10_sun_X10_isTime
set_option maxRecDepth 20000 in
theorem ggX10_sun_X10_within : GoodIn wsX10_sun wsX10_within := goodIn_r _ [15] (by decide +kernel) (by decide +kernel)
set_option maxRecDepth 20000 in
theorem gX10_sun_X10_within : GoodIn wsX10_sun (va_wsS RX10 82 yX10_within wsX10_within) := goodIn_app (goodIn_of _ (by decide +kernel)) ggX10_sun_X10_within
set_option maxRecDepth 20000 in
theorem ggX10_sun_X8_setTime : GoodIn wsX10_sun wsX8_setTime := goodIn_r _ [20, 21, 22, 23, 19, 24, 25, 26, 27, 28, 29, 30, 31, 32, 33, 34, 35, 36, 14, 6, 15, 37, 38, 39, 40, 41, 42, 43, 44, 45, 46, 47, 48, 49, 50, 51, 52, 53, 54, 55, 56, 57, 58, 71, 72, 73, 74, 75, 76, 77, 78, 79, 80, 81, 82, 83, 84, 85, 86] (by decide +kernel) (by decide +kernel)
set_option maxRecDepth 20000 in
theorem gX10_sun_X8_setTime : GoodIn wsX10_sun (wsV RX10 121 RX8 yX8_setTime wsX8_setTime) := goodIn_app (goodIn_of _ (by decide +kernel)) ggX10_sun_X8_setTime
theorem dX10_sun_0 : decode cX10_sun 0 = .ok (.iload_n 1, 1) := by decide +kernel
theorem dX10_sun_1 : decode cX10_sun 1 = .ok (.iload_n 2, 1) := by decide +kernel
theorem dX10_sun_2 : decode cX10_sun 2 = .ok (.invokestatic 115, 3) := by decide +kernel
theorem dX10_sun_5 : decode cX10_sun 5 = .ok (.ifCond .eq 15, 3) := by decide +kernel
theorem dX10_sun_8 : decode cX10_sun 8 = .ok (.iload_n 3, 1) := by decide +kernel
theorem dX10_sun_9 : decode cX10_sun 9 = .ok (.i2l, 1) := by decide +kernel
theorem dX10_sun_10 : decode cX10_sun 10 = .ok (.lconst 0, 1) := by decide +kernel
theorem dX10_sun_11 : decode cX10_sun 11 = .ok (.ldc2_w 119, 3) := by decide +kernel
theorem dX10_sun_14 : decode cX10_sun 14 = .ok (.invokestatic 82, 3) := by decide +kernel
theorem dX10_sun_17 : decode cX10_sun 17 = .ok (.ifCond .ne 6, 3) := by decide +kernel
theorem dX10_sun_20 : decode cX10_sun 20 = .ok (.ldc 86, 2) := by decide +kernel
theorem dX10_sun_22 : decode cX10_sun 22 = .ok (.ireturn, 1) := by decide +kernel
theorem dX10_sun_23 : decode cX10_sun 23 = .ok (.aload_n 0, 1) := by decide +kernel
theorem dX10_sun_24 : decode cX10_sun 24 = .ok (.getfield 10, 3) := by decide +kernel
theorem dX10_sun_27 : decode cX10_sun 27 = .ok (.iload_n 1, 1) := by decide +kernel
theorem dX10_sun_28 : decode cX10_sun 28 = .ok (.iload_n 2, 1) := by decide +kernel
theorem dX10_sun_29 : decode cX10_sun 29 = .ok (.invokevirtual 121, 3) := by decide +kernel
theorem dX10_sun_32 : decode cX10_sun 32 = .ok (.iload_n 3, 1) := by decide +kernel
theorem dX10_sun_33 : decode cX10_sun 33 = .ok (.tableswitch 75 0 4 #[35, 43, 51, 59, 67], 35) := by decide +kernel
theorem dX10_sun_68 : decode cX10_sun 68 = .ok (.aload_n 0, 1) := by decide +kernel
theorem dX10_sun_69 : decode cX10_sun 69 = .ok (.getfield 10, 3) := by decide +kernel
theorem dX10_sun_72 : decode cX10_sun 72 = .ok (.getfield 125, 3) := by decide +kernel
theorem dX10_sun_75 : decode cX10_sun 75 = .ok (.ireturn, 1) := by decide +kernel
theorem dX10_sun_76 : decode cX10_sun 76 = .ok (.aload_n 0, 1) := by decide +kernel
theorem dX10_sun_77 : decode cX10_sun 77 = .ok (.getfield 10, 3) := by decide +kernel
theorem dX10_sun_80 : decode cX10_sun 80 = .ok (.getfield 128, 3) := by decide +kernel
theorem dX10_sun_83 : decode cX10_sun 83 = .ok (.ireturn, 1) := by decide +kernel
theorem dX10_sun_84 : decode cX10_sun 84 = .ok (.aload_n 0, 1) := by decide +kernel
theorem dX10_sun_85 : decode cX10_sun 85 = .ok (.getfield 10, 3) := by decide +kernel
theorem dX10_sun_88 : decode cX10_sun 88 = .ok (.getfield 131, 3) := by decide +kernel
theorem dX10_sun_91 : decode cX10_sun 91 = .ok (.ireturn, 1) := by decide +kernel
theorem dX10_sun_92 : decode cX10_sun 92 = .ok (.aload_n 0, 1) := by decide +kernel
theorem dX10_sun_93 : decode cX10_sun 93 = .ok (.getfield 10, 3) := by decide +kernel
theorem dX10_sun_96 : decode cX10_sun 96 = .ok (.getfield 134, 3) := by decide +kernel
theorem dX10_sun_99 : decode cX10_sun 99 = .ok (.ireturn, 1) := by decide +kernel
theorem dX10_sun_100 : decode cX10_sun 100 = .ok (.aload_n 0, 1) := by decide +kernel
theorem dX10_sun_101 : decode cX10_sun 101 = .ok (.getfield 10, 3) := by decide +kernel
theorem dX10_sun_104 : decode cX10_sun 104 = .ok (.getfield 137, 3) := by decide +kernel
theorem dX10_sun_107 : decode cX10_sun 107 = .ok (.ireturn, 1) := by decide +kernel
theorem dX10_sun_108 : decode cX10_sun 108 = .ok (.aload_n 0, 1) := by decide +kernel
theorem dX10_sun_109 : decode cX10_sun 109 = .ok (.getfield 10, 3) := by decide +kernel
theorem dX10_sun_112 : decode cX10_sun 112 = .ok (.getfield 140, 3) := by decide +kernel
theorem dX10_sun_115 : decode cX10_sun 115 = .ok (.ireturn, 1) := by decide +kernel
set_option maxRecDepth 20000 in
theorem ggX10_dial_X10_isPlace : GoodIn wsX10_dial wsX10_isPlace := goodIn_r _ [10, 11, 12, 13, 9, 14] (by decide +kernel) (by decide +kernel)
set_option maxRecDepth 20000 in
theorem gX10_dial_X10_isPlace : GoodIn wsX10_dial (va_wsS RX10 143 yX10_isPlace wsX10_isPlace) := goodIn_app (goodIn_of _ (by decide +kernel)) ggX10_dial_X10_isPlace
set_option maxRecDepth 20000 in
theorem ggX10_dial_X10_isKind : GoodIn wsX10_dial wsX10_isKind := goodIn_r _ [17, 18, 12, 13, 9, 14] (by decide +kernel) (by decide +kernel)
set_option maxRecDepth 20000 in
theorem gX10_dial_X10_isKind : GoodIn wsX10_dial (va_wsS RX10 147 yX10_isKind wsX10_isKind) := goodIn_app (goodIn_of _ (by decide +kernel)) ggX10_dial_X10_isKind
set_option maxRecDepth 20000 in
theorem ggX10_dial_X10_isSpot : GoodIn wsX10_dial wsX10_isSpot := goodIn_r _ [21, 22, 23, 12, 13, 9, 14] (by decide +kernel) (by decide +kernel)
set_option maxRecDepth 20000 in
theorem gX10_dial_X10_isSpot : GoodIn wsX10_dial (va_wsS RX10 150 yX10_isSpot wsX10_isSpot) := goodIn_app (goodIn_of _ (by decide +kernel)) ggX10_dial_X10_isSpot
set_option maxRecDepth 20000 in
theorem ggX10_dial_X10_within : GoodIn wsX10_dial wsX10_within := goodIn_r _ [14] (by decide +kernel) (by decide +kernel)
set_option maxRecDepth 20000 in
theorem gX10_dial_X10_within : GoodIn wsX10_dial (va_wsS RX10 82 yX10_within wsX10_within) := goodIn_app (goodIn_of _ (by decide +kernel)) ggX10_dial_X10_within
set_option maxRecDepth 20000 in
theorem ggX10_dial_X1_init : GoodIn wsX10_dial wsX1_init := goodIn_r _ [26, 27, 28, 29, 30, 31, 32, 33, 34, 35, 36, 37, 38, 39, 63, 64, 65, 66, 67, 68, 69] (by decide +kernel) (by decide +kernel)
set_option maxRecDepth 20000 in
theorem gX10_dial_X1_init : GoodIn wsX10_dial (wsX1_init) := ggX10_dial_X1_init
set_option maxRecDepth 20000 in
theorem ggX10_dial_X10_put : GoodIn wsX10_dial wsX10_put := goodIn_r _ [43, 44, 45, 46, 47, 48, 49, 50, 51, 52, 53, 54, 55, 56, 57, 58, 59, 60, 61, 62, 70, 71, 72, 73, 74, 75, 76, 77, 78, 79, 80, 81, 82, 83, 84, 85] (by decide +kernel) (by decide +kernel)
set_option maxRecDepth 20000 in
theorem gX10_dial_X10_put : GoodIn wsX10_dial (wsV RX10 161 RX10 yX10_put wsX10_put) := goodIn_app (goodIn_of _ (by decide +kernel)) ggX10_dial_X10_put
theorem dX10_dial_0 : decode cX10_dial 0 = .ok (.iload_n 1, 1) := by decide +kernel
theorem dX10_dial_1 : decode cX10_dial 1 = .ok (.invokestatic 143, 3) := by decide +kernel
theorem dX10_dial_4 : decode cX10_dial 4 = .ok (.ifCond .eq 32, 3) := by decide +kernel
theorem dX10_dial_7 : decode cX10_dial 7 = .ok (.iload_n 2, 1) := by decide +kernel
theorem dX10_dial_8 : decode cX10_dial 8 = .ok (.invokestatic 147, 3) := by decide +kernel
theorem dX10_dial_11 : decode cX10_dial 11 = .ok (.ifCond .eq 25, 3) := by decide +kernel
theorem dX10_dial_14 : decode cX10_dial 14 = .ok (.iload_n 3, 1) := by decide +kernel
theorem dX10_dial_15 : decode cX10_dial 15 = .ok (.iload 4, 2) := by decide +kernel
theorem dX10_dial_17 : decode cX10_dial 17 = .ok (.invokestatic 150, 3) := by decide +kernel
theorem dX10_dial_20 : decode cX10_dial 20 = .ok (.ifCond .eq 16, 3) := by decide +kernel
theorem dX10_dial_23 : decode cX10_dial 23 = .ok (.iload 5, 2) := by decide +kernel
theorem dX10_dial_25 : decode cX10_dial 25 = .ok (.i2l, 1) := by decide +kernel
theorem dX10_dial_26 : decode cX10_dial 26 = .ok (.lconst 1, 1) := by decide +kernel
theorem dX10_dial_27 : decode cX10_dial 27 = .ok (.ldc2_w 153, 3) := by decide +kernel
theorem dX10_dial_30 : decode cX10_dial 30 = .ok (.invokestatic 82, 3) := by decide +kernel
theorem dX10_dial_33 : decode cX10_dial 33 = .ok (.ifCond .ne 6, 3) := by decide +kernel
theorem dX10_dial_36 : decode cX10_dial 36 = .ok (.ldc 86, 2) := by decide +kernel
theorem dX10_dial_38 : decode cX10_dial 38 = .ok (.ireturn, 1) := by decide +kernel
theorem dX10_dial_39 : decode cX10_dial 39 = .ok (.aload_n 0, 1) := by decide +kernel
theorem dX10_dial_40 : decode cX10_dial 40 = .ok (.iload_n 1, 1) := by decide +kernel
theorem dX10_dial_41 : decode cX10_dial 41 = .ok (.new 155, 3) := by decide +kernel
theorem dX10_dial_44 : decode cX10_dial 44 = .ok (.dup, 1) := by decide +kernel
theorem dX10_dial_45 : decode cX10_dial 45 = .ok (.iload_n 2, 1) := by decide +kernel
theorem dX10_dial_46 : decode cX10_dial 46 = .ok (.iload_n 3, 1) := by decide +kernel
theorem dX10_dial_47 : decode cX10_dial 47 = .ok (.iload 4, 2) := by decide +kernel
theorem dX10_dial_49 : decode cX10_dial 49 = .ok (.iload 5, 2) := by decide +kernel
theorem dX10_dial_51 : decode cX10_dial 51 = .ok (.iconst 0, 1) := by decide +kernel
theorem dX10_dial_52 : decode cX10_dial 52 = .ok (.sipush 8192, 3) := by decide +kernel
theorem dX10_dial_55 : decode cX10_dial 55 = .ok (.ldc 157, 2) := by decide +kernel
theorem dX10_dial_57 : decode cX10_dial 57 = .ok (.invokespecial 158, 3) := by decide +kernel
theorem dX10_dial_60 : decode cX10_dial 60 = .ok (.invokevirtual 161, 3) := by decide +kernel
theorem dX10_dial_63 : decode cX10_dial 63 = .ok (.iconst 0, 1) := by decide +kernel
theorem dX10_dial_64 : decode cX10_dial 64 = .ok (.ireturn, 1) := by decide +kernel
set_option maxRecDepth 20000 in
theorem ggX10_house_X10_isPlace : GoodIn wsX10_house wsX10_isPlace := goodIn_r _ [11, 12, 13, 14, 10, 15] (by decide +kernel) (by decide +kernel)
set_option maxRecDepth 20000 in
theorem gX10_house_X10_isPlace : GoodIn wsX10_house (va_wsS RX10 143 yX10_isPlace wsX10_isPlace) := goodIn_app (goodIn_of _ (by decide +kernel)) ggX10_house_X10_isPlace
set_option maxRecDepth 20000 in
theorem ggX10_house_X10_isSpot : GoodIn wsX10_house wsX10_isSpot := goodIn_r _ [18, 19, 1, 13, 14, 10, 15] (by decide +kernel) (by decide +kernel)
set_option maxRecDepth 20000 in
theorem gX10_house_X10_isSpot : GoodIn wsX10_house (va_wsS RX10 150 yX10_isSpot wsX10_isSpot) := goodIn_app (goodIn_of _ (by decide +kernel)) ggX10_house_X10_isSpot
set_option maxRecDepth 20000 in
theorem ggX10_house_X10_within : GoodIn wsX10_house wsX10_within := goodIn_r _ [15] (by decide +kernel) (by decide +kernel)
set_option maxRecDepth 20000 in
theorem gX10_house_X10_within : GoodIn wsX10_house (va_wsS RX10 82 yX10_within wsX10_within) := goodIn_app (goodIn_of _ (by decide +kernel)) ggX10_house_X10_within
set_option maxRecDepth 20000 in
theorem ggX10_house_X2_init : GoodIn wsX10_house wsX2_init := goodIn_r _ [22, 23, 24, 25, 26, 27, 28, 29, 30, 31, 32, 33, 57, 58, 59, 60, 61] (by decide +kernel) (by decide +kernel)
set_option maxRecDepth 20000 in
theorem gX10_house_X2_init : GoodIn wsX10_house (wsX2_init) := ggX10_house_X2_init
set_option maxRecDepth 20000 in
theorem ggX10_house_X10_put : GoodIn wsX10_house wsX10_put := goodIn_r _ [37, 38, 39, 40, 41, 42, 43, 44, 45, 46, 47, 48, 49, 50, 51, 52, 53, 54, 55, 56, 62, 63, 64, 65, 66, 67, 68, 69, 70, 71, 72, 73, 74, 75, 76, 77] (by decide +kernel) (by decide +kernel)
set_option maxRecDepth 20000 in
theorem gX10_house_X10_put : GoodIn wsX10_house (wsV RX10 161 RX10 yX10_put wsX10_put) := goodIn_app (goodIn_of _ (by decide +kernel)) ggX10_house_X10_put
theorem dX10_house_0 : decode cX10_house 0 = .ok (.iload_n 1, 1) := by decide +kernel
theorem dX10_house_1 : decode cX10_house 1 = .ok (.invokestatic 143, 3) := by decide +kernel
theorem dX10_house_4 : decode cX10_house 4 = .ok (.ifCond .eq 24, 3) := by decide +kernel
theorem dX10_house_7 : decode cX10_house 7 = .ok (.iload_n 2, 1) := by decide +kernel
theorem dX10_house_8 : decode cX10_house 8 = .ok (.iload_n 3, 1) := by decide +kernel
theorem dX10_house_9 : decode cX10_house 9 = .ok (.invokestatic 150, 3) := by decide +kernel
theorem dX10_house_12 : decode cX10_house 12 = .ok (.ifCond .eq 16, 3) := by decide +kernel
theorem dX10_house_15 : decode cX10_house 15 = .ok (.iload 6, 2) := by decide +kernel
theorem dX10_house_17 : decode cX10_house 17 = .ok (.i2l, 1) := by decide +kernel
theorem dX10_house_18 : decode cX10_house 18 = .ok (.lconst 1, 1) := by decide +kernel
theorem dX10_house_19 : decode cX10_house 19 = .ok (.ldc2_w 165, 3) := by decide +kernel
theorem dX10_house_22 : decode cX10_house 22 = .ok (.invokestatic 82, 3) := by decide +kernel
theorem dX10_house_25 : decode cX10_house 25 = .ok (.ifCond .ne 6, 3) := by decide +kernel
theorem dX10_house_28 : decode cX10_house 28 = .ok (.ldc 86, 2) := by decide +kernel
theorem dX10_house_30 : decode cX10_house 30 = .ok (.ireturn, 1) := by decide +kernel
theorem dX10_house_31 : decode cX10_house 31 = .ok (.lload 4, 2) := by decide +kernel
theorem dX10_house_33 : decode cX10_house 33 = .ok (.lconst 0, 1) := by decide +kernel
theorem dX10_house_34 : decode cX10_house 34 = .ok (.ldc2_w 167, 3) := by decide +kernel
theorem dX10_house_37 : decode cX10_house 37 = .ok (.invokestatic 82, 3) := by decide +kernel
theorem dX10_house_40 : decode cX10_house 40 = .ok (.ifCond .ne 6, 3) := by decide +kernel
theorem dX10_house_43 : decode cX10_house 43 = .ok (.ldc 86, 2) := by decide +kernel
theorem dX10_house_45 : decode cX10_house 45 = .ok (.ireturn, 1) := by decide +kernel
theorem dX10_house_46 : decode cX10_house 46 = .ok (.lload 4, 2) := by decide +kernel
theorem dX10_house_48 : decode cX10_house 48 = .ok (.ldc2_w 169, 3) := by decide +kernel
theorem dX10_house_51 : decode cX10_house 51 = .ok (.ldiv, 1) := by decide +kernel
theorem dX10_house_52 : decode cX10_house 52 = .ok (.l2i, 1) := by decide +kernel
theorem dX10_house_53 : decode cX10_house 53 = .ok (.sipush 16384, 3) := by decide +kernel
theorem dX10_house_56 : decode cX10_house 56 = .ok (.isub, 1) := by decide +kernel
theorem dX10_house_57 : decode cX10_house 57 = .ok (.istore 7, 2) := by decide +kernel
theorem dX10_house_59 : decode cX10_house 59 = .ok (.lload 4, 2) := by decide +kernel
theorem dX10_house_61 : decode cX10_house 61 = .ok (.ldc2_w 169, 3) := by decide +kernel
theorem dX10_house_64 : decode cX10_house 64 = .ok (.lrem, 1) := by decide +kernel
theorem dX10_house_65 : decode cX10_house 65 = .ok (.l2i, 1) := by decide +kernel
theorem dX10_house_66 : decode cX10_house 66 = .ok (.sipush 16384, 3) := by decide +kernel
theorem dX10_house_69 : decode cX10_house 69 = .ok (.isub, 1) := by decide +kernel
theorem dX10_house_70 : decode cX10_house 70 = .ok (.istore 8, 2) := by decide +kernel
theorem dX10_house_72 : decode cX10_house 72 = .ok (.iload 7, 2) := by decide +kernel
theorem dX10_house_74 : decode cX10_house 74 = .ok (.iload 8, 2) := by decide +kernel
theorem dX10_house_76 : decode cX10_house 76 = .ok (.invokestatic 150, 3) := by decide +kernel
theorem dX10_house_79 : decode cX10_house 79 = .ok (.ifCond .eq 15, 3) := by decide +kernel
theorem dX10_house_82 : decode cX10_house 82 = .ok (.iload 7, 2) := by decide +kernel
theorem dX10_house_84 : decode cX10_house 84 = .ok (.iload_n 2, 1) := by decide +kernel
theorem dX10_house_85 : decode cX10_house 85 = .ok (.if_icmp .ne 12, 3) := by decide +kernel
theorem dX10_house_88 : decode cX10_house 88 = .ok (.iload 8, 2) := by decide +kernel
theorem dX10_house_90 : decode cX10_house 90 = .ok (.iload_n 3, 1) := by decide +kernel
theorem dX10_house_91 : decode cX10_house 91 = .ok (.if_icmp .ne 6, 3) := by decide +kernel
theorem dX10_house_94 : decode cX10_house 94 = .ok (.ldc 86, 2) := by decide +kernel
theorem dX10_house_96 : decode cX10_house 96 = .ok (.ireturn, 1) := by decide +kernel
theorem dX10_house_97 : decode cX10_house 97 = .ok (.aload_n 0, 1) := by decide +kernel
theorem dX10_house_98 : decode cX10_house 98 = .ok (.iload_n 1, 1) := by decide +kernel
theorem dX10_house_99 : decode cX10_house 99 = .ok (.new 171, 3) := by decide +kernel
theorem dX10_house_102 : decode cX10_house 102 = .ok (.dup, 1) := by decide +kernel
theorem dX10_house_103 : decode cX10_house 103 = .ok (.iload_n 2, 1) := by decide +kernel
theorem dX10_house_104 : decode cX10_house 104 = .ok (.iload_n 3, 1) := by decide +kernel
theorem dX10_house_105 : decode cX10_house 105 = .ok (.iload 7, 2) := by decide +kernel
theorem dX10_house_107 : decode cX10_house 107 = .ok (.iload 8, 2) := by decide +kernel
theorem dX10_house_109 : decode cX10_house 109 = .ok (.iload 6, 2) := by decide +kernel
theorem dX10_house_111 : decode cX10_house 111 = .ok (.invokespecial 173, 3) := by decide +kernel
theorem dX10_house_114 : decode cX10_house 114 = .ok (.invokevirtual 161, 3) := by decide +kernel
theorem dX10_house_117 : decode cX10_house 117 = .ok (.iconst 0, 1) := by decide +kernel
theorem dX10_house_118 : decode cX10_house 118 = .ok (.ireturn, 1) := by decide +kernel
set_option maxRecDepth 20000 in
theorem ggX10_drop_X10_isPlace : GoodIn wsX10_drop wsX10_isPlace := goodIn_r _ [7, 8, 9, 10, 6, 11] (by decide +kernel) (by decide +kernel)
set_option maxRecDepth 20000 in
theorem gX10_drop_X10_isPlace : GoodIn wsX10_drop (va_wsS RX10 143 yX10_isPlace wsX10_isPlace) := goodIn_app (goodIn_of _ (by decide +kernel)) ggX10_drop_X10_isPlace
set_option maxRecDepth 20000 in
theorem ggX10_drop_X10_put : GoodIn wsX10_drop wsX10_put := goodIn_r _ [15, 16, 2, 17, 18, 19, 20, 21, 22, 23, 24, 25, 26, 27, 28, 29, 30, 31, 32, 33, 34, 35, 36, 37, 38, 39, 40, 41, 42, 43, 44, 45, 46, 47, 48, 49] (by decide +kernel) (by decide +kernel)
set_option maxRecDepth 20000 in
theorem gX10_drop_X10_put : GoodIn wsX10_drop (wsV RX10 161 RX10 yX10_put wsX10_put) := goodIn_app (goodIn_of _ (by decide +kernel)) ggX10_drop_X10_put
theorem dX10_drop_0 : decode cX10_drop 0 = .ok (.iload_n 1, 1) := by decide +kernel
theorem dX10_drop_1 : decode cX10_drop 1 = .ok (.invokestatic 143, 3) := by decide +kernel
theorem dX10_drop_4 : decode cX10_drop 4 = .ok (.ifCond .ne 6, 3) := by decide +kernel
theorem dX10_drop_7 : decode cX10_drop 7 = .ok (.ldc 86, 2) := by decide +kernel
theorem dX10_drop_9 : decode cX10_drop 9 = .ok (.ireturn, 1) := by decide +kernel
theorem dX10_drop_10 : decode cX10_drop 10 = .ok (.aload_n 0, 1) := by decide +kernel
theorem dX10_drop_11 : decode cX10_drop 11 = .ok (.getfield 18, 3) := by decide +kernel
theorem dX10_drop_14 : decode cX10_drop 14 = .ok (.iload_n 1, 1) := by decide +kernel
theorem dX10_drop_15 : decode cX10_drop 15 = .ok (.aaload, 1) := by decide +kernel
theorem dX10_drop_16 : decode cX10_drop 16 = .ok (.ifnonnull 6, 3) := by decide +kernel
theorem dX10_drop_19 : decode cX10_drop 19 = .ok (.ldc 176, 2) := by decide +kernel
theorem dX10_drop_21 : decode cX10_drop 21 = .ok (.ireturn, 1) := by decide +kernel
theorem dX10_drop_22 : decode cX10_drop 22 = .ok (.aload_n 0, 1) := by decide +kernel
theorem dX10_drop_23 : decode cX10_drop 23 = .ok (.iload_n 1, 1) := by decide +kernel
theorem dX10_drop_24 : decode cX10_drop 24 = .ok (.aconst_null, 1) := by decide +kernel
theorem dX10_drop_25 : decode cX10_drop 25 = .ok (.invokevirtual 161, 3) := by decide +kernel
theorem dX10_drop_28 : decode cX10_drop 28 = .ok (.iconst 0, 1) := by decide +kernel
theorem dX10_drop_29 : decode cX10_drop 29 = .ok (.ireturn, 1) := by decide +kernel
set_option maxRecDepth 20000 in
theorem ggX10_move_X10_isPlace : GoodIn wsX10_move wsX10_isPlace := goodIn_r _ [6, 7, 8, 9, 5, 10] (by decide +kernel) (by decide +kernel)
set_option maxRecDepth 20000 in
theorem gX10_move_X10_isPlace : GoodIn wsX10_move (va_wsS RX10 143 yX10_isPlace wsX10_isPlace) := goodIn_app (goodIn_of _ (by decide +kernel)) ggX10_move_X10_isPlace
set_option maxRecDepth 20000 in
theorem ggX10_move_X10_isSpot : GoodIn wsX10_move wsX10_isSpot := goodIn_r _ [13, 14, 15, 8, 9, 5, 10] (by decide +kernel) (by decide +kernel)
set_option maxRecDepth 20000 in
theorem gX10_move_X10_isSpot : GoodIn wsX10_move (va_wsS RX10 150 yX10_isSpot wsX10_isSpot) := goodIn_app (goodIn_of _ (by decide +kernel)) ggX10_move_X10_isSpot
set_option maxRecDepth 20000 in
theorem ggX10_move_X10_dialAt : GoodIn wsX10_move wsX10_dialAt := goodIn_r _ [19, 20, 21, 3, 4, 5, 6, 7, 8, 9, 10, 22, 23, 24, 25, 26, 27, 28, 29, 30, 74, 75, 76, 77, 78, 79, 80, 81, 82, 83, 84, 85, 86, 87, 88, 89, 90, 91, 92] (by decide +kernel) (by decide +kernel)
set_option maxRecDepth 20000 in
theorem gX10_move_X10_dialAt : GoodIn wsX10_move (wsV RX10 177 RX10 yX10_dialAt wsX10_dialAt) := goodIn_app (goodIn_of _ (by decide +kernel)) ggX10_move_X10_dialAt
set_option maxRecDepth 20000 in
theorem ggX10_move_X1_withSpot : GoodIn wsX10_move wsX1_withSpot := goodIn_r _ [34, 35, 36, 25, 27, 37, 38, 39, 40, 41, 42, 43, 44, 45, 46, 47, 48, 49, 50, 51, 86, 87, 88, 89, 90, 91, 92] (by decide +kernel) (by decide +kernel)
set_option maxRecDepth 20000 in
theorem gX10_move_X1_withSpot : GoodIn wsX10_move (wsV RX10 181 RX1 yX1_withSpot wsX1_withSpot) := goodIn_app (goodIn_of _ (by decide +kernel)) ggX10_move_X1_withSpot
set_option maxRecDepth 20000 in
theorem ggX10_move_X10_put : GoodIn wsX10_move wsX10_put := goodIn_r _ [55, 56, 20, 57, 58, 59, 60, 61, 62, 63, 64, 65, 66, 67, 68, 69, 70, 71, 72, 73, 74, 75, 76, 77, 78, 79, 80, 81, 82, 83, 84, 85, 93, 94, 95, 96] (by decide +kernel) (by decide +kernel)
set_option maxRecDepth 20000 in
theorem gX10_move_X10_put : GoodIn wsX10_move (wsV RX10 161 RX10 yX10_put wsX10_put) := goodIn_app (goodIn_of _ (by decide +kernel)) ggX10_move_X10_put
theorem dX10_move_0 : decode cX10_move 0 = .ok (.iload_n 1, 1) := by decide +kernel
theorem dX10_move_1 : decode cX10_move 1 = .ok (.invokestatic 143, 3) := by decide +kernel
theorem dX10_move_4 : decode cX10_move 4 = .ok (.ifCond .eq 11, 3) := by decide +kernel
theorem dX10_move_7 : decode cX10_move 7 = .ok (.iload_n 2, 1) := by decide +kernel
theorem dX10_move_8 : decode cX10_move 8 = .ok (.iload_n 3, 1) := by decide +kernel
theorem dX10_move_9 : decode cX10_move 9 = .ok (.invokestatic 150, 3) := by decide +kernel
theorem dX10_move_12 : decode cX10_move 12 = .ok (.ifCond .ne 6, 3) := by decide +kernel
theorem dX10_move_15 : decode cX10_move 15 = .ok (.ldc 86, 2) := by decide +kernel
theorem dX10_move_17 : decode cX10_move 17 = .ok (.ireturn, 1) := by decide +kernel
theorem dX10_move_18 : decode cX10_move 18 = .ok (.aload_n 0, 1) := by decide +kernel
theorem dX10_move_19 : decode cX10_move 19 = .ok (.iload_n 1, 1) := by decide +kernel
theorem dX10_move_20 : decode cX10_move 20 = .ok (.iconst 0, 1) := by decide +kernel
theorem dX10_move_21 : decode cX10_move 21 = .ok (.invokevirtual 177, 3) := by decide +kernel
theorem dX10_move_24 : decode cX10_move 24 = .ok (.astore 4, 2) := by decide +kernel
theorem dX10_move_26 : decode cX10_move 26 = .ok (.aload 4, 2) := by decide +kernel
theorem dX10_move_28 : decode cX10_move 28 = .ok (.ifnonnull 6, 3) := by decide +kernel
theorem dX10_move_31 : decode cX10_move 31 = .ok (.ldc 176, 2) := by decide +kernel
theorem dX10_move_33 : decode cX10_move 33 = .ok (.ireturn, 1) := by decide +kernel
theorem dX10_move_34 : decode cX10_move 34 = .ok (.aload_n 0, 1) := by decide +kernel
theorem dX10_move_35 : decode cX10_move 35 = .ok (.iload_n 1, 1) := by decide +kernel
theorem dX10_move_36 : decode cX10_move 36 = .ok (.aload 4, 2) := by decide +kernel
theorem dX10_move_38 : decode cX10_move 38 = .ok (.iload_n 2, 1) := by decide +kernel
theorem dX10_move_39 : decode cX10_move 39 = .ok (.iload_n 3, 1) := by decide +kernel
theorem dX10_move_40 : decode cX10_move 40 = .ok (.invokevirtual 181, 3) := by decide +kernel
theorem dX10_move_43 : decode cX10_move 43 = .ok (.invokevirtual 161, 3) := by decide +kernel
theorem dX10_move_46 : decode cX10_move 46 = .ok (.iconst 0, 1) := by decide +kernel
theorem dX10_move_47 : decode cX10_move 47 = .ok (.ireturn, 1) := by decide +kernel
set_option maxRecDepth 20000 in
theorem ggX10_face_X10_isPlace : GoodIn wsX10_face wsX10_isPlace := goodIn_r _ [7, 8, 9, 10, 6, 11] (by decide +kernel) (by decide +kernel)
set_option maxRecDepth 20000 in
theorem gX10_face_X10_isPlace : GoodIn wsX10_face (va_wsS RX10 143 yX10_isPlace wsX10_isPlace) := goodIn_app (goodIn_of _ (by decide +kernel)) ggX10_face_X10_isPlace
set_option maxRecDepth 20000 in
theorem ggX10_face_X10_within : GoodIn wsX10_face wsX10_within := goodIn_r _ [11] (by decide +kernel) (by decide +kernel)
set_option maxRecDepth 20000 in
theorem gX10_face_X10_within : GoodIn wsX10_face (va_wsS RX10 82 yX10_within wsX10_within) := goodIn_app (goodIn_of _ (by decide +kernel)) ggX10_face_X10_within
set_option maxRecDepth 20000 in
theorem ggX10_face_X10_dialAt : GoodIn wsX10_face wsX10_dialAt := goodIn_r _ [15, 16, 17, 4, 5, 6, 7, 8, 9, 10, 11, 18, 19, 20, 21, 22, 23, 24, 25, 26, 77, 78, 79, 80, 81, 82, 83, 84, 85, 86, 87, 88, 70, 71, 72, 73, 74, 75, 76] (by decide +kernel) (by decide +kernel)
set_option maxRecDepth 20000 in
theorem gX10_face_X10_dialAt : GoodIn wsX10_face (wsV RX10 177 RX10 yX10_dialAt wsX10_dialAt) := goodIn_app (goodIn_of _ (by decide +kernel)) ggX10_face_X10_dialAt
set_option maxRecDepth 20000 in
theorem ggX10_face_X1_withFacing : GoodIn wsX10_face wsX1_withFacing := goodIn_r _ [30, 31, 32, 21, 23, 33, 34, 35, 36, 37, 38, 39, 40, 41, 42, 43, 44, 45, 46, 47, 70, 71, 72, 73, 74, 75, 76] (by decide +kernel) (by decide +kernel)
set_option maxRecDepth 20000 in
theorem gX10_face_X1_withFacing : GoodIn wsX10_face (wsV RX10 186 RX1 yX1_withFacing wsX1_withFacing) := goodIn_app (goodIn_of _ (by decide +kernel)) ggX10_face_X1_withFacing
set_option maxRecDepth 20000 in
theorem ggX10_face_X10_put : GoodIn wsX10_face wsX10_put := goodIn_r _ [51, 52, 16, 53, 54, 55, 56, 57, 58, 59, 60, 61, 62, 63, 64, 65, 66, 67, 68, 69, 77, 78, 79, 80, 81, 82, 83, 84, 85, 86, 87, 88, 89, 90, 91, 92] (by decide +kernel) (by decide +kernel)
set_option maxRecDepth 20000 in
theorem gX10_face_X10_put : GoodIn wsX10_face (wsV RX10 161 RX10 yX10_put wsX10_put) := goodIn_app (goodIn_of _ (by decide +kernel)) ggX10_face_X10_put
theorem dX10_face_0 : decode cX10_face 0 = .ok (.iload_n 1, 1) := by decide +kernel
theorem dX10_face_1 : decode cX10_face 1 = .ok (.invokestatic 143, 3) := by decide +kernel
theorem dX10_face_4 : decode cX10_face 4 = .ok (.ifCond .eq 15, 3) := by decide +kernel
theorem dX10_face_7 : decode cX10_face 7 = .ok (.iload_n 2, 1) := by decide +kernel
theorem dX10_face_8 : decode cX10_face 8 = .ok (.i2l, 1) := by decide +kernel
theorem dX10_face_9 : decode cX10_face 9 = .ok (.lconst 0, 1) := by decide +kernel
theorem dX10_face_10 : decode cX10_face 10 = .ok (.ldc2_w 184, 3) := by decide +kernel
theorem dX10_face_13 : decode cX10_face 13 = .ok (.invokestatic 82, 3) := by decide +kernel
theorem dX10_face_16 : decode cX10_face 16 = .ok (.ifCond .ne 6, 3) := by decide +kernel
theorem dX10_face_19 : decode cX10_face 19 = .ok (.ldc 86, 2) := by decide +kernel
theorem dX10_face_21 : decode cX10_face 21 = .ok (.ireturn, 1) := by decide +kernel
theorem dX10_face_22 : decode cX10_face 22 = .ok (.aload_n 0, 1) := by decide +kernel
theorem dX10_face_23 : decode cX10_face 23 = .ok (.iload_n 1, 1) := by decide +kernel
theorem dX10_face_24 : decode cX10_face 24 = .ok (.iconst 1, 1) := by decide +kernel
theorem dX10_face_25 : decode cX10_face 25 = .ok (.invokevirtual 177, 3) := by decide +kernel
theorem dX10_face_28 : decode cX10_face 28 = .ok (.astore_n 3, 1) := by decide +kernel
theorem dX10_face_29 : decode cX10_face 29 = .ok (.aload_n 3, 1) := by decide +kernel
theorem dX10_face_30 : decode cX10_face 30 = .ok (.ifnonnull 6, 3) := by decide +kernel
theorem dX10_face_33 : decode cX10_face 33 = .ok (.ldc 176, 2) := by decide +kernel
theorem dX10_face_35 : decode cX10_face 35 = .ok (.ireturn, 1) := by decide +kernel
theorem dX10_face_36 : decode cX10_face 36 = .ok (.aload_n 0, 1) := by decide +kernel
theorem dX10_face_37 : decode cX10_face 37 = .ok (.iload_n 1, 1) := by decide +kernel
theorem dX10_face_38 : decode cX10_face 38 = .ok (.aload_n 3, 1) := by decide +kernel
theorem dX10_face_39 : decode cX10_face 39 = .ok (.iload_n 2, 1) := by decide +kernel
theorem dX10_face_40 : decode cX10_face 40 = .ok (.invokevirtual 186, 3) := by decide +kernel
theorem dX10_face_43 : decode cX10_face 43 = .ok (.invokevirtual 161, 3) := by decide +kernel
theorem dX10_face_46 : decode cX10_face 46 = .ok (.aload_n 3, 1) := by decide +kernel
theorem dX10_face_47 : decode cX10_face 47 = .ok (.getfield 190, 3) := by decide +kernel
theorem dX10_face_50 : decode cX10_face 50 = .ok (.ireturn, 1) := by decide +kernel
set_option maxRecDepth 20000 in
theorem ggX10_tilt_X10_isPlace : GoodIn wsX10_tilt wsX10_isPlace := goodIn_r _ [7, 8, 9, 10, 6, 11] (by decide +kernel) (by decide +kernel)
set_option maxRecDepth 20000 in
theorem gX10_tilt_X10_isPlace : GoodIn wsX10_tilt (va_wsS RX10 143 yX10_isPlace wsX10_isPlace) := goodIn_app (goodIn_of _ (by decide +kernel)) ggX10_tilt_X10_isPlace
set_option maxRecDepth 20000 in
theorem ggX10_tilt_X10_within : GoodIn wsX10_tilt wsX10_within := goodIn_r _ [11] (by decide +kernel) (by decide +kernel)
set_option maxRecDepth 20000 in
theorem gX10_tilt_X10_within : GoodIn wsX10_tilt (va_wsS RX10 82 yX10_within wsX10_within) := goodIn_app (goodIn_of _ (by decide +kernel)) ggX10_tilt_X10_within
set_option maxRecDepth 20000 in
theorem ggX10_tilt_X10_dialAt : GoodIn wsX10_tilt wsX10_dialAt := goodIn_r _ [15, 16, 17, 4, 5, 6, 7, 8, 9, 10, 11, 18, 19, 20, 21, 22, 23, 24, 25, 26, 77, 78, 79, 80, 81, 82, 83, 84, 85, 86, 87, 88, 70, 71, 72, 73, 74, 75, 76] (by decide +kernel) (by decide +kernel)
set_option maxRecDepth 20000 in
theorem gX10_tilt_X10_dialAt : GoodIn wsX10_tilt (wsV RX10 177 RX10 yX10_dialAt wsX10_dialAt) := goodIn_app (goodIn_of _ (by decide +kernel)) ggX10_tilt_X10_dialAt
set_option maxRecDepth 20000 in
theorem ggX10_tilt_X1_withSlant : GoodIn wsX10_tilt wsX1_withSlant := goodIn_r _ [30, 31, 32, 21, 23, 33, 34, 35, 36, 37, 38, 39, 40, 41, 42, 43, 44, 45, 46, 47, 70, 71, 72, 73, 74, 75, 76] (by decide +kernel) (by decide +kernel)
set_option maxRecDepth 20000 in
theorem gX10_tilt_X1_withSlant : GoodIn wsX10_tilt (wsV RX10 193 RX1 yX1_withSlant wsX1_withSlant) := goodIn_app (goodIn_of _ (by decide +kernel)) ggX10_tilt_X1_withSlant
set_option maxRecDepth 20000 in
theorem ggX10_tilt_X10_put : GoodIn wsX10_tilt wsX10_put := goodIn_r _ [51, 52, 16, 53, 54, 55, 56, 57, 58, 59, 60, 61, 62, 63, 64, 65, 66, 67, 68, 69, 77, 78, 79, 80, 81, 82, 83, 84, 85, 86, 87, 88, 89, 90, 91, 92] (by decide +kernel) (by decide +kernel)
set_option maxRecDepth 20000 in
theorem gX10_tilt_X10_put : GoodIn wsX10_tilt (wsV RX10 161 RX10 yX10_put wsX10_put) := goodIn_app (goodIn_of _ (by decide +kernel)) ggX10_tilt_X10_put
theorem dX10_tilt_0 : decode cX10_tilt 0 = .ok (.iload_n 1, 1) := by decide +kernel
theorem dX10_tilt_1 : decode cX10_tilt 1 = .ok (.invokestatic 143, 3) := by decide +kernel
theorem dX10_tilt_4 : decode cX10_tilt 4 = .ok (.ifCond .eq 15, 3) := by decide +kernel
theorem dX10_tilt_7 : decode cX10_tilt 7 = .ok (.iload_n 2, 1) := by decide +kernel
theorem dX10_tilt_8 : decode cX10_tilt 8 = .ok (.i2l, 1) := by decide +kernel
theorem dX10_tilt_9 : decode cX10_tilt 9 = .ok (.lconst 0, 1) := by decide +kernel
theorem dX10_tilt_10 : decode cX10_tilt 10 = .ok (.ldc2_w 80, 3) := by decide +kernel
theorem dX10_tilt_13 : decode cX10_tilt 13 = .ok (.invokestatic 82, 3) := by decide +kernel
theorem dX10_tilt_16 : decode cX10_tilt 16 = .ok (.ifCond .ne 6, 3) := by decide +kernel
theorem dX10_tilt_19 : decode cX10_tilt 19 = .ok (.ldc 86, 2) := by decide +kernel
theorem dX10_tilt_21 : decode cX10_tilt 21 = .ok (.ireturn, 1) := by decide +kernel
theorem dX10_tilt_22 : decode cX10_tilt 22 = .ok (.aload_n 0, 1) := by decide +kernel
theorem dX10_tilt_23 : decode cX10_tilt 23 = .ok (.iload_n 1, 1) := by decide +kernel
theorem dX10_tilt_24 : decode cX10_tilt 24 = .ok (.iconst 2, 1) := by decide +kernel
theorem dX10_tilt_25 : decode cX10_tilt 25 = .ok (.invokevirtual 177, 3) := by decide +kernel
theorem dX10_tilt_28 : decode cX10_tilt 28 = .ok (.astore_n 3, 1) := by decide +kernel
theorem dX10_tilt_29 : decode cX10_tilt 29 = .ok (.aload_n 3, 1) := by decide +kernel
theorem dX10_tilt_30 : decode cX10_tilt 30 = .ok (.ifnonnull 6, 3) := by decide +kernel
theorem dX10_tilt_33 : decode cX10_tilt 33 = .ok (.ldc 176, 2) := by decide +kernel
theorem dX10_tilt_35 : decode cX10_tilt 35 = .ok (.ireturn, 1) := by decide +kernel
theorem dX10_tilt_36 : decode cX10_tilt 36 = .ok (.aload_n 0, 1) := by decide +kernel
theorem dX10_tilt_37 : decode cX10_tilt 37 = .ok (.iload_n 1, 1) := by decide +kernel
theorem dX10_tilt_38 : decode cX10_tilt 38 = .ok (.aload_n 3, 1) := by decide +kernel
theorem dX10_tilt_39 : decode cX10_tilt 39 = .ok (.iload_n 2, 1) := by decide +kernel
theorem dX10_tilt_40 : decode cX10_tilt 40 = .ok (.invokevirtual 193, 3) := by decide +kernel
theorem dX10_tilt_43 : decode cX10_tilt 43 = .ok (.invokevirtual 161, 3) := by decide +kernel
theorem dX10_tilt_46 : decode cX10_tilt 46 = .ok (.aload_n 3, 1) := by decide +kernel
theorem dX10_tilt_47 : decode cX10_tilt 47 = .ok (.getfield 196, 3) := by decide +kernel
theorem dX10_tilt_50 : decode cX10_tilt 50 = .ok (.ireturn, 1) := by decide +kernel
set_option maxRecDepth 20000 in
theorem ggX10_left_X10_isPlace : GoodIn wsX10_left wsX10_isPlace := goodIn_r _ [6, 7, 8, 9, 5, 10] (by decide +kernel) (by decide +kernel)
set_option maxRecDepth 20000 in
theorem gX10_left_X10_isPlace : GoodIn wsX10_left (va_wsS RX10 143 yX10_isPlace wsX10_isPlace) := goodIn_app (goodIn_of _ (by decide +kernel)) ggX10_left_X10_isPlace
set_option maxRecDepth 20000 in
theorem ggX10_left_X10_isHour : GoodIn wsX10_left wsX10_isHour := goodIn_r _ [13, 14, 8, 9, 5, 10] (by decide +kernel) (by decide +kernel)
set_option maxRecDepth 20000 in
theorem gX10_left_X10_isHour : GoodIn wsX10_left (va_wsS RX10 199 yX10_isHour wsX10_isHour) := goodIn_app (goodIn_of _ (by decide +kernel)) ggX10_left_X10_isHour
set_option maxRecDepth 20000 in
theorem ggX10_left_X10_within : GoodIn wsX10_left wsX10_within := goodIn_r _ [10] (by decide +kernel) (by decide +kernel)
set_option maxRecDepth 20000 in
theorem gX10_left_X10_within : GoodIn wsX10_left (va_wsS RX10 82 yX10_within wsX10_within) := goodIn_app (goodIn_of _ (by decide +kernel)) ggX10_left_X10_within
set_option maxRecDepth 20000 in
theorem ggX10_left_X10_dialAt : GoodIn wsX10_left wsX10_dialAt := goodIn_r _ [18, 19, 20, 3, 4, 5, 6, 7, 8, 9, 10, 21, 22, 23, 24, 25, 26, 27, 28, 29, 77, 78, 79, 80, 81, 82, 83, 84, 85, 86, 87, 88, 89, 90, 91, 92, 93, 94, 95] (by decide +kernel) (by decide +kernel)
set_option maxRecDepth 20000 in
theorem gX10_left_X10_dialAt : GoodIn wsX10_left (wsV RX10 177 RX10 yX10_dialAt wsX10_dialAt) := goodIn_app (goodIn_of _ (by decide +kernel)) ggX10_left_X10_dialAt
set_option maxRecDepth 20000 in
theorem ggX10_left_X1_withHour : GoodIn wsX10_left wsX1_withHour := goodIn_r _ [33, 34, 35, 24, 26, 36, 37, 38, 39, 40, 41, 42, 43, 44, 45, 46, 47, 48, 49, 50, 89, 90, 91, 92, 93, 94, 95] (by decide +kernel) (by decide +kernel)
set_option maxRecDepth 20000 in
theorem gX10_left_X1_withHour : GoodIn wsX10_left (wsV RX10 202 RX1 yX1_withHour wsX1_withHour) := goodIn_app (goodIn_of _ (by decide +kernel)) ggX10_left_X1_withHour
set_option maxRecDepth 20000 in
theorem ggX10_left_X10_put : GoodIn wsX10_left wsX10_put := goodIn_r _ [54, 55, 19, 56, 57, 58, 59, 60, 61, 62, 63, 64, 65, 66, 67, 68, 69, 70, 71, 72, 77, 78, 79, 80, 81, 82, 83, 84, 85, 86, 87, 88, 96, 97, 98, 99] (by decide +kernel) (by decide +kernel)
set_option maxRecDepth 20000 in
theorem gX10_left_X10_put : GoodIn wsX10_left (wsV RX10 161 RX10 yX10_put wsX10_put) := goodIn_app (goodIn_of _ (by decide +kernel)) ggX10_left_X10_put
set_option maxRecDepth 20000 in
theorem ggX10_left_X1_hourLeft : GoodIn wsX10_left wsX1_hourLeft := goodIn_r _ [76, 41, 89, 90, 91, 92, 93, 94, 95] (by decide +kernel) (by decide +kernel)
set_option maxRecDepth 20000 in
theorem gX10_left_X1_hourLeft : GoodIn wsX10_left (wsV RX10 205 RX1 yX1_hourLeft wsX1_hourLeft) := goodIn_app (goodIn_of _ (by decide +kernel)) ggX10_left_X1_hourLeft
theorem dX10_left_0 : decode cX10_left 0 = .ok (.iload_n 1, 1) := by decide +kernel
theorem dX10_left_1 : decode cX10_left 1 = .ok (.invokestatic 143, 3) := by decide +kernel
theorem dX10_left_4 : decode cX10_left 4 = .ok (.ifCond .eq 20, 3) := by decide +kernel
theorem dX10_left_7 : decode cX10_left 7 = .ok (.iload_n 2, 1) := by decide +kernel
theorem dX10_left_8 : decode cX10_left 8 = .ok (.invokestatic 199, 3) := by decide +kernel
theorem dX10_left_11 : decode cX10_left 11 = .ok (.ifCond .eq 13, 3) := by decide +kernel
theorem dX10_left_14 : decode cX10_left 14 = .ok (.iload_n 3, 1) := by decide +kernel
theorem dX10_left_15 : decode cX10_left 15 = .ok (.i2l, 1) := by decide +kernel
theorem dX10_left_16 : decode cX10_left 16 = .ok (.lconst 0, 1) := by decide +kernel
theorem dX10_left_17 : decode cX10_left 17 = .ok (.lconst 1, 1) := by decide +kernel
theorem dX10_left_18 : decode cX10_left 18 = .ok (.invokestatic 82, 3) := by decide +kernel
theorem dX10_left_21 : decode cX10_left 21 = .ok (.ifCond .ne 6, 3) := by decide +kernel
theorem dX10_left_24 : decode cX10_left 24 = .ok (.ldc 86, 2) := by decide +kernel
theorem dX10_left_26 : decode cX10_left 26 = .ok (.ireturn, 1) := by decide +kernel
theorem dX10_left_27 : decode cX10_left 27 = .ok (.aload_n 0, 1) := by decide +kernel
theorem dX10_left_28 : decode cX10_left 28 = .ok (.iload_n 1, 1) := by decide +kernel
theorem dX10_left_29 : decode cX10_left 29 = .ok (.iconst 4, 1) := by decide +kernel
theorem dX10_left_30 : decode cX10_left 30 = .ok (.invokevirtual 177, 3) := by decide +kernel
theorem dX10_left_33 : decode cX10_left 33 = .ok (.astore 4, 2) := by decide +kernel
theorem dX10_left_35 : decode cX10_left 35 = .ok (.aload 4, 2) := by decide +kernel
theorem dX10_left_37 : decode cX10_left 37 = .ok (.ifnonnull 6, 3) := by decide +kernel
theorem dX10_left_40 : decode cX10_left 40 = .ok (.ldc 176, 2) := by decide +kernel
theorem dX10_left_42 : decode cX10_left 42 = .ok (.ireturn, 1) := by decide +kernel
theorem dX10_left_43 : decode cX10_left 43 = .ok (.aload_n 0, 1) := by decide +kernel
theorem dX10_left_44 : decode cX10_left 44 = .ok (.iload_n 1, 1) := by decide +kernel
theorem dX10_left_45 : decode cX10_left 45 = .ok (.aload 4, 2) := by decide +kernel
theorem dX10_left_47 : decode cX10_left 47 = .ok (.iload_n 2, 1) := by decide +kernel
theorem dX10_left_48 : decode cX10_left 48 = .ok (.iload_n 3, 1) := by decide +kernel
theorem dX10_left_49 : decode cX10_left 49 = .ok (.invokevirtual 202, 3) := by decide +kernel
theorem dX10_left_52 : decode cX10_left 52 = .ok (.invokevirtual 161, 3) := by decide +kernel
theorem dX10_left_55 : decode cX10_left 55 = .ok (.aload 4, 2) := by decide +kernel
theorem dX10_left_57 : decode cX10_left 57 = .ok (.iload_n 2, 1) := by decide +kernel
theorem dX10_left_58 : decode cX10_left 58 = .ok (.invokevirtual 205, 3) := by decide +kernel
theorem dX10_left_61 : decode cX10_left 61 = .ok (.ireturn, 1) := by decide +kernel
set_option maxRecDepth 20000 in
theorem ggX10_holds_X10_isPlace : GoodIn wsX10_holds wsX10_isPlace := goodIn_r _ [6, 7, 8, 9, 5, 10] (by decide +kernel) (by decide +kernel)
set_option maxRecDepth 20000 in
theorem gX10_holds_X10_isPlace : GoodIn wsX10_holds (va_wsS RX10 143 yX10_isPlace wsX10_isPlace) := goodIn_app (goodIn_of _ (by decide +kernel)) ggX10_holds_X10_isPlace
set_option maxRecDepth 20000 in
theorem ggX10_holds_X1_sort : GoodIn wsX10_holds wsX1_sort := goodIn_r _ [16, 17, 34, 35, 36, 37, 38, 39, 40] (by decide +kernel) (by decide +kernel)
set_option maxRecDepth 20000 in
theorem gX10_holds_X1_sort_u208X1 : GoodIn wsX10_holds (va_wsU RX10 208 RX1 "DialGarden$Thing" ⟨"DialGarden$Thing", "sort", "()I"⟩ yX1_sort wsX1_sort) := goodIn_app (goodIn_of _ (by decide +kernel)) ggX10_holds_X1_sort
set_option maxRecDepth 20000 in
theorem ggX10_holds_X2_sort : GoodIn wsX10_holds wsX2_sort := goodIn_r _ [21] (by decide +kernel) (by decide +kernel)
set_option maxRecDepth 20000 in
theorem gX10_holds_X2_sort_u208X2 : GoodIn wsX10_holds (va_wsU RX10 208 RX2 "DialGarden$Thing" ⟨"DialGarden$Thing", "sort", "()I"⟩ yX2_sort wsX2_sort) := goodIn_app (goodIn_of _ (by decide +kernel)) ggX10_holds_X2_sort
theorem dX10_holds_0 : decode cX10_holds 0 = .ok (.iload_n 1, 1) := by decide +kernel
theorem dX10_holds_1 : decode cX10_holds 1 = .ok (.invokestatic 143, 3) := by decide +kernel
theorem dX10_holds_4 : decode cX10_holds 4 = .ok (.ifCond .ne 6, 3) := by decide +kernel
theorem dX10_holds_7 : decode cX10_holds 7 = .ok (.ldc 86, 2) := by decide +kernel
theorem dX10_holds_9 : decode cX10_holds 9 = .ok (.ireturn, 1) := by decide +kernel
theorem dX10_holds_10 : decode cX10_holds 10 = .ok (.aload_n 0, 1) := by decide +kernel
theorem dX10_holds_11 : decode cX10_holds 11 = .ok (.getfield 18, 3) := by decide +kernel
theorem dX10_holds_14 : decode cX10_holds 14 = .ok (.iload_n 1, 1) := by decide +kernel
theorem dX10_holds_15 : decode cX10_holds 15 = .ok (.aaload, 1) := by decide +kernel
theorem dX10_holds_16 : decode cX10_holds 16 = .ok (.astore_n 2, 1) := by decide +kernel
theorem dX10_holds_17 : decode cX10_holds 17 = .ok (.aload_n 2, 1) := by decide +kernel
theorem dX10_holds_18 : decode cX10_holds 18 = .ok (.ifnonnull 7, 3) := by decide +kernel
theorem dX10_holds_21 : decode cX10_holds 21 = .ok (.iconst 0, 1) := by decide +kernel
theorem dX10_holds_22 : decode cX10_holds 22 = .ok (.goto 7, 3) := by decide +kernel
theorem dX10_holds_25 : decode cX10_holds 25 = .ok (.aload_n 2, 1) := by decide +kernel
theorem dX10_holds_26 : decode cX10_holds 26 = .ok (.invokevirtual 208, 3) := by decide +kernel
theorem dX10_holds_29 : decode cX10_holds 29 = .ok (.ireturn, 1) := by decide +kernel
set_option maxRecDepth 20000 in
theorem ggX10_isOf_X10_isPlace : GoodIn wsX10_isOf wsX10_isPlace := goodIn_r _ [5, 6, 7, 8, 4, 9] (by decide +kernel) (by decide +kernel)
set_option maxRecDepth 20000 in
theorem gX10_isOf_X10_isPlace : GoodIn wsX10_isOf (va_wsS RX10 143 yX10_isPlace wsX10_isPlace) := goodIn_app (goodIn_of _ (by decide +kernel)) ggX10_isOf_X10_isPlace
set_option maxRecDepth 20000 in
theorem ggX10_isOf_X10_isKind : GoodIn wsX10_isOf wsX10_isKind := goodIn_r _ [12, 13, 7, 8, 4, 9] (by decide +kernel) (by decide +kernel)
set_option maxRecDepth 20000 in
theorem gX10_isOf_X10_isKind : GoodIn wsX10_isOf (va_wsS RX10 147 yX10_isKind wsX10_isKind) := goodIn_app (goodIn_of _ (by decide +kernel)) ggX10_isOf_X10_isKind
set_option maxRecDepth 20000 in
theorem ggX10_isOf_X10_dialAt : GoodIn wsX10_isOf wsX10_dialAt := goodIn_r _ [17, 18, 19, 2, 3, 4, 5, 6, 7, 8, 9, 20, 21, 22, 23, 24, 25, 11, 12, 13, 26, 27, 28, 29, 30, 31, 32, 33, 34, 35, 36, 37, 38, 39, 40, 41, 42, 43, 44] (by decide +kernel) (by decide +kernel)
set_option maxRecDepth 20000 in
theorem gX10_isOf_X10_dialAt : GoodIn wsX10_isOf (wsV RX10 177 RX10 yX10_dialAt wsX10_dialAt) := goodIn_app (goodIn_of _ (by decide +kernel)) ggX10_isOf_X10_dialAt
theorem dX10_isOf_0 : decode cX10_isOf 0 = .ok (.iload_n 1, 1) := by decide +kernel
theorem dX10_isOf_1 : decode cX10_isOf 1 = .ok (.invokestatic 143, 3) := by decide +kernel
theorem dX10_isOf_4 : decode cX10_isOf 4 = .ok (.ifCond .eq 10, 3) := by decide +kernel
theorem dX10_isOf_7 : decode cX10_isOf 7 = .ok (.iload_n 2, 1) := by decide +kernel
theorem dX10_isOf_8 : decode cX10_isOf 8 = .ok (.invokestatic 147, 3) := by decide +kernel
theorem dX10_isOf_11 : decode cX10_isOf 11 = .ok (.ifCond .ne 6, 3) := by decide +kernel
theorem dX10_isOf_14 : decode cX10_isOf 14 = .ok (.ldc 86, 2) := by decide +kernel
theorem dX10_isOf_16 : decode cX10_isOf 16 = .ok (.ireturn, 1) := by decide +kernel
theorem dX10_isOf_17 : decode cX10_isOf 17 = .ok (.aload_n 0, 1) := by decide +kernel
theorem dX10_isOf_18 : decode cX10_isOf 18 = .ok (.iload_n 1, 1) := by decide +kernel
theorem dX10_isOf_19 : decode cX10_isOf 19 = .ok (.iload_n 2, 1) := by decide +kernel
theorem dX10_isOf_20 : decode cX10_isOf 20 = .ok (.invokevirtual 177, 3) := by decide +kernel
theorem dX10_isOf_23 : decode cX10_isOf 23 = .ok (.ifnonnull 7, 3) := by decide +kernel
theorem dX10_isOf_26 : decode cX10_isOf 26 = .ok (.iconst 0, 1) := by decide +kernel
theorem dX10_isOf_27 : decode cX10_isOf 27 = .ok (.goto 4, 3) := by decide +kernel
theorem dX10_isOf_30 : decode cX10_isOf 30 = .ok (.iconst 1, 1) := by decide +kernel
theorem dX10_isOf_31 : decode cX10_isOf 31 = .ok (.ireturn, 1) := by decide +kernel
set_option maxRecDepth 20000 in
theorem ggX10_about_X10_isPlace : GoodIn wsX10_about wsX10_isPlace := goodIn_r _ [8, 9, 10, 11, 7, 12] (by decide +kernel) (by decide +kernel)
set_option maxRecDepth 20000 in
theorem gX10_about_X10_isPlace : GoodIn wsX10_about (va_wsS RX10 143 yX10_isPlace wsX10_isPlace) := goodIn_app (goodIn_of _ (by decide +kernel)) ggX10_about_X10_isPlace
set_option maxRecDepth 20000 in
theorem ggX10_about_X10_within : GoodIn wsX10_about wsX10_within := goodIn_r _ [12] (by decide +kernel) (by decide +kernel)
set_option maxRecDepth 20000 in
theorem gX10_about_X10_within : GoodIn wsX10_about (va_wsS RX10 82 yX10_within wsX10_within) := goodIn_app (goodIn_of _ (by decide +kernel)) ggX10_about_X10_within
set_option maxRecDepth 20000 in
theorem ggX10_about_X1_property : GoodIn wsX10_about wsX1_property := goodIn_r _ [18, 19, 20, 21, 22, 23, 24, 25, 26, 27, 28, 17, 29, 30, 31, 7, 32, 33, 10, 11, 12, 34, 35, 36, 37, 38, 39, 40, 63, 64, 65, 66, 67, 68, 69] (by decide +kernel) (by decide +kernel)
set_option maxRecDepth 20000 in
theorem gX10_about_X1_property_u212X1 : GoodIn wsX10_about (va_wsU RX10 212 RX1 "DialGarden$Thing" ⟨"DialGarden$Thing", "property", "(I)I"⟩ yX1_property wsX1_property) := goodIn_app (goodIn_of _ (by decide +kernel)) ggX10_about_X1_property
set_option maxRecDepth 20000 in
theorem ggX10_about_X2_property : GoodIn wsX10_about wsX2_property := goodIn_r _ [44, 45, 46, 47, 48, 49, 50, 70, 71, 72, 73, 74] (by decide +kernel) (by decide +kernel)
set_option maxRecDepth 20000 in
theorem gX10_about_X2_property_u212X2 : GoodIn wsX10_about (va_wsU RX10 212 RX2 "DialGarden$Thing" ⟨"DialGarden$Thing", "property", "(I)I"⟩ yX2_property wsX2_property) := goodIn_app (goodIn_of _ (by decide +kernel)) ggX10_about_X2_property
theorem dX10_about_0 : decode cX10_about 0 = .ok (.iload_n 1, 1) := by decide +kernel
theorem dX10_about_1 : decode cX10_about 1 = .ok (.invokestatic 143, 3) := by decide +kernel
theorem dX10_about_4 : decode cX10_about 4 = .ok (.ifCond .eq 15, 3) := by decide +kernel
theorem dX10_about_7 : decode cX10_about 7 = .ok (.iload_n 2, 1) := by decide +kernel
theorem dX10_about_8 : decode cX10_about 8 = .ok (.i2l, 1) := by decide +kernel
theorem dX10_about_9 : decode cX10_about 9 = .ok (.lconst 0, 1) := by decide +kernel
theorem dX10_about_10 : decode cX10_about 10 = .ok (.ldc2_w 119, 3) := by decide +kernel
theorem dX10_about_13 : decode cX10_about 13 = .ok (.invokestatic 82, 3) := by decide +kernel
theorem dX10_about_16 : decode cX10_about 16 = .ok (.ifCond .ne 6, 3) := by decide +kernel
theorem dX10_about_19 : decode cX10_about 19 = .ok (.ldc 86, 2) := by decide +kernel
theorem dX10_about_21 : decode cX10_about 21 = .ok (.ireturn, 1) := by decide +kernel
theorem dX10_about_22 : decode cX10_about 22 = .ok (.aload_n 0, 1) := by decide +kernel
theorem dX10_about_23 : decode cX10_about 23 = .ok (.getfield 18, 3) := by decide +kernel
theorem dX10_about_26 : decode cX10_about 26 = .ok (.iload_n 1, 1) := by decide +kernel
theorem dX10_about_27 : decode cX10_about 27 = .ok (.aaload, 1) := by decide +kernel
theorem dX10_about_28 : decode cX10_about 28 = .ok (.astore_n 3, 1) := by decide +kernel
theorem dX10_about_29 : decode cX10_about 29 = .ok (.aload_n 3, 1) := by decide +kernel
theorem dX10_about_30 : decode cX10_about 30 = .ok (.ifnonnull 8, 3) := by decide +kernel
theorem dX10_about_33 : decode cX10_about 33 = .ok (.ldc 176, 2) := by decide +kernel
theorem dX10_about_35 : decode cX10_about 35 = .ok (.goto 8, 3) := by decide +kernel
theorem dX10_about_38 : decode cX10_about 38 = .ok (.aload_n 3, 1) := by decide +kernel
theorem dX10_about_39 : decode cX10_about 39 = .ok (.iload_n 2, 1) := by decide +kernel
theorem dX10_about_40 : decode cX10_about 40 = .ok (.invokevirtual 212, 3) := by decide +kernel
theorem dX10_about_43 : decode cX10_about 43 = .ok (.ireturn, 1) := by decide +kernel
set_option maxRecDepth 20000 in
theorem ggX10_undo_X0_latestPlace : GoodIn wsX10_undo wsX0_latestPlace := goodIn_r _ [8, 9, 10, 37, 38, 39, 40] (by decide +kernel) (by decide +kernel)
set_option maxRecDepth 20000 in
theorem gX10_undo_X0_latestPlace : GoodIn wsX10_undo (wsV RX10 218 RX0 yX0_latestPlace wsX0_latestPlace) := goodIn_app (goodIn_of _ (by decide +kernel)) ggX10_undo_X0_latestPlace
set_option maxRecDepth 20000 in
theorem ggX10_undo_X0_latestThing : GoodIn wsX10_undo wsX0_latestThing := goodIn_r _ [14, 15, 10, 37, 38, 39, 40] (by decide +kernel) (by decide +kernel)
set_option maxRecDepth 20000 in
theorem gX10_undo_X0_latestThing : GoodIn wsX10_undo (wsV RX10 221 RX0 yX0_latestThing wsX0_latestThing) := goodIn_app (goodIn_of _ (by decide +kernel)) ggX10_undo_X0_latestThing
set_option maxRecDepth 20000 in
theorem ggX10_undo_X0_takeBack : GoodIn wsX10_undo wsX0_takeBack := goodIn_r _ [19, 15, 10, 20, 21, 22, 23, 24, 37, 38, 39, 40] (by decide +kernel) (by decide +kernel)
set_option maxRecDepth 20000 in
theorem gX10_undo_X0_takeBack : GoodIn wsX10_undo (wsV RX10 225 RX0 yX0_takeBack wsX0_takeBack) := goodIn_app (goodIn_of _ (by decide +kernel)) ggX10_undo_X0_takeBack
theorem dX10_undo_0 : decode cX10_undo 0 = .ok (.aload_n 0, 1) := by decide +kernel
theorem dX10_undo_1 : decode cX10_undo 1 = .ok (.getfield 25, 3) := by decide +kernel
theorem dX10_undo_4 : decode cX10_undo 4 = .ok (.getfield 215, 3) := by decide +kernel
theorem dX10_undo_7 : decode cX10_undo 7 = .ok (.ifCond .ne 6, 3) := by decide +kernel
theorem dX10_undo_10 : decode cX10_undo 10 = .ok (.ldc 176, 2) := by decide +kernel
theorem dX10_undo_12 : decode cX10_undo 12 = .ok (.ireturn, 1) := by decide +kernel
theorem dX10_undo_13 : decode cX10_undo 13 = .ok (.aload_n 0, 1) := by decide +kernel
theorem dX10_undo_14 : decode cX10_undo 14 = .ok (.getfield 25, 3) := by decide +kernel
theorem dX10_undo_17 : decode cX10_undo 17 = .ok (.invokevirtual 218, 3) := by decide +kernel
theorem dX10_undo_20 : decode cX10_undo 20 = .ok (.istore_n 1, 1) := by decide +kernel
theorem dX10_undo_21 : decode cX10_undo 21 = .ok (.aload_n 0, 1) := by decide +kernel
theorem dX10_undo_22 : decode cX10_undo 22 = .ok (.getfield 18, 3) := by decide +kernel
theorem dX10_undo_25 : decode cX10_undo 25 = .ok (.iload_n 1, 1) := by decide +kernel
theorem dX10_undo_26 : decode cX10_undo 26 = .ok (.aload_n 0, 1) := by decide +kernel
theorem dX10_undo_27 : decode cX10_undo 27 = .ok (.getfield 25, 3) := by decide +kernel
theorem dX10_undo_30 : decode cX10_undo 30 = .ok (.invokevirtual 221, 3) := by decide +kernel
theorem dX10_undo_33 : decode cX10_undo 33 = .ok (.aastore, 1) := by decide +kernel
theorem dX10_undo_34 : decode cX10_undo 34 = .ok (.aload_n 0, 1) := by decide +kernel
theorem dX10_undo_35 : decode cX10_undo 35 = .ok (.getfield 25, 3) := by decide +kernel
theorem dX10_undo_38 : decode cX10_undo 38 = .ok (.invokevirtual 225, 3) := by decide +kernel
theorem dX10_undo_41 : decode cX10_undo 41 = .ok (.iload_n 1, 1) := by decide +kernel
theorem dX10_undo_42 : decode cX10_undo 42 = .ok (.ireturn, 1) := by decide +kernel
set_option maxRecDepth 20000 in
theorem ggX10_state_X10_isPlace : GoodIn wsX10_state wsX10_isPlace := goodIn_r _ [6, 7, 8, 9, 5, 10] (by decide +kernel) (by decide +kernel)
set_option maxRecDepth 20000 in
theorem gX10_state_X10_isPlace : GoodIn wsX10_state (va_wsS RX10 143 yX10_isPlace wsX10_isPlace) := goodIn_app (goodIn_of _ (by decide +kernel)) ggX10_state_X10_isPlace
set_option maxRecDepth 20000 in
theorem ggX10_state_X10_isTime : GoodIn wsX10_state wsX10_isTime := goodIn_r _ [13, 14, 15, 16, 5, 17, 18, 8, 9, 10] (by decide +kernel) (by decide +kernel)
set_option maxRecDepth 20000 in
theorem gX10_state_X10_isTime : GoodIn wsX10_state (va_wsS RX10 115 yX10_isTime wsX10_isTime) := goodIn_app (goodIn_of _ (by decide +kernel)) ggX10_state_X10_isTime
set_option maxRecDepth 20000 in
theorem ggX10_state_X10_dialAt : GoodIn wsX10_state wsX10_dialAt := goodIn_r _ [22, 23, 24, 3, 4, 5, 6, 7, 8, 9, 10, 25, 26, 27, 28, 29, 30, 31, 32, 33, 161, 162, 163, 164, 165, 166, 167, 168, 169, 170, 171, 172, 173, 174, 175, 176, 177, 178, 179] (by decide +kernel) (by decide +kernel)
set_option maxRecDepth 20000 in
theorem gX10_state_X10_dialAt : GoodIn wsX10_state (wsV RX10 177 RX10 yX10_dialAt wsX10_dialAt) := goodIn_app (goodIn_of _ (by decide +kernel)) ggX10_state_X10_dialAt
set_option maxRecDepth 20000 in
theorem ggX10_state_X10_stateOf : GoodIn wsX10_state wsX10_stateOf := goodIn_r _ [37, 38, 23, 39, 40, 41, 42, 43, 44, 45, 46, 47, 48, 49, 26, 27, 28, 29, 30, 31, 5, 32, 33, 8, 9, 10, 50, 51, 52, 53, 54, 55, 56, 57, 58, 59, 60, 61, 62, 63, 64, 65, 66, 67, 68, 69, 70, 71, 72, 73, 74, 75, 76, 77, 78, 79, 80, 81, 82, 83, 84, 85, 86, 87, 88, 89, 90, 91, 92, 93, 94, 95, 96, 97, 98, 99, 100, 101, 102, 103, 104, 105, 106, 107, 108, 109, 110, 111, 112, 113, 114, 115, 116, 117, 118, 119, 120, 121, 122, 123, 124, 125, 126, 127, 128, 129, 130, 131, 132, 133, 134, 135, 136, 137, 138, 139, 140, 141, 142, 143, 144, 145, 146, 147, 148, 149, 150, 151, 152, 153, 154, 155, 156, 157, 158, 159, 160, 161, 162, 163, 164, 165, 166, 167, 168, 169, 170, 171, 172, 173, 174, 175, 176, 177, 178, 179, 180, 181, 182, 183, 184, 185, 186, 187, 188, 189, 190, 191, 192, 193, 194, 195, 196, 197, 198, 199, 200, 201, 202, 203, 204, 205, 206, 207, 208, 209, 210, 211, 212, 213, 214, 215, 216] (by decide +kernel) (by decide +kernel)
set_option maxRecDepth 20000 in
theorem gX10_state_X10_stateOf : GoodIn wsX10_state (wsV RX10 228 RX10 yX10_stateOf wsX10_stateOf) := goodIn_app (goodIn_of _ (by decide +kernel)) ggX10_state_X10_stateOf
theorem dX10_state_0 : decode cX10_state 0 = .ok (.iload_n 1, 1) := by decide +kernel
theorem dX10_state_1 : decode cX10_state 1 = .ok (.invokestatic 143, 3) := by decide +kernel
theorem dX10_state_4 : decode cX10_state 4 = .ok (.ifCond .eq 11, 3) := by decide +kernel
theorem dX10_state_7 : decode cX10_state 7 = .ok (.iload_n 2, 1) := by decide +kernel
theorem dX10_state_8 : decode cX10_state 8 = .ok (.iload_n 3, 1) := by decide +kernel
theorem dX10_state_9 : decode cX10_state 9 = .ok (.invokestatic 115, 3) := by decide +kernel
theorem dX10_state_12 : decode cX10_state 12 = .ok (.ifCond .ne 6, 3) := by decide +kernel
theorem dX10_state_15 : decode cX10_state 15 = .ok (.ldc 86, 2) := by decide +kernel
theorem dX10_state_17 : decode cX10_state 17 = .ok (.ireturn, 1) := by decide +kernel
theorem dX10_state_18 : decode cX10_state 18 = .ok (.aload_n 0, 1) := by decide +kernel
theorem dX10_state_19 : decode cX10_state 19 = .ok (.iload_n 1, 1) := by decide +kernel
theorem dX10_state_20 : decode cX10_state 20 = .ok (.iconst 0, 1) := by decide +kernel
theorem dX10_state_21 : decode cX10_state 21 = .ok (.invokevirtual 177, 3) := by decide +kernel
theorem dX10_state_24 : decode cX10_state 24 = .ok (.astore 4, 2) := by decide +kernel
theorem dX10_state_26 : decode cX10_state 26 = .ok (.aload 4, 2) := by decide +kernel
theorem dX10_state_28 : decode cX10_state 28 = .ok (.ifnonnull 8, 3) := by decide +kernel
theorem dX10_state_31 : decode cX10_state 31 = .ok (.ldc 176, 2) := by decide +kernel
theorem dX10_state_33 : decode cX10_state 33 = .ok (.goto 11, 3) := by decide +kernel
theorem dX10_state_36 : decode cX10_state 36 = .ok (.aload_n 0, 1) := by decide +kernel
theorem dX10_state_37 : decode cX10_state 37 = .ok (.aload 4, 2) := by decide +kernel
theorem dX10_state_39 : decode cX10_state 39 = .ok (.iload_n 2, 1) := by decide +kernel
theorem dX10_state_40 : decode cX10_state 40 = .ok (.iload_n 3, 1) := by decide +kernel
theorem dX10_state_41 : decode cX10_state 41 = .ok (.invokevirtual 228, 3) := by decide +kernel
theorem dX10_state_44 : decode cX10_state 44 = .ok (.ireturn, 1) := by decide +kernel
set_option maxRecDepth 20000 in
theorem ggX10_hides_X10_isPlace : GoodIn wsX10_hides wsX10_isPlace := goodIn_r _ [8, 9, 10, 11, 7, 12] (by decide +kernel) (by decide +kernel)
set_option maxRecDepth 20000 in
theorem gX10_hides_X10_isPlace : GoodIn wsX10_hides (va_wsS RX10 143 yX10_isPlace wsX10_isPlace) := goodIn_app (goodIn_of _ (by decide +kernel)) ggX10_hides_X10_isPlace
set_option maxRecDepth 20000 in
theorem ggX10_hides_X10_isTime : GoodIn wsX10_hides wsX10_isTime := goodIn_r _ [15, 16, 17, 18, 7, 19, 20, 10, 11, 12] (by decide +kernel) (by decide +kernel)
set_option maxRecDepth 20000 in
theorem gX10_hides_X10_isTime : GoodIn wsX10_hides (va_wsS RX10 115 yX10_isTime wsX10_isTime) := goodIn_app (goodIn_of _ (by decide +kernel)) ggX10_hides_X10_isTime
set_option maxRecDepth 20000 in
theorem ggX10_hides_X10_dialAt : GoodIn wsX10_hides wsX10_dialAt := goodIn_r _ [24, 25, 26, 5, 6, 7, 8, 9, 10, 11, 12, 27, 28, 29, 30, 31, 32, 33, 34, 35, 162, 163, 164, 165, 166, 167, 168, 169, 170, 171, 172, 173, 187, 188, 189, 190, 191, 192, 193] (by decide +kernel) (by decide +kernel)
set_option maxRecDepth 20000 in
theorem gX10_hides_X10_dialAt : GoodIn wsX10_hides (wsV RX10 177 RX10 yX10_dialAt wsX10_dialAt) := goodIn_app (goodIn_of _ (by decide +kernel)) ggX10_hides_X10_dialAt
set_option maxRecDepth 20000 in
theorem ggX10_hides_X10_stateOf : GoodIn wsX10_hides wsX10_stateOf := goodIn_r _ [39, 3, 25, 40, 41, 42, 43, 44, 45, 46, 47, 48, 49, 50, 28, 29, 30, 31, 32, 33, 7, 34, 35, 10, 11, 12, 51, 52, 53, 54, 55, 56, 57, 58, 59, 60, 61, 62, 63, 64, 65, 66, 67, 68, 69, 70, 71, 72, 73, 74, 75, 76, 77, 78, 79, 80, 81, 82, 83, 84, 85, 86, 87, 88, 89, 90, 91, 92, 93, 94, 95, 96, 97, 98, 99, 100, 101, 102, 103, 104, 105, 106, 107, 108, 109, 110, 111, 112, 113, 114, 115, 116, 117, 118, 119, 120, 121, 122, 123, 124, 125, 126, 127, 128, 129, 130, 131, 132, 133, 134, 135, 136, 137, 138, 139, 140, 141, 142, 143, 144, 145, 146, 147, 148, 149, 150, 151, 152, 153, 154, 155, 156, 157, 158, 159, 160, 161, 162, 163, 164, 165, 166, 167, 168, 169, 170, 171, 172, 173, 187, 188, 189, 190, 191, 192, 193, 174, 175, 176, 177, 178, 179, 180, 181, 182, 183, 184, 185, 186, 194, 195, 196, 197, 198, 199, 200, 201, 202, 203, 204, 205, 206, 207, 208, 209, 210, 211, 212, 213, 214, 215, 216, 217] (by decide +kernel) (by decide +kernel)
set_option maxRecDepth 20000 in
theorem gX10_hides_X10_stateOf : GoodIn wsX10_hides (wsV RX10 228 RX10 yX10_stateOf wsX10_stateOf) := goodIn_app (goodIn_of _ (by decide +kernel)) ggX10_hides_X10_stateOf
theorem dX10_hides_0 : decode cX10_hides 0 = .ok (.iload_n 1, 1) := by decide +kernel
theorem dX10_hides_1 : decode cX10_hides 1 = .ok (.invokestatic 143, 3) := by decide +kernel
theorem dX10_hides_4 : decode cX10_hides 4 = .ok (.ifCond .eq 11, 3) := by decide +kernel
theorem dX10_hides_7 : decode cX10_hides 7 = .ok (.iload_n 2, 1) := by decide +kernel
theorem dX10_hides_8 : decode cX10_hides 8 = .ok (.iload_n 3, 1) := by decide +kernel
theorem dX10_hides_9 : decode cX10_hides 9 = .ok (.invokestatic 115, 3) := by decide +kernel
theorem dX10_hides_12 : decode cX10_hides 12 = .ok (.ifCond .ne 6, 3) := by decide +kernel
theorem dX10_hides_15 : decode cX10_hides 15 = .ok (.ldc 86, 2) := by decide +kernel
theorem dX10_hides_17 : decode cX10_hides 17 = .ok (.ireturn, 1) := by decide +kernel
theorem dX10_hides_18 : decode cX10_hides 18 = .ok (.aload_n 0, 1) := by decide +kernel
theorem dX10_hides_19 : decode cX10_hides 19 = .ok (.iload_n 1, 1) := by decide +kernel
theorem dX10_hides_20 : decode cX10_hides 20 = .ok (.iconst 0, 1) := by decide +kernel
theorem dX10_hides_21 : decode cX10_hides 21 = .ok (.invokevirtual 177, 3) := by decide +kernel
theorem dX10_hides_24 : decode cX10_hides 24 = .ok (.astore 4, 2) := by decide +kernel
theorem dX10_hides_26 : decode cX10_hides 26 = .ok (.aload 4, 2) := by decide +kernel
theorem dX10_hides_28 : decode cX10_hides 28 = .ok (.ifnonnull 6, 3) := by decide +kernel
theorem dX10_hides_31 : decode cX10_hides 31 = .ok (.ldc 176, 2) := by decide +kernel
theorem dX10_hides_33 : decode cX10_hides 33 = .ok (.ireturn, 1) := by decide +kernel
theorem dX10_hides_34 : decode cX10_hides 34 = .ok (.aload_n 0, 1) := by decide +kernel
theorem dX10_hides_35 : decode cX10_hides 35 = .ok (.aload 4, 2) := by decide +kernel
theorem dX10_hides_37 : decode cX10_hides 37 = .ok (.iload_n 2, 1) := by decide +kernel
theorem dX10_hides_38 : decode cX10_hides 38 = .ok (.iload_n 3, 1) := by decide +kernel
theorem dX10_hides_39 : decode cX10_hides 39 = .ok (.invokevirtual 228, 3) := by decide +kernel
theorem dX10_hides_42 : decode cX10_hides 42 = .ok (.iconst 3, 1) := by decide +kernel
theorem dX10_hides_43 : decode cX10_hides 43 = .ok (.if_icmp .ne 13, 3) := by decide +kernel
theorem dX10_hides_46 : decode cX10_hides 46 = .ok (.aload_n 0, 1) := by decide +kernel
theorem dX10_hides_47 : decode cX10_hides 47 = .ok (.getfield 32, 3) := by decide +kernel
theorem dX10_hides_50 : decode cX10_hides 50 = .ok (.getfield 232, 3) := by decide +kernel
theorem dX10_hides_53 : decode cX10_hides 53 = .ok (.goto 5, 3) := by decide +kernel
theorem dX10_hides_56 : decode cX10_hides 56 = .ok (.ldc 235, 2) := by decide +kernel
theorem dX10_hides_58 : decode cX10_hides 58 = .ok (.ireturn, 1) := by decide +kernel
set_option maxRecDepth 20000 in
theorem ggX10_end_X10_isPlace : GoodIn wsX10_end wsX10_isPlace := goodIn_r _ [8, 9, 10, 11, 7, 12] (by decide +kernel) (by decide +kernel)
set_option maxRecDepth 20000 in
theorem gX10_end_X10_isPlace : GoodIn wsX10_end (va_wsS RX10 143 yX10_isPlace wsX10_isPlace) := goodIn_app (goodIn_of _ (by decide +kernel)) ggX10_end_X10_isPlace
set_option maxRecDepth 20000 in
theorem ggX10_end_X10_isTime : GoodIn wsX10_end wsX10_isTime := goodIn_r _ [15, 16, 17, 18, 7, 19, 20, 10, 11, 12] (by decide +kernel) (by decide +kernel)
set_option maxRecDepth 20000 in
theorem gX10_end_X10_isTime : GoodIn wsX10_end (va_wsS RX10 115 yX10_isTime wsX10_isTime) := goodIn_app (goodIn_of _ (by decide +kernel)) ggX10_end_X10_isTime
set_option maxRecDepth 20000 in
theorem ggX10_end_X10_within : GoodIn wsX10_end wsX10_within := goodIn_r _ [12] (by decide +kernel) (by decide +kernel)
set_option maxRecDepth 20000 in
theorem gX10_end_X10_within : GoodIn wsX10_end (va_wsS RX10 82 yX10_within wsX10_within) := goodIn_app (goodIn_of _ (by decide +kernel)) ggX10_end_X10_within
set_option maxRecDepth 20000 in
theorem ggX10_end_X10_dialAt : GoodIn wsX10_end wsX10_dialAt := goodIn_r _ [24, 25, 26, 5, 6, 7, 8, 9, 10, 11, 12, 27, 28, 29, 30, 31, 32, 33, 34, 35, 162, 163, 164, 165, 166, 167, 168, 169, 170, 171, 172, 173, 187, 188, 189, 190, 191, 192, 193] (by decide +kernel) (by decide +kernel)
set_option maxRecDepth 20000 in
theorem gX10_end_X10_dialAt : GoodIn wsX10_end (wsV RX10 177 RX10 yX10_dialAt wsX10_dialAt) := goodIn_app (goodIn_of _ (by decide +kernel)) ggX10_end_X10_dialAt
set_option maxRecDepth 20000 in
theorem ggX10_end_X10_stateOf : GoodIn wsX10_end wsX10_stateOf := goodIn_r _ [39, 4, 25, 40, 41, 42, 43, 44, 45, 46, 47, 48, 49, 50, 28, 29, 30, 31, 32, 33, 7, 34, 35, 10, 11, 12, 51, 52, 53, 54, 55, 56, 57, 58, 59, 60, 61, 62, 63, 64, 65, 66, 67, 68, 69, 70, 71, 72, 73, 74, 75, 76, 77, 78, 79, 80, 81, 82, 83, 84, 85, 86, 87, 88, 89, 90, 91, 92, 93, 94, 95, 96, 97, 98, 99, 100, 101, 102, 103, 104, 105, 106, 107, 108, 109, 110, 111, 112, 113, 114, 115, 116, 117, 118, 119, 120, 121, 122, 123, 124, 125, 126, 127, 128, 129, 130, 131, 132, 133, 134, 135, 136, 137, 138, 139, 140, 141, 142, 143, 144, 145, 146, 147, 148, 149, 150, 151, 152, 153, 154, 155, 156, 157, 158, 159, 160, 161, 162, 163, 164, 165, 166, 167, 168, 169, 170, 171, 172, 173, 187, 188, 189, 190, 191, 192, 193, 174, 175, 176, 177, 178, 179, 180, 181, 182, 183, 184, 185, 186, 194, 195, 196, 197, 198, 199, 200, 201, 202, 203, 204, 205, 206, 207, 208, 209, 210, 211, 212, 213, 214, 215, 216, 217] (by decide +kernel) (by decide +kernel)
set_option maxRecDepth 20000 in
theorem gX10_end_X10_stateOf : GoodIn wsX10_end (wsV RX10 228 RX10 yX10_stateOf wsX10_stateOf) := goodIn_app (goodIn_of _ (by decide +kernel)) ggX10_end_X10_stateOf
theorem dX10_end_0 : decode cX10_end 0 = .ok (.iload_n 1, 1) := by decide +kernel
theorem dX10_end_1 : decode cX10_end 1 = .ok (.invokestatic 143, 3) := by decide +kernel
theorem dX10_end_4 : decode cX10_end 4 = .ok (.ifCond .eq 22, 3) := by decide +kernel
theorem dX10_end_7 : decode cX10_end 7 = .ok (.iload_n 2, 1) := by decide +kernel
theorem dX10_end_8 : decode cX10_end 8 = .ok (.iload_n 3, 1) := by decide +kernel
theorem dX10_end_9 : decode cX10_end 9 = .ok (.invokestatic 115, 3) := by decide +kernel
theorem dX10_end_12 : decode cX10_end 12 = .ok (.ifCond .eq 14, 3) := by decide +kernel
theorem dX10_end_15 : decode cX10_end 15 = .ok (.iload 4, 2) := by decide +kernel
theorem dX10_end_17 : decode cX10_end 17 = .ok (.i2l, 1) := by decide +kernel
theorem dX10_end_18 : decode cX10_end 18 = .ok (.lconst 0, 1) := by decide +kernel
theorem dX10_end_19 : decode cX10_end 19 = .ok (.lconst 1, 1) := by decide +kernel
theorem dX10_end_20 : decode cX10_end 20 = .ok (.invokestatic 82, 3) := by decide +kernel
theorem dX10_end_23 : decode cX10_end 23 = .ok (.ifCond .ne 6, 3) := by decide +kernel
theorem dX10_end_26 : decode cX10_end 26 = .ok (.ldc 86, 2) := by decide +kernel
theorem dX10_end_28 : decode cX10_end 28 = .ok (.ireturn, 1) := by decide +kernel
theorem dX10_end_29 : decode cX10_end 29 = .ok (.aload_n 0, 1) := by decide +kernel
theorem dX10_end_30 : decode cX10_end 30 = .ok (.iload_n 1, 1) := by decide +kernel
theorem dX10_end_31 : decode cX10_end 31 = .ok (.iconst 0, 1) := by decide +kernel
theorem dX10_end_32 : decode cX10_end 32 = .ok (.invokevirtual 177, 3) := by decide +kernel
theorem dX10_end_35 : decode cX10_end 35 = .ok (.astore 5, 2) := by decide +kernel
theorem dX10_end_37 : decode cX10_end 37 = .ok (.aload 5, 2) := by decide +kernel
theorem dX10_end_39 : decode cX10_end 39 = .ok (.ifnonnull 6, 3) := by decide +kernel
theorem dX10_end_42 : decode cX10_end 42 = .ok (.ldc 176, 2) := by decide +kernel
theorem dX10_end_44 : decode cX10_end 44 = .ok (.ireturn, 1) := by decide +kernel
theorem dX10_end_45 : decode cX10_end 45 = .ok (.aload_n 0, 1) := by decide +kernel
theorem dX10_end_46 : decode cX10_end 46 = .ok (.aload 5, 2) := by decide +kernel
theorem dX10_end_48 : decode cX10_end 48 = .ok (.iload_n 2, 1) := by decide +kernel
theorem dX10_end_49 : decode cX10_end 49 = .ok (.iload_n 3, 1) := by decide +kernel
theorem dX10_end_50 : decode cX10_end 50 = .ok (.invokevirtual 228, 3) := by decide +kernel
theorem dX10_end_53 : decode cX10_end 53 = .ok (.ifCond .eq 6, 3) := by decide +kernel
theorem dX10_end_56 : decode cX10_end 56 = .ok (.ldc 235, 2) := by decide +kernel
theorem dX10_end_58 : decode cX10_end 58 = .ok (.ireturn, 1) := by decide +kernel
theorem dX10_end_59 : decode cX10_end 59 = .ok (.iload 4, 2) := by decide +kernel
theorem dX10_end_61 : decode cX10_end 61 = .ok (.ifCond .ne 13, 3) := by decide +kernel
theorem dX10_end_64 : decode cX10_end 64 = .ok (.aload_n 0, 1) := by decide +kernel
theorem dX10_end_65 : decode cX10_end 65 = .ok (.getfield 32, 3) := by decide +kernel
theorem dX10_end_68 : decode cX10_end 68 = .ok (.getfield 236, 3) := by decide +kernel
theorem dX10_end_71 : decode cX10_end 71 = .ok (.goto 10, 3) := by decide +kernel
theorem dX10_end_74 : decode cX10_end 74 = .ok (.aload_n 0, 1) := by decide +kernel
theorem dX10_end_75 : decode cX10_end 75 = .ok (.getfield 32, 3) := by decide +kernel
theorem dX10_end_78 : decode cX10_end 78 = .ok (.getfield 239, 3) := by decide +kernel
theorem dX10_end_81 : decode cX10_end 81 = .ok (.ireturn, 1) := by decide +kernel
set_option maxRecDepth 20000 in
theorem ggX10_line_X10_isPlace : GoodIn wsX10_line wsX10_isPlace := goodIn_r _ [10, 11, 12, 13, 9, 14] (by decide +kernel) (by decide +kernel)
set_option maxRecDepth 20000 in
theorem gX10_line_X10_isPlace : GoodIn wsX10_line (va_wsS RX10 143 yX10_isPlace wsX10_isPlace) := goodIn_app (goodIn_of _ (by decide +kernel)) ggX10_line_X10_isPlace
set_option maxRecDepth 20000 in
theorem ggX10_line_X10_isHour : GoodIn wsX10_line wsX10_isHour := goodIn_r _ [17, 18, 12, 13, 9, 14] (by decide +kernel) (by decide +kernel)
set_option maxRecDepth 20000 in
theorem gX10_line_X10_isHour : GoodIn wsX10_line (va_wsS RX10 199 yX10_isHour wsX10_isHour) := goodIn_app (goodIn_of _ (by decide +kernel)) ggX10_line_X10_isHour
set_option maxRecDepth 20000 in
theorem ggX10_line_X10_within : GoodIn wsX10_line wsX10_within := goodIn_r _ [14] (by decide +kernel) (by decide +kernel)
set_option maxRecDepth 20000 in
theorem gX10_line_X10_within : GoodIn wsX10_line (va_wsS RX10 82 yX10_within wsX10_within) := goodIn_app (goodIn_of _ (by decide +kernel)) ggX10_line_X10_within
set_option maxRecDepth 20000 in
theorem ggX10_line_X10_dialAt : GoodIn wsX10_line wsX10_dialAt := goodIn_r _ [22, 23, 24, 7, 8, 9, 10, 11, 12, 13, 14, 25, 26, 27, 28, 29, 30, 31, 32, 33, 182, 183, 184, 185, 186, 187, 188, 189, 190, 191, 192, 193, 197, 198, 199, 200, 201, 202, 203] (by decide +kernel) (by decide +kernel)
set_option maxRecDepth 20000 in
theorem gX10_line_X10_dialAt : GoodIn wsX10_line (wsV RX10 177 RX10 yX10_dialAt wsX10_dialAt) := goodIn_app (goodIn_of _ (by decide +kernel)) ggX10_line_X10_dialAt
set_option maxRecDepth 20000 in
theorem ggX10_line_X10_followLine : GoodIn wsX10_line wsX10_followLine := goodIn_r _ [37, 4, 5, 6, 38, 23, 39, 40, 41, 42, 43, 44, 45, 46, 47, 48, 49, 50, 51, 52, 53, 54, 55, 26, 27, 28, 29, 30, 31, 9, 32, 33, 12, 13, 14, 56, 57, 58, 59, 60, 61, 62, 63, 64, 65, 66, 67, 68, 69, 70, 71, 72, 73, 74, 75, 76, 77, 78, 79, 80, 81, 82, 83, 84, 85, 86, 87, 88, 89, 90, 91, 92, 93, 94, 95, 96, 97, 98, 99, 100, 101, 102, 103, 104, 105, 106, 107, 108, 109, 110, 111, 112, 113, 114, 115, 116, 117, 118, 119, 120, 121, 122, 123, 124, 125, 126, 127, 128, 129, 130, 131, 132, 133, 134, 135, 136, 137, 138, 139, 140, 141, 142, 143, 144, 145, 146, 147, 148, 149, 150, 151, 152, 153, 154, 155, 156, 157, 158, 159, 160, 161, 162, 163, 164, 165, 166, 167, 168, 169, 170, 171, 172, 182, 183, 184, 185, 186, 187, 188, 189, 190, 191, 192, 193, 204, 205, 206, 207, 208, 209, 210, 211, 212, 213, 214, 215, 216, 194, 195, 196, 197, 198, 199, 200, 201, 202, 203, 217, 218, 219, 220, 221, 222, 223, 224, 225, 226, 227, 228, 229, 230, 231, 232, 233, 234, 235, 236, 237, 238, 239, 240] (by decide +kernel) (by decide +kernel)
set_option maxRecDepth 20000 in
theorem gX10_line_X10_followLine : GoodIn wsX10_line (wsV RX10 244 RX10 yX10_followLine wsX10_followLine) := goodIn_app (goodIn_of _ (by decide +kernel)) ggX10_line_X10_followLine
set_option maxRecDepth 20000 in
theorem ggX10_line_X4_leastOrNone : GoodIn wsX10_line wsX4_leastOrNone := goodIn_r _ [176, 45, 177, 171, 194, 195, 196] (by decide +kernel) (by decide +kernel)
set_option maxRecDepth 20000 in
theorem gX10_line_X4_leastOrNone : GoodIn wsX10_line (wsV RX10 251 RX4 yX4_leastOrNone wsX4_leastOrNone) := goodIn_app (goodIn_of _ (by decide +kernel)) ggX10_line_X4_leastOrNone
set_option maxRecDepth 20000 in
theorem ggX10_line_X4_greatestOrNone : GoodIn wsX10_line wsX4_greatestOrNone := goodIn_r _ [181, 45, 177, 172, 194, 195, 196] (by decide +kernel) (by decide +kernel)
set_option maxRecDepth 20000 in
theorem gX10_line_X4_greatestOrNone : GoodIn wsX10_line (wsV RX10 254 RX4 yX4_greatestOrNone wsX4_greatestOrNone) := goodIn_app (goodIn_of _ (by decide +kernel)) ggX10_line_X4_greatestOrNone
theorem dX10_line_0 : decode cX10_line 0 = .ok (.iload_n 1, 1) := by decide +kernel
theorem dX10_line_1 : decode cX10_line 1 = .ok (.invokestatic 143, 3) := by decide +kernel
theorem dX10_line_4 : decode cX10_line 4 = .ok (.ifCond .eq 22, 3) := by decide +kernel
theorem dX10_line_7 : decode cX10_line 7 = .ok (.iload_n 2, 1) := by decide +kernel
theorem dX10_line_8 : decode cX10_line 8 = .ok (.invokestatic 199, 3) := by decide +kernel
theorem dX10_line_11 : decode cX10_line 11 = .ok (.ifCond .eq 15, 3) := by decide +kernel
theorem dX10_line_14 : decode cX10_line 14 = .ok (.iload_n 3, 1) := by decide +kernel
theorem dX10_line_15 : decode cX10_line 15 = .ok (.i2l, 1) := by decide +kernel
theorem dX10_line_16 : decode cX10_line 16 = .ok (.lconst 0, 1) := by decide +kernel
theorem dX10_line_17 : decode cX10_line 17 = .ok (.ldc2_w 242, 3) := by decide +kernel
theorem dX10_line_20 : decode cX10_line 20 = .ok (.invokestatic 82, 3) := by decide +kernel
theorem dX10_line_23 : decode cX10_line 23 = .ok (.ifCond .ne 6, 3) := by decide +kernel
theorem dX10_line_26 : decode cX10_line 26 = .ok (.ldc 86, 2) := by decide +kernel
theorem dX10_line_28 : decode cX10_line 28 = .ok (.ireturn, 1) := by decide +kernel
theorem dX10_line_29 : decode cX10_line 29 = .ok (.aload_n 0, 1) := by decide +kernel
theorem dX10_line_30 : decode cX10_line 30 = .ok (.iload_n 1, 1) := by decide +kernel
theorem dX10_line_31 : decode cX10_line 31 = .ok (.iconst 0, 1) := by decide +kernel
theorem dX10_line_32 : decode cX10_line 32 = .ok (.invokevirtual 177, 3) := by decide +kernel
theorem dX10_line_35 : decode cX10_line 35 = .ok (.astore 4, 2) := by decide +kernel
theorem dX10_line_37 : decode cX10_line 37 = .ok (.aload 4, 2) := by decide +kernel
theorem dX10_line_39 : decode cX10_line 39 = .ok (.ifnonnull 6, 3) := by decide +kernel
theorem dX10_line_42 : decode cX10_line 42 = .ok (.ldc 176, 2) := by decide +kernel
theorem dX10_line_44 : decode cX10_line 44 = .ok (.ireturn, 1) := by decide +kernel
theorem dX10_line_45 : decode cX10_line 45 = .ok (.aload_n 0, 1) := by decide +kernel
theorem dX10_line_46 : decode cX10_line 46 = .ok (.aload 4, 2) := by decide +kernel
theorem dX10_line_48 : decode cX10_line 48 = .ok (.iload_n 2, 1) := by decide +kernel
theorem dX10_line_49 : decode cX10_line 49 = .ok (.invokevirtual 244, 3) := by decide +kernel
theorem dX10_line_52 : decode cX10_line 52 = .ok (.iload_n 3, 1) := by decide +kernel
theorem dX10_line_53 : decode cX10_line 53 = .ok (.tableswitch 87 0 5 #[39, 47, 55, 63, 71, 79], 39) := by decide +kernel
theorem dX10_line_92 : decode cX10_line 92 = .ok (.aload_n 0, 1) := by decide +kernel
theorem dX10_line_93 : decode cX10_line 93 = .ok (.getfield 61, 3) := by decide +kernel
theorem dX10_line_96 : decode cX10_line 96 = .ok (.getfield 248, 3) := by decide +kernel
theorem dX10_line_99 : decode cX10_line 99 = .ok (.ireturn, 1) := by decide +kernel
theorem dX10_line_100 : decode cX10_line 100 = .ok (.aload_n 0, 1) := by decide +kernel
theorem dX10_line_101 : decode cX10_line 101 = .ok (.getfield 61, 3) := by decide +kernel
theorem dX10_line_104 : decode cX10_line 104 = .ok (.invokevirtual 251, 3) := by decide +kernel
theorem dX10_line_107 : decode cX10_line 107 = .ok (.ireturn, 1) := by decide +kernel
theorem dX10_line_108 : decode cX10_line 108 = .ok (.aload_n 0, 1) := by decide +kernel
theorem dX10_line_109 : decode cX10_line 109 = .ok (.getfield 61, 3) := by decide +kernel
theorem dX10_line_112 : decode cX10_line 112 = .ok (.invokevirtual 254, 3) := by decide +kernel
theorem dX10_line_115 : decode cX10_line 115 = .ok (.ireturn, 1) := by decide +kernel
theorem dX10_line_116 : decode cX10_line 116 = .ok (.aload_n 0, 1) := by decide +kernel
theorem dX10_line_117 : decode cX10_line 117 = .ok (.getfield 65, 3) := by decide +kernel
theorem dX10_line_120 : decode cX10_line 120 = .ok (.invokevirtual 251, 3) := by decide +kernel
theorem dX10_line_123 : decode cX10_line 123 = .ok (.ireturn, 1) := by decide +kernel
theorem dX10_line_124 : decode cX10_line 124 = .ok (.aload_n 0, 1) := by decide +kernel
theorem dX10_line_125 : decode cX10_line 125 = .ok (.getfield 65, 3) := by decide +kernel
theorem dX10_line_128 : decode cX10_line 128 = .ok (.invokevirtual 254, 3) := by decide +kernel
theorem dX10_line_131 : decode cX10_line 131 = .ok (.ireturn, 1) := by decide +kernel
theorem dX10_line_132 : decode cX10_line 132 = .ok (.aload_n 0, 1) := by decide +kernel
theorem dX10_line_133 : decode cX10_line 133 = .ok (.getfield 68, 3) := by decide +kernel
theorem dX10_line_136 : decode cX10_line 136 = .ok (.invokevirtual 251, 3) := by decide +kernel
theorem dX10_line_139 : decode cX10_line 139 = .ok (.ireturn, 1) := by decide +kernel
theorem dX10_line_140 : decode cX10_line 140 = .ok (.aload_n 0, 1) := by decide +kernel
theorem dX10_line_141 : decode cX10_line 141 = .ok (.getfield 68, 3) := by decide +kernel
theorem dX10_line_144 : decode cX10_line 144 = .ok (.invokevirtual 254, 3) := by decide +kernel
theorem dX10_line_147 : decode cX10_line 147 = .ok (.ireturn, 1) := by decide +kernel
set_option maxRecDepth 20000 in
theorem ggX10_read_X10_isPlace : GoodIn wsX10_read wsX10_isPlace := goodIn_r _ [11, 12, 13, 14, 10, 15] (by decide +kernel) (by decide +kernel)
set_option maxRecDepth 20000 in
theorem gX10_read_X10_isPlace : GoodIn wsX10_read (va_wsS RX10 143 yX10_isPlace wsX10_isPlace) := goodIn_app (goodIn_of _ (by decide +kernel)) ggX10_read_X10_isPlace
set_option maxRecDepth 20000 in
theorem ggX10_read_X10_isTime : GoodIn wsX10_read wsX10_isTime := goodIn_r _ [18, 19, 20, 21, 10, 22, 23, 13, 14, 15] (by decide +kernel) (by decide +kernel)
set_option maxRecDepth 20000 in
theorem gX10_read_X10_isTime : GoodIn wsX10_read (va_wsS RX10 115 yX10_isTime wsX10_isTime) := goodIn_app (goodIn_of _ (by decide +kernel)) ggX10_read_X10_isTime
set_option maxRecDepth 20000 in
theorem ggX10_read_X10_within : GoodIn wsX10_read wsX10_within := goodIn_r _ [15] (by decide +kernel) (by decide +kernel)
set_option maxRecDepth 20000 in
theorem gX10_read_X10_within : GoodIn wsX10_read (va_wsS RX10 82 yX10_within wsX10_within) := goodIn_app (goodIn_of _ (by decide +kernel)) ggX10_read_X10_within
set_option maxRecDepth 20000 in
theorem ggX10_read_X10_dialAt : GoodIn wsX10_read wsX10_dialAt := goodIn_r _ [27, 5, 28, 8, 9, 10, 11, 12, 13, 14, 15, 29, 30, 31, 32, 33, 34, 35, 36, 37, 190, 191, 192, 193, 194, 195, 196, 197, 198, 199, 200, 201, 209, 210, 211, 212, 213, 214, 215] (by decide +kernel) (by decide +kernel)
set_option maxRecDepth 20000 in
theorem gX10_read_X10_dialAt : GoodIn wsX10_read (wsV RX10 177 RX10 yX10_dialAt wsX10_dialAt) := goodIn_app (goodIn_of _ (by decide +kernel)) ggX10_read_X10_dialAt
set_option maxRecDepth 20000 in
theorem ggX10_read_X6_setUp : GoodIn wsX10_read wsX6_setUp := goodIn_r _ [42, 43, 44, 45, 46, 47, 30, 31, 32, 33, 34, 35, 10, 36, 37, 13, 14, 15, 48, 49, 50, 41, 51, 52, 53, 54, 55, 56, 57, 58, 59, 60, 61, 62, 63, 64, 65, 66, 67, 68, 69, 70, 71, 72, 73, 74, 75, 76, 77, 78, 79, 80, 209, 210, 211, 212, 213, 214, 215, 216, 217, 218, 219, 220, 221, 222, 223, 224, 225, 226, 227, 228, 229, 230, 231] (by decide +kernel) (by decide +kernel)
set_option maxRecDepth 20000 in
theorem gX10_read_X6_setUp : GoodIn wsX10_read (wsV RX10 259 RX6 yX6_setUp wsX6_setUp) := goodIn_app (goodIn_of _ (by decide +kernel)) ggX10_read_X6_setUp
set_option maxRecDepth 20000 in
theorem ggX10_read_X10_setMarks : GoodIn wsX10_read wsX10_setMarks := goodIn_r _ [84, 7, 85, 4, 86, 87, 88, 89, 90, 91, 92, 93, 94, 95, 96, 97, 98, 99, 100, 101, 102, 14, 10, 15, 103, 104, 105, 106, 55, 56, 57, 58, 59, 63, 64, 60, 61, 62, 107, 108, 109, 32, 110, 111, 112, 113, 114, 115, 116, 117, 118, 119, 120, 121, 122, 41, 123, 124, 125, 126, 127, 128, 129, 77, 79, 43, 44, 80, 130, 131, 132, 133, 134, 135, 136, 137, 138, 139, 140, 141, 142, 143, 52, 46, 45, 53, 54, 144, 145, 146, 147, 148, 68, 149, 70, 71, 72, 150, 151, 152, 153, 154, 155, 156, 157, 158, 159, 160, 161, 162, 163, 164, 13, 165, 166, 167, 168, 169, 170, 171, 172, 173, 190, 191, 192, 193, 194, 195, 196, 197, 198, 199, 200, 201, 202, 203, 204, 205, 206, 207, 208, 216, 217, 218, 219, 220, 221, 222, 223, 224, 225, 226, 227, 228, 232, 233, 234, 235, 236, 237, 238, 239, 240, 241, 242, 243, 244, 245, 246, 247, 209, 210, 211, 212, 213, 214, 215, 248, 249, 250, 251, 252, 229, 230, 231] (by decide +kernel) (by decide +kernel)
set_option maxRecDepth 20000 in
theorem gX10_read_X10_setMarks : GoodIn wsX10_read (wsV RX10 263 RX10 yX10_setMarks wsX10_setMarks) := goodIn_app (goodIn_of _ (by decide +kernel)) ggX10_read_X10_setMarks
set_option maxRecDepth 20000 in
theorem ggX10_read_X10_hasReading : GoodIn wsX10_read wsX10_hasReading := goodIn_r _ [177, 85, 4, 7, 112, 113, 114, 89, 115, 93, 116, 96, 117, 98, 100, 118, 101, 102, 119, 103, 104, 105, 106, 60, 10, 61, 62, 55, 56, 57, 58, 59, 63, 64, 120, 121, 122, 41, 123, 124, 125, 126, 127, 128, 129, 77, 79, 43, 44, 80, 130, 131, 132, 133, 134, 135, 136, 137, 138, 139, 140, 141, 142, 143, 52, 46, 45, 53, 54, 144, 145, 146, 147, 148, 68, 149, 70, 71, 72, 150, 151, 152, 153, 154, 155, 156, 157, 158, 159, 160, 161, 162, 163, 164, 13, 14, 15, 29, 30, 31, 32, 33, 34, 35, 36, 37, 178, 179, 180, 168, 181, 182, 170, 173, 183, 184, 185, 186, 172, 171, 187, 188, 189, 190, 191, 192, 193, 194, 195, 196, 197, 198, 199, 200, 201, 216, 217, 218, 219, 220, 221, 222, 223, 224, 225, 226, 227, 228, 232, 233, 234, 235, 236, 237, 238, 239, 240, 241, 242, 243, 244, 245, 246, 247, 248, 249, 250, 251, 252, 229, 230, 231, 209, 210, 211, 212, 213, 214, 215, 202, 203, 204, 205, 206, 207, 208] (by decide +kernel) (by decide +kernel)
set_option maxRecDepth 20000 in
theorem gX10_read_X10_hasReading : GoodIn wsX10_read (wsV RX10 266 RX10 yX10_hasReading wsX10_hasReading) := goodIn_app (goodIn_of _ (by decide +kernel)) ggX10_read_X10_hasReading
theorem dX10_read_0 : decode cX10_read 0 = .ok (.iload_n 1, 1) := by decide +kernel
theorem dX10_read_1 : decode cX10_read 1 = .ok (.invokestatic 143, 3) := by decide +kernel
theorem dX10_read_4 : decode cX10_read 4 = .ok (.ifCond .eq 24, 3) := by decide +kernel
theorem dX10_read_7 : decode cX10_read 7 = .ok (.iload_n 2, 1) := by decide +kernel
theorem dX10_read_8 : decode cX10_read 8 = .ok (.iload_n 3, 1) := by decide +kernel
theorem dX10_read_9 : decode cX10_read 9 = .ok (.invokestatic 115, 3) := by decide +kernel
theorem dX10_read_12 : decode cX10_read 12 = .ok (.ifCond .eq 16, 3) := by decide +kernel
theorem dX10_read_15 : decode cX10_read 15 = .ok (.iload 4, 2) := by decide +kernel
theorem dX10_read_17 : decode cX10_read 17 = .ok (.i2l, 1) := by decide +kernel
theorem dX10_read_18 : decode cX10_read 18 = .ok (.lconst 0, 1) := by decide +kernel
theorem dX10_read_19 : decode cX10_read 19 = .ok (.ldc2_w 257, 3) := by decide +kernel
theorem dX10_read_22 : decode cX10_read 22 = .ok (.invokestatic 82, 3) := by decide +kernel
theorem dX10_read_25 : decode cX10_read 25 = .ok (.ifCond .ne 6, 3) := by decide +kernel
theorem dX10_read_28 : decode cX10_read 28 = .ok (.ldc 86, 2) := by decide +kernel
theorem dX10_read_30 : decode cX10_read 30 = .ok (.ireturn, 1) := by decide +kernel
theorem dX10_read_31 : decode cX10_read 31 = .ok (.aload_n 0, 1) := by decide +kernel
theorem dX10_read_32 : decode cX10_read 32 = .ok (.iload_n 1, 1) := by decide +kernel
theorem dX10_read_33 : decode cX10_read 33 = .ok (.iconst 0, 1) := by decide +kernel
theorem dX10_read_34 : decode cX10_read 34 = .ok (.invokevirtual 177, 3) := by decide +kernel
theorem dX10_read_37 : decode cX10_read 37 = .ok (.astore 5, 2) := by decide +kernel
theorem dX10_read_39 : decode cX10_read 39 = .ok (.aload 5, 2) := by decide +kernel
theorem dX10_read_41 : decode cX10_read 41 = .ok (.ifnonnull 6, 3) := by decide +kernel
theorem dX10_read_44 : decode cX10_read 44 = .ok (.ldc 176, 2) := by decide +kernel
theorem dX10_read_46 : decode cX10_read 46 = .ok (.ireturn, 1) := by decide +kernel
theorem dX10_read_47 : decode cX10_read 47 = .ok (.aload_n 0, 1) := by decide +kernel
theorem dX10_read_48 : decode cX10_read 48 = .ok (.getfield 32, 3) := by decide +kernel
theorem dX10_read_51 : decode cX10_read 51 = .ok (.aload 5, 2) := by decide +kernel
theorem dX10_read_53 : decode cX10_read 53 = .ok (.aload_n 0, 1) := by decide +kernel
theorem dX10_read_54 : decode cX10_read 54 = .ok (.getfield 18, 3) := by decide +kernel
theorem dX10_read_57 : decode cX10_read 57 = .ok (.invokevirtual 259, 3) := by decide +kernel
theorem dX10_read_60 : decode cX10_read 60 = .ok (.aload_n 0, 1) := by decide +kernel
theorem dX10_read_61 : decode cX10_read 61 = .ok (.aload 5, 2) := by decide +kernel
theorem dX10_read_63 : decode cX10_read 63 = .ok (.iload_n 2, 1) := by decide +kernel
theorem dX10_read_64 : decode cX10_read 64 = .ok (.invokevirtual 263, 3) := by decide +kernel
theorem dX10_read_67 : decode cX10_read 67 = .ok (.aload_n 0, 1) := by decide +kernel
theorem dX10_read_68 : decode cX10_read 68 = .ok (.aload 5, 2) := by decide +kernel
theorem dX10_read_70 : decode cX10_read 70 = .ok (.iload_n 3, 1) := by decide +kernel
theorem dX10_read_71 : decode cX10_read 71 = .ok (.invokevirtual 266, 3) := by decide +kernel
theorem dX10_read_74 : decode cX10_read 74 = .ok (.ifCond .ne 6, 3) := by decide +kernel
theorem dX10_read_77 : decode cX10_read 77 = .ok (.ldc 235, 2) := by decide +kernel
theorem dX10_read_79 : decode cX10_read 79 = .ok (.ireturn, 1) := by decide +kernel
theorem dX10_read_80 : decode cX10_read 80 = .ok (.iload 4, 2) := by decide +kernel
theorem dX10_read_82 : decode cX10_read 82 = .ok (.lookupswitch 42 #[(0, 26), (1, 34)], 26) := by decide +kernel
theorem dX10_read_108 : decode cX10_read 108 = .ok (.aload_n 0, 1) := by decide +kernel
theorem dX10_read_109 : decode cX10_read 109 = .ok (.getfield 39, 3) := by decide +kernel
theorem dX10_read_112 : decode cX10_read 112 = .ok (.getfield 270, 3) := by decide +kernel
theorem dX10_read_115 : decode cX10_read 115 = .ok (.ireturn, 1) := by decide +kernel
theorem dX10_read_116 : decode cX10_read 116 = .ok (.aload_n 0, 1) := by decide +kernel
theorem dX10_read_117 : decode cX10_read 117 = .ok (.getfield 39, 3) := by decide +kernel
theorem dX10_read_120 : decode cX10_read 120 = .ok (.getfield 273, 3) := by decide +kernel
theorem dX10_read_123 : decode cX10_read 123 = .ok (.ireturn, 1) := by decide +kernel
theorem dX10_read_124 : decode cX10_read 124 = .ok (.aload_n 0, 1) := by decide +kernel
theorem dX10_read_125 : decode cX10_read 125 = .ok (.getfield 39, 3) := by decide +kernel
theorem dX10_read_128 : decode cX10_read 128 = .ok (.getfield 276, 3) := by decide +kernel
theorem dX10_read_131 : decode cX10_read 131 = .ok (.ireturn, 1) := by decide +kernel
set_option maxRecDepth 20000 in
theorem ggX10_late_X10_isPlace : GoodIn wsX10_late wsX10_isPlace := goodIn_r _ [15, 16, 17, 18, 14, 19] (by decide +kernel) (by decide +kernel)
set_option maxRecDepth 20000 in
theorem gX10_late_X10_isPlace : GoodIn wsX10_late (va_wsS RX10 143 yX10_isPlace wsX10_isPlace) := goodIn_app (goodIn_of _ (by decide +kernel)) ggX10_late_X10_isPlace
set_option maxRecDepth 20000 in
theorem ggX10_late_X10_isDay : GoodIn wsX10_late wsX10_isDay := goodIn_r _ [22, 23, 17, 18, 14, 19] (by decide +kernel) (by decide +kernel)
set_option maxRecDepth 20000 in
theorem gX10_late_X10_isDay : GoodIn wsX10_late (va_wsS RX10 279 yX10_isDay wsX10_isDay) := goodIn_app (goodIn_of _ (by decide +kernel)) ggX10_late_X10_isDay
set_option maxRecDepth 20000 in
theorem ggX10_late_X10_within : GoodIn wsX10_late wsX10_within := goodIn_r _ [19] (by decide +kernel) (by decide +kernel)
set_option maxRecDepth 20000 in
theorem gX10_late_X10_within : GoodIn wsX10_late (va_wsS RX10 82 yX10_within wsX10_within) := goodIn_app (goodIn_of _ (by decide +kernel)) ggX10_late_X10_within
set_option maxRecDepth 20000 in
theorem ggX10_late_X10_dialAt : GoodIn wsX10_late wsX10_dialAt := goodIn_r _ [27, 5, 28, 12, 13, 14, 15, 16, 17, 18, 19, 29, 30, 31, 32, 33, 34, 35, 36, 37, 190, 191, 192, 193, 194, 195, 196, 197, 198, 199, 200, 201, 209, 210, 211, 212, 213, 214, 215] (by decide +kernel) (by decide +kernel)
set_option maxRecDepth 20000 in
theorem gX10_late_X10_dialAt : GoodIn wsX10_late (wsV RX10 177 RX10 yX10_dialAt wsX10_dialAt) := goodIn_app (goodIn_of _ (by decide +kernel)) ggX10_late_X10_dialAt
set_option maxRecDepth 20000 in
theorem ggX10_late_X6_setUp : GoodIn wsX10_late wsX6_setUp := goodIn_r _ [42, 43, 44, 45, 46, 47, 30, 31, 32, 33, 34, 35, 14, 36, 37, 17, 18, 19, 48, 49, 50, 41, 51, 52, 53, 54, 55, 56, 57, 58, 59, 60, 61, 62, 63, 64, 65, 66, 67, 68, 69, 70, 71, 72, 73, 74, 75, 76, 77, 78, 79, 80, 209, 210, 211, 212, 213, 214, 215, 216, 217, 218, 219, 220, 221, 222, 223, 224, 225, 226, 227, 228, 229, 230, 231] (by decide +kernel) (by decide +kernel)
set_option maxRecDepth 20000 in
theorem gX10_late_X6_setUp : GoodIn wsX10_late (wsV RX10 259 RX6 yX6_setUp wsX6_setUp) := goodIn_app (goodIn_of _ (by decide +kernel)) ggX10_late_X6_setUp
set_option maxRecDepth 20000 in
theorem ggX10_late_X10_setMarks : GoodIn wsX10_late wsX10_setMarks := goodIn_r _ [84, 7, 85, 4, 86, 87, 88, 89, 90, 91, 92, 93, 94, 95, 96, 97, 98, 99, 100, 101, 102, 18, 14, 19, 103, 104, 105, 106, 55, 56, 57, 58, 59, 63, 64, 60, 61, 62, 107, 108, 109, 32, 110, 111, 112, 113, 114, 115, 116, 117, 118, 119, 120, 121, 122, 41, 123, 124, 125, 126, 127, 128, 129, 77, 79, 43, 44, 80, 130, 131, 132, 133, 134, 135, 136, 137, 138, 139, 140, 141, 142, 143, 52, 46, 45, 53, 54, 144, 145, 146, 147, 148, 68, 149, 70, 71, 72, 150, 151, 152, 153, 154, 155, 156, 157, 158, 159, 160, 161, 162, 163, 164, 17, 165, 166, 167, 168, 169, 170, 171, 172, 173, 190, 191, 192, 193, 194, 195, 196, 197, 198, 199, 200, 201, 202, 203, 204, 205, 206, 207, 208, 216, 217, 218, 219, 220, 221, 222, 223, 224, 225, 226, 227, 228, 232, 233, 234, 235, 236, 237, 238, 239, 240, 241, 242, 243, 244, 245, 246, 247, 209, 210, 211, 212, 213, 214, 215, 248, 249, 250, 251, 252, 229, 230, 231] (by decide +kernel) (by decide +kernel)
set_option maxRecDepth 20000 in
theorem gX10_late_X10_setMarks : GoodIn wsX10_late (wsV RX10 263 RX10 yX10_setMarks wsX10_setMarks) := goodIn_app (goodIn_of _ (by decide +kernel)) ggX10_late_X10_setMarks
set_option maxRecDepth 20000 in
theorem ggX10_late_X10_hasReading : GoodIn wsX10_late wsX10_hasReading := goodIn_r _ [177, 85, 4, 7, 112, 113, 114, 89, 115, 93, 116, 96, 117, 98, 100, 118, 101, 102, 119, 103, 104, 105, 106, 60, 14, 61, 62, 55, 56, 57, 58, 59, 63, 64, 120, 121, 122, 41, 123, 124, 125, 126, 127, 128, 129, 77, 79, 43, 44, 80, 130, 131, 132, 133, 134, 135, 136, 137, 138, 139, 140, 141, 142, 143, 52, 46, 45, 53, 54, 144, 145, 146, 147, 148, 68, 149, 70, 71, 72, 150, 151, 152, 153, 154, 155, 156, 157, 158, 159, 160, 161, 162, 163, 164, 17, 18, 19, 29, 30, 31, 32, 33, 34, 35, 36, 37, 178, 179, 180, 168, 181, 182, 170, 173, 183, 184, 185, 186, 172, 171, 187, 188, 189, 190, 191, 192, 193, 194, 195, 196, 197, 198, 199, 200, 201, 216, 217, 218, 219, 220, 221, 222, 223, 224, 225, 226, 227, 228, 232, 233, 234, 235, 236, 237, 238, 239, 240, 241, 242, 243, 244, 245, 246, 247, 248, 249, 250, 251, 252, 229, 230, 231, 209, 210, 211, 212, 213, 214, 215, 202, 203, 204, 205, 206, 207, 208] (by decide +kernel) (by decide +kernel)
set_option maxRecDepth 20000 in
theorem gX10_late_X10_hasReading : GoodIn wsX10_late (wsV RX10 266 RX10 yX10_hasReading wsX10_hasReading) := goodIn_app (goodIn_of _ (by decide +kernel)) ggX10_late_X10_hasReading
theorem dX10_late_0 : decode cX10_late 0 = .ok (.iload_n 1, 1) := by decide +kernel
theorem dX10_late_1 : decode cX10_late 1 = .ok (.invokestatic 143, 3) := by decide +kernel
theorem dX10_late_4 : decode cX10_late 4 = .ok (.ifCond .eq 22, 3) := by decide +kernel
theorem dX10_late_7 : decode cX10_late 7 = .ok (.iload_n 2, 1) := by decide +kernel
theorem dX10_late_8 : decode cX10_late 8 = .ok (.invokestatic 279, 3) := by decide +kernel
theorem dX10_late_11 : decode cX10_late 11 = .ok (.ifCond .eq 15, 3) := by decide +kernel
theorem dX10_late_14 : decode cX10_late 14 = .ok (.iload_n 3, 1) := by decide +kernel
theorem dX10_late_15 : decode cX10_late 15 = .ok (.i2l, 1) := by decide +kernel
theorem dX10_late_16 : decode cX10_late 16 = .ok (.lconst 0, 1) := by decide +kernel
theorem dX10_late_17 : decode cX10_late 17 = .ok (.ldc2_w 257, 3) := by decide +kernel
theorem dX10_late_20 : decode cX10_late 20 = .ok (.invokestatic 82, 3) := by decide +kernel
theorem dX10_late_23 : decode cX10_late 23 = .ok (.ifCond .ne 6, 3) := by decide +kernel
theorem dX10_late_26 : decode cX10_late 26 = .ok (.ldc 86, 2) := by decide +kernel
theorem dX10_late_28 : decode cX10_late 28 = .ok (.ireturn, 1) := by decide +kernel
theorem dX10_late_29 : decode cX10_late 29 = .ok (.aload_n 0, 1) := by decide +kernel
theorem dX10_late_30 : decode cX10_late 30 = .ok (.iload_n 1, 1) := by decide +kernel
theorem dX10_late_31 : decode cX10_late 31 = .ok (.iconst 0, 1) := by decide +kernel
theorem dX10_late_32 : decode cX10_late 32 = .ok (.invokevirtual 177, 3) := by decide +kernel
theorem dX10_late_35 : decode cX10_late 35 = .ok (.astore 4, 2) := by decide +kernel
theorem dX10_late_37 : decode cX10_late 37 = .ok (.aload 4, 2) := by decide +kernel
theorem dX10_late_39 : decode cX10_late 39 = .ok (.ifnonnull 6, 3) := by decide +kernel
theorem dX10_late_42 : decode cX10_late 42 = .ok (.ldc 176, 2) := by decide +kernel
theorem dX10_late_44 : decode cX10_late 44 = .ok (.ireturn, 1) := by decide +kernel
theorem dX10_late_45 : decode cX10_late 45 = .ok (.aload_n 0, 1) := by decide +kernel
theorem dX10_late_46 : decode cX10_late 46 = .ok (.getfield 32, 3) := by decide +kernel
theorem dX10_late_49 : decode cX10_late 49 = .ok (.aload 4, 2) := by decide +kernel
theorem dX10_late_51 : decode cX10_late 51 = .ok (.aload_n 0, 1) := by decide +kernel
theorem dX10_late_52 : decode cX10_late 52 = .ok (.getfield 18, 3) := by decide +kernel
theorem dX10_late_55 : decode cX10_late 55 = .ok (.invokevirtual 259, 3) := by decide +kernel
theorem dX10_late_58 : decode cX10_late 58 = .ok (.aload_n 0, 1) := by decide +kernel
theorem dX10_late_59 : decode cX10_late 59 = .ok (.aload 4, 2) := by decide +kernel
theorem dX10_late_61 : decode cX10_late 61 = .ok (.iload_n 2, 1) := by decide +kernel
theorem dX10_late_62 : decode cX10_late 62 = .ok (.invokevirtual 263, 3) := by decide +kernel
theorem dX10_late_65 : decode cX10_late 65 = .ok (.ldc 235, 2) := by decide +kernel
theorem dX10_late_67 : decode cX10_late 67 = .ok (.istore 5, 2) := by decide +kernel
theorem dX10_late_69 : decode cX10_late 69 = .ok (.ldc 235, 2) := by decide +kernel
theorem dX10_late_71 : decode cX10_late 71 = .ok (.istore 6, 2) := by decide +kernel
theorem dX10_late_73 : decode cX10_late 73 = .ok (.iconst 0, 1) := by decide +kernel
theorem dX10_late_74 : decode cX10_late 74 = .ok (.istore 7, 2) := by decide +kernel
theorem dX10_late_76 : decode cX10_late 76 = .ok (.iconst 0, 1) := by decide +kernel
theorem dX10_late_77 : decode cX10_late 77 = .ok (.istore 8, 2) := by decide +kernel
theorem dX10_late_79 : decode cX10_late 79 = .ok (.iload 8, 2) := by decide +kernel
theorem dX10_late_81 : decode cX10_late 81 = .ok (.sipush 1440, 3) := by decide +kernel
theorem dX10_late_84 : decode cX10_late 84 = .ok (.if_icmp .ge 56, 3) := by decide +kernel
theorem dX10_late_87 : decode cX10_late 87 = .ok (.aload_n 0, 1) := by decide +kernel
theorem dX10_late_88 : decode cX10_late 88 = .ok (.aload 4, 2) := by decide +kernel
theorem dX10_late_90 : decode cX10_late 90 = .ok (.iload 8, 2) := by decide +kernel
theorem dX10_late_92 : decode cX10_late 92 = .ok (.invokevirtual 266, 3) := by decide +kernel
theorem dX10_late_95 : decode cX10_late 95 = .ok (.ifCond .ne 6, 3) := by decide +kernel
theorem dX10_late_98 : decode cX10_late 98 = .ok (.goto 36, 3) := by decide +kernel
theorem dX10_late_101 : decode cX10_late 101 = .ok (.iinc 7 1, 3) := by decide +kernel
theorem dX10_late_104 : decode cX10_late 104 = .ok (.aload_n 0, 1) := by decide +kernel
theorem dX10_late_105 : decode cX10_late 105 = .ok (.getfield 39, 3) := by decide +kernel
theorem dX10_late_108 : decode cX10_late 108 = .ok (.getfield 276, 3) := by decide +kernel
theorem dX10_late_111 : decode cX10_late 111 = .ok (.iload 8, 2) := by decide +kernel
theorem dX10_late_113 : decode cX10_late 113 = .ok (.isub, 1) := by decide +kernel
theorem dX10_late_114 : decode cX10_late 114 = .ok (.invokestatic 282, 3) := by decide +kernel
theorem dX10_late_117 : decode cX10_late 117 = .ok (.istore 9, 2) := by decide +kernel
theorem dX10_late_119 : decode cX10_late 119 = .ok (.iload 9, 2) := by decide +kernel
theorem dX10_late_121 : decode cX10_late 121 = .ok (.iload 5, 2) := by decide +kernel
theorem dX10_late_123 : decode cX10_late 123 = .ok (.if_icmp .le 11, 3) := by decide +kernel
theorem dX10_late_126 : decode cX10_late 126 = .ok (.iload 9, 2) := by decide +kernel
theorem dX10_late_128 : decode cX10_late 128 = .ok (.istore 5, 2) := by decide +kernel
theorem dX10_late_130 : decode cX10_late 130 = .ok (.iload 8, 2) := by decide +kernel
theorem dX10_late_132 : decode cX10_late 132 = .ok (.istore 6, 2) := by decide +kernel
theorem dX10_late_134 : decode cX10_late 134 = .ok (.iinc 8 1, 3) := by decide +kernel
theorem dX10_late_137 : decode cX10_late 137 = .ok (.goto (-58), 3) := by decide +kernel
theorem dX10_late_140 : decode cX10_late 140 = .ok (.iload_n 3, 1) := by decide +kernel
theorem dX10_late_141 : decode cX10_late 141 = .ok (.lookupswitch 33 #[(0, 27), (1, 30)], 27) := by decide +kernel
theorem dX10_late_168 : decode cX10_late 168 = .ok (.iload 5, 2) := by decide +kernel
theorem dX10_late_170 : decode cX10_late 170 = .ok (.ireturn, 1) := by decide +kernel
theorem dX10_late_171 : decode cX10_late 171 = .ok (.iload 6, 2) := by decide +kernel
theorem dX10_late_173 : decode cX10_late 173 = .ok (.ireturn, 1) := by decide +kernel
theorem dX10_late_174 : decode cX10_late 174 = .ok (.iload 7, 2) := by decide +kernel
theorem dX10_late_176 : decode cX10_late 176 = .ok (.ireturn, 1) := by decide +kernel
set_option maxRecDepth 20000 in
theorem ggX10_stretches_X10_isPlace : GoodIn wsX10_stretches wsX10_isPlace := goodIn_r _ [7, 8, 9, 10, 6, 11] (by decide +kernel) (by decide +kernel)
set_option maxRecDepth 20000 in
theorem gX10_stretches_X10_isPlace : GoodIn wsX10_stretches (va_wsS RX10 143 yX10_isPlace wsX10_isPlace) := goodIn_app (goodIn_of _ (by decide +kernel)) ggX10_stretches_X10_isPlace
set_option maxRecDepth 20000 in
theorem ggX10_stretches_X10_isDay : GoodIn wsX10_stretches wsX10_isDay := goodIn_r _ [14, 15, 9, 10, 6, 11] (by decide +kernel) (by decide +kernel)
set_option maxRecDepth 20000 in
theorem gX10_stretches_X10_isDay : GoodIn wsX10_stretches (va_wsS RX10 279 yX10_isDay wsX10_isDay) := goodIn_app (goodIn_of _ (by decide +kernel)) ggX10_stretches_X10_isDay
set_option maxRecDepth 20000 in
theorem ggX10_stretches_X10_dialAt : GoodIn wsX10_stretches wsX10_dialAt := goodIn_r _ [19, 20, 21, 4, 5, 6, 7, 8, 9, 10, 11, 22, 23, 24, 25, 26, 27, 28, 29, 30, 167, 168, 169, 170, 171, 172, 173, 174, 175, 176, 177, 178, 179, 180, 181, 182, 183, 184, 185] (by decide +kernel) (by decide +kernel)
set_option maxRecDepth 20000 in
theorem gX10_stretches_X10_dialAt : GoodIn wsX10_stretches (wsV RX10 177 RX10 yX10_dialAt wsX10_dialAt) := goodIn_app (goodIn_of _ (by decide +kernel)) ggX10_stretches_X10_dialAt
set_option maxRecDepth 20000 in
theorem ggX10_stretches_X10_followStretches : GoodIn wsX10_stretches wsX10_followStretches := goodIn_r _ [34, 35, 36, 20, 37, 38, 39, 40, 41, 42, 43, 44, 45, 46, 47, 48, 49, 50, 51, 52, 53, 23, 24, 25, 26, 27, 28, 6, 29, 30, 9, 10, 11, 54, 55, 56, 57, 58, 59, 60, 61, 62, 63, 64, 65, 66, 67, 68, 69, 70, 71, 72, 73, 74, 75, 76, 77, 78, 79, 80, 81, 82, 83, 84, 85, 86, 87, 88, 89, 90, 91, 92, 93, 94, 95, 96, 97, 98, 99, 100, 101, 102, 103, 104, 105, 106, 107, 108, 109, 110, 111, 112, 113, 114, 115, 116, 117, 118, 119, 120, 121, 122, 123, 124, 125, 126, 127, 128, 129, 130, 131, 132, 133, 134, 135, 136, 137, 138, 139, 140, 141, 142, 143, 144, 145, 146, 147, 148, 149, 150, 151, 152, 153, 154, 155, 156, 157, 158, 159, 160, 161, 162, 163, 164, 165, 166, 167, 168, 169, 170, 171, 172, 173, 174, 175, 176, 177, 178, 186, 187, 188, 179, 180, 181, 182, 183, 184, 185, 189, 190, 191, 192, 193, 194, 195, 196, 197, 198, 199, 200, 201, 202, 203, 204, 205, 206, 207, 208, 209, 210, 211, 212, 213, 214, 215, 216, 217, 218, 219, 220, 221, 222, 223, 224, 225] (by decide +kernel) (by decide +kernel)
set_option maxRecDepth 20000 in
theorem gX10_stretches_X10_followStretches : GoodIn wsX10_stretches (wsV RX10 287 RX10 yX10_followStretches wsX10_followStretches) := goodIn_app (goodIn_of _ (by decide +kernel)) ggX10_stretches_X10_followStretches
theorem dX10_stretches_0 : decode cX10_stretches 0 = .ok (.iload_n 1, 1) := by decide +kernel
theorem dX10_stretches_1 : decode cX10_stretches 1 = .ok (.invokestatic 143, 3) := by decide +kernel
theorem dX10_stretches_4 : decode cX10_stretches 4 = .ok (.ifCond .eq 10, 3) := by decide +kernel
theorem dX10_stretches_7 : decode cX10_stretches 7 = .ok (.iload_n 2, 1) := by decide +kernel
theorem dX10_stretches_8 : decode cX10_stretches 8 = .ok (.invokestatic 279, 3) := by decide +kernel
theorem dX10_stretches_11 : decode cX10_stretches 11 = .ok (.ifCond .ne 6, 3) := by decide +kernel
theorem dX10_stretches_14 : decode cX10_stretches 14 = .ok (.ldc 86, 2) := by decide +kernel
theorem dX10_stretches_16 : decode cX10_stretches 16 = .ok (.ireturn, 1) := by decide +kernel
theorem dX10_stretches_17 : decode cX10_stretches 17 = .ok (.aload_n 0, 1) := by decide +kernel
theorem dX10_stretches_18 : decode cX10_stretches 18 = .ok (.iload_n 1, 1) := by decide +kernel
theorem dX10_stretches_19 : decode cX10_stretches 19 = .ok (.iconst 0, 1) := by decide +kernel
theorem dX10_stretches_20 : decode cX10_stretches 20 = .ok (.invokevirtual 177, 3) := by decide +kernel
theorem dX10_stretches_23 : decode cX10_stretches 23 = .ok (.astore_n 3, 1) := by decide +kernel
theorem dX10_stretches_24 : decode cX10_stretches 24 = .ok (.aload_n 3, 1) := by decide +kernel
theorem dX10_stretches_25 : decode cX10_stretches 25 = .ok (.ifnonnull 8, 3) := by decide +kernel
theorem dX10_stretches_28 : decode cX10_stretches 28 = .ok (.ldc 176, 2) := by decide +kernel
theorem dX10_stretches_30 : decode cX10_stretches 30 = .ok (.goto 11, 3) := by decide +kernel
theorem dX10_stretches_33 : decode cX10_stretches 33 = .ok (.aload_n 0, 1) := by decide +kernel
theorem dX10_stretches_34 : decode cX10_stretches 34 = .ok (.aload_n 3, 1) := by decide +kernel
theorem dX10_stretches_35 : decode cX10_stretches 35 = .ok (.iload_n 2, 1) := by decide +kernel
theorem dX10_stretches_36 : decode cX10_stretches 36 = .ok (.ldc 235, 2) := by decide +kernel
theorem dX10_stretches_38 : decode cX10_stretches 38 = .ok (.invokevirtual 287, 3) := by decide +kernel
theorem dX10_stretches_41 : decode cX10_stretches 41 = .ok (.ireturn, 1) := by decide +kernel
set_option maxRecDepth 20000 in
theorem ggX10_stretch_X10_isPlace : GoodIn wsX10_stretch wsX10_isPlace := goodIn_r _ [7, 8, 9, 10, 6, 11] (by decide +kernel) (by decide +kernel)
set_option maxRecDepth 20000 in
theorem gX10_stretch_X10_isPlace : GoodIn wsX10_stretch (va_wsS RX10 143 yX10_isPlace wsX10_isPlace) := goodIn_app (goodIn_of _ (by decide +kernel)) ggX10_stretch_X10_isPlace
set_option maxRecDepth 20000 in
theorem ggX10_stretch_X10_isDay : GoodIn wsX10_stretch wsX10_isDay := goodIn_r _ [14, 15, 9, 10, 6, 11] (by decide +kernel) (by decide +kernel)
set_option maxRecDepth 20000 in
theorem gX10_stretch_X10_isDay : GoodIn wsX10_stretch (va_wsS RX10 279 yX10_isDay wsX10_isDay) := goodIn_app (goodIn_of _ (by decide +kernel)) ggX10_stretch_X10_isDay
set_option maxRecDepth 20000 in
theorem ggX10_stretch_X10_within : GoodIn wsX10_stretch wsX10_within := goodIn_r _ [11] (by decide +kernel) (by decide +kernel)
set_option maxRecDepth 20000 in
theorem gX10_stretch_X10_within : GoodIn wsX10_stretch (va_wsS RX10 82 yX10_within wsX10_within) := goodIn_app (goodIn_of _ (by decide +kernel)) ggX10_stretch_X10_within
set_option maxRecDepth 20000 in
theorem ggX10_stretch_X10_dialAt : GoodIn wsX10_stretch wsX10_dialAt := goodIn_r _ [19, 20, 21, 4, 5, 6, 7, 8, 9, 10, 11, 22, 23, 24, 25, 26, 27, 28, 29, 30, 175, 176, 177, 178, 179, 180, 181, 182, 183, 184, 185, 186, 187, 188, 189, 190, 191, 192, 193] (by decide +kernel) (by decide +kernel)
set_option maxRecDepth 20000 in
theorem gX10_stretch_X10_dialAt : GoodIn wsX10_stretch (wsV RX10 177 RX10 yX10_dialAt wsX10_dialAt) := goodIn_app (goodIn_of _ (by decide +kernel)) ggX10_stretch_X10_dialAt
set_option maxRecDepth 20000 in
theorem ggX10_stretch_X10_followStretches : GoodIn wsX10_stretch wsX10_followStretches := goodIn_r _ [34, 3, 35, 20, 36, 37, 38, 39, 40, 41, 42, 43, 44, 45, 46, 47, 48, 49, 50, 51, 52, 23, 24, 25, 26, 27, 28, 6, 29, 30, 9, 10, 11, 53, 54, 55, 56, 57, 58, 59, 60, 61, 62, 63, 64, 65, 66, 67, 68, 69, 70, 71, 72, 73, 74, 75, 76, 77, 78, 79, 80, 81, 82, 83, 84, 85, 86, 87, 88, 89, 90, 91, 92, 93, 94, 95, 96, 97, 98, 99, 100, 101, 102, 103, 104, 105, 106, 107, 108, 109, 110, 111, 112, 113, 114, 115, 116, 117, 118, 119, 120, 121, 122, 123, 124, 125, 126, 127, 128, 129, 130, 131, 132, 133, 134, 135, 136, 137, 138, 139, 140, 141, 142, 143, 144, 145, 146, 147, 148, 149, 150, 151, 152, 153, 154, 155, 156, 157, 158, 159, 160, 161, 162, 163, 164, 165, 175, 176, 177, 178, 179, 180, 181, 182, 183, 184, 185, 186, 194, 195, 196, 187, 188, 189, 190, 191, 192, 193, 197, 198, 199, 200, 201, 202, 203, 204, 205, 206, 207, 208, 209, 210, 211, 212, 213, 214, 215, 216, 217, 218, 219, 220, 221, 222, 223, 224, 225, 226, 227, 228, 229, 230, 231, 232, 233] (by decide +kernel) (by decide +kernel)
set_option maxRecDepth 20000 in
theorem gX10_stretch_X10_followStretches : GoodIn wsX10_stretch (wsV RX10 287 RX10 yX10_followStretches wsX10_followStretches) := goodIn_app (goodIn_of _ (by decide +kernel)) ggX10_stretch_X10_followStretches
set_option maxRecDepth 20000 in
theorem ggX10_stretch_X4_leastOrNone : GoodIn wsX10_stretch wsX4_leastOrNone := goodIn_r _ [169, 42, 170, 164, 194, 195, 196] (by decide +kernel) (by decide +kernel)
set_option maxRecDepth 20000 in
theorem gX10_stretch_X4_leastOrNone : GoodIn wsX10_stretch (wsV RX10 251 RX4 yX4_leastOrNone wsX4_leastOrNone) := goodIn_app (goodIn_of _ (by decide +kernel)) ggX10_stretch_X4_leastOrNone
set_option maxRecDepth 20000 in
theorem ggX10_stretch_X4_greatestOrNone : GoodIn wsX10_stretch wsX4_greatestOrNone := goodIn_r _ [174, 42, 170, 165, 194, 195, 196] (by decide +kernel) (by decide +kernel)
set_option maxRecDepth 20000 in
theorem gX10_stretch_X4_greatestOrNone : GoodIn wsX10_stretch (wsV RX10 254 RX4 yX4_greatestOrNone wsX4_greatestOrNone) := goodIn_app (goodIn_of _ (by decide +kernel)) ggX10_stretch_X4_greatestOrNone
theorem dX10_stretch_0 : decode cX10_stretch 0 = .ok (.iload_n 1, 1) := by decide +kernel
theorem dX10_stretch_1 : decode cX10_stretch 1 = .ok (.invokestatic 143, 3) := by decide +kernel
theorem dX10_stretch_4 : decode cX10_stretch 4 = .ok (.ifCond .eq 25, 3) := by decide +kernel
theorem dX10_stretch_7 : decode cX10_stretch 7 = .ok (.iload_n 2, 1) := by decide +kernel
theorem dX10_stretch_8 : decode cX10_stretch 8 = .ok (.invokestatic 279, 3) := by decide +kernel
theorem dX10_stretch_11 : decode cX10_stretch 11 = .ok (.ifCond .eq 18, 3) := by decide +kernel
theorem dX10_stretch_14 : decode cX10_stretch 14 = .ok (.iload_n 3, 1) := by decide +kernel
theorem dX10_stretch_15 : decode cX10_stretch 15 = .ok (.ifCond .lt 14, 3) := by decide +kernel
theorem dX10_stretch_18 : decode cX10_stretch 18 = .ok (.iload 4, 2) := by decide +kernel
theorem dX10_stretch_20 : decode cX10_stretch 20 = .ok (.i2l, 1) := by decide +kernel
theorem dX10_stretch_21 : decode cX10_stretch 21 = .ok (.lconst 0, 1) := by decide +kernel
theorem dX10_stretch_22 : decode cX10_stretch 22 = .ok (.lconst 1, 1) := by decide +kernel
theorem dX10_stretch_23 : decode cX10_stretch 23 = .ok (.invokestatic 82, 3) := by decide +kernel
theorem dX10_stretch_26 : decode cX10_stretch 26 = .ok (.ifCond .ne 6, 3) := by decide +kernel
theorem dX10_stretch_29 : decode cX10_stretch 29 = .ok (.ldc 86, 2) := by decide +kernel

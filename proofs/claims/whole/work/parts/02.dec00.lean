theorem dX0_init_0 : decode cX0_init 0 = .ok (.aload_n 0, 1) := by decide +kernel
theorem dX0_init_1 : decode cX0_init 1 = .ok (.invokespecial 3, 3) := by decide +kernel
theorem dX0_init_4 : decode cX0_init 4 = .ok (.aload_n 0, 1) := by decide +kernel
theorem dX0_init_5 : decode cX0_init 5 = .ok (.bipush 16, 2) := by decide +kernel
theorem dX0_init_7 : decode cX0_init 7 = .ok (.newarray .int, 2) := by decide +kernel
theorem dX0_init_9 : decode cX0_init 9 = .ok (.putfield 9, 3) := by decide +kernel
theorem dX0_init_12 : decode cX0_init 12 = .ok (.aload_n 0, 1) := by decide +kernel
theorem dX0_init_13 : decode cX0_init 13 = .ok (.bipush 16, 2) := by decide +kernel
theorem dX0_init_15 : decode cX0_init 15 = .ok (.anewarray 15, 3) := by decide +kernel
theorem dX0_init_18 : decode cX0_init 18 = .ok (.putfield 17, 3) := by decide +kernel
theorem dX0_init_21 : decode cX0_init 21 = .ok (.aload_n 0, 1) := by decide +kernel
theorem dX0_init_22 : decode cX0_init 22 = .ok (.iconst 0, 1) := by decide +kernel
theorem dX0_init_23 : decode cX0_init 23 = .ok (.putfield 21, 3) := by decide +kernel
theorem dX0_init_26 : decode cX0_init 26 = .ok (.aload_n 0, 1) := by decide +kernel
theorem dX0_init_27 : decode cX0_init 27 = .ok (.iconst 0, 1) := by decide +kernel
theorem dX0_init_28 : decode cX0_init 28 = .ok (.putfield 25, 3) := by decide +kernel
theorem dX0_init_31 : decode cX0_init 31 = .ok (.return_, 1) := by decide +kernel
set_option maxRecDepth 20000 in
theorem ggX0_keep_J9_floorMod_7cf53 : GoodIn wsX0_keep wsJ9_floorMod_7cf53 := goodIn_r _ [12] (by decide +kernel) (by decide +kernel)
set_option maxRecDepth 20000 in
theorem gX0_keep_J9_floorMod_7cf53 : GoodIn wsX0_keep (va_wsS RX0 28 yJ9_floorMod_7cf53 wsJ9_floorMod_7cf53) := goodIn_app (goodIn_of _ (by decide +kernel)) ggX0_keep_J9_floorMod_7cf53
theorem dX0_keep_0 : decode cX0_keep 0 = .ok (.aload_n 0, 1) := by decide +kernel
theorem dX0_keep_1 : decode cX0_keep 1 = .ok (.aload_n 0, 1) := by decide +kernel
theorem dX0_keep_2 : decode cX0_keep 2 = .ok (.getfield 21, 3) := by decide +kernel
theorem dX0_keep_5 : decode cX0_keep 5 = .ok (.iconst 1, 1) := by decide +kernel
theorem dX0_keep_6 : decode cX0_keep 6 = .ok (.iadd, 1) := by decide +kernel
theorem dX0_keep_7 : decode cX0_keep 7 = .ok (.bipush 16, 2) := by decide +kernel
theorem dX0_keep_9 : decode cX0_keep 9 = .ok (.invokestatic 28, 3) := by decide +kernel
theorem dX0_keep_12 : decode cX0_keep 12 = .ok (.putfield 21, 3) := by decide +kernel
theorem dX0_keep_15 : decode cX0_keep 15 = .ok (.aload_n 0, 1) := by decide +kernel
theorem dX0_keep_16 : decode cX0_keep 16 = .ok (.getfield 9, 3) := by decide +kernel
theorem dX0_keep_19 : decode cX0_keep 19 = .ok (.aload_n 0, 1) := by decide +kernel
theorem dX0_keep_20 : decode cX0_keep 20 = .ok (.getfield 21, 3) := by decide +kernel
theorem dX0_keep_23 : decode cX0_keep 23 = .ok (.iload_n 1, 1) := by decide +kernel
theorem dX0_keep_24 : decode cX0_keep 24 = .ok (.iastore, 1) := by decide +kernel
theorem dX0_keep_25 : decode cX0_keep 25 = .ok (.aload_n 0, 1) := by decide +kernel
theorem dX0_keep_26 : decode cX0_keep 26 = .ok (.getfield 17, 3) := by decide +kernel
theorem dX0_keep_29 : decode cX0_keep 29 = .ok (.aload_n 0, 1) := by decide +kernel
theorem dX0_keep_30 : decode cX0_keep 30 = .ok (.getfield 21, 3) := by decide +kernel
theorem dX0_keep_33 : decode cX0_keep 33 = .ok (.aload_n 2, 1) := by decide +kernel
theorem dX0_keep_34 : decode cX0_keep 34 = .ok (.aastore, 1) := by decide +kernel
theorem dX0_keep_35 : decode cX0_keep 35 = .ok (.aload_n 0, 1) := by decide +kernel
theorem dX0_keep_36 : decode cX0_keep 36 = .ok (.aload_n 0, 1) := by decide +kernel
theorem dX0_keep_37 : decode cX0_keep 37 = .ok (.getfield 25, 3) := by decide +kernel
theorem dX0_keep_40 : decode cX0_keep 40 = .ok (.iconst 1, 1) := by decide +kernel
theorem dX0_keep_41 : decode cX0_keep 41 = .ok (.iadd, 1) := by decide +kernel
theorem dX0_keep_42 : decode cX0_keep 42 = .ok (.bipush 16, 2) := by decide +kernel
theorem dX0_keep_44 : decode cX0_keep 44 = .ok (.invokestatic 34, 3) := by decide +kernel
theorem dX0_keep_47 : decode cX0_keep 47 = .ok (.putfield 25, 3) := by decide +kernel
theorem dX0_keep_50 : decode cX0_keep 50 = .ok (.return_, 1) := by decide +kernel
theorem dX0_latestPlace_0 : decode cX0_latestPlace 0 = .ok (.aload_n 0, 1) := by decide +kernel
theorem dX0_latestPlace_1 : decode cX0_latestPlace 1 = .ok (.getfield 9, 3) := by decide +kernel
theorem dX0_latestPlace_4 : decode cX0_latestPlace 4 = .ok (.aload_n 0, 1) := by decide +kernel
theorem dX0_latestPlace_5 : decode cX0_latestPlace 5 = .ok (.getfield 21, 3) := by decide +kernel
theorem dX0_latestPlace_8 : decode cX0_latestPlace 8 = .ok (.iaload, 1) := by decide +kernel
theorem dX0_latestPlace_9 : decode cX0_latestPlace 9 = .ok (.ireturn, 1) := by decide +kernel
theorem dX0_latestThing_0 : decode cX0_latestThing 0 = .ok (.aload_n 0, 1) := by decide +kernel
theorem dX0_latestThing_1 : decode cX0_latestThing 1 = .ok (.getfield 17, 3) := by decide +kernel
theorem dX0_latestThing_4 : decode cX0_latestThing 4 = .ok (.aload_n 0, 1) := by decide +kernel
theorem dX0_latestThing_5 : decode cX0_latestThing 5 = .ok (.getfield 21, 3) := by decide +kernel
theorem dX0_latestThing_8 : decode cX0_latestThing 8 = .ok (.aaload, 1) := by decide +kernel
theorem dX0_latestThing_9 : decode cX0_latestThing 9 = .ok (.areturn, 1) := by decide +kernel
set_option maxRecDepth 20000 in
theorem ggX0_takeBack_J9_floorMod_7cf53 : GoodIn wsX0_takeBack wsJ9_floorMod_7cf53 := goodIn_r _ [7] (by decide +kernel) (by decide +kernel)
set_option maxRecDepth 20000 in
theorem gX0_takeBack_J9_floorMod_7cf53 : GoodIn wsX0_takeBack (va_wsS RX0 28 yJ9_floorMod_7cf53 wsJ9_floorMod_7cf53) := goodIn_app (goodIn_of _ (by decide +kernel)) ggX0_takeBack_J9_floorMod_7cf53
theorem dX0_takeBack_0 : decode cX0_takeBack 0 = .ok (.aload_n 0, 1) := by decide +kernel
theorem dX0_takeBack_1 : decode cX0_takeBack 1 = .ok (.getfield 17, 3) := by decide +kernel
theorem dX0_takeBack_4 : decode cX0_takeBack 4 = .ok (.aload_n 0, 1) := by decide +kernel
theorem dX0_takeBack_5 : decode cX0_takeBack 5 = .ok (.getfield 21, 3) := by decide +kernel
theorem dX0_takeBack_8 : decode cX0_takeBack 8 = .ok (.aconst_null, 1) := by decide +kernel
theorem dX0_takeBack_9 : decode cX0_takeBack 9 = .ok (.aastore, 1) := by decide +kernel
theorem dX0_takeBack_10 : decode cX0_takeBack 10 = .ok (.aload_n 0, 1) := by decide +kernel
theorem dX0_takeBack_11 : decode cX0_takeBack 11 = .ok (.aload_n 0, 1) := by decide +kernel
theorem dX0_takeBack_12 : decode cX0_takeBack 12 = .ok (.getfield 21, 3) := by decide +kernel
theorem dX0_takeBack_15 : decode cX0_takeBack 15 = .ok (.iconst 1, 1) := by decide +kernel
theorem dX0_takeBack_16 : decode cX0_takeBack 16 = .ok (.isub, 1) := by decide +kernel
theorem dX0_takeBack_17 : decode cX0_takeBack 17 = .ok (.bipush 16, 2) := by decide +kernel
theorem dX0_takeBack_19 : decode cX0_takeBack 19 = .ok (.invokestatic 28, 3) := by decide +kernel
theorem dX0_takeBack_22 : decode cX0_takeBack 22 = .ok (.putfield 21, 3) := by decide +kernel
theorem dX0_takeBack_25 : decode cX0_takeBack 25 = .ok (.aload_n 0, 1) := by decide +kernel
theorem dX0_takeBack_26 : decode cX0_takeBack 26 = .ok (.dup, 1) := by decide +kernel
theorem dX0_takeBack_27 : decode cX0_takeBack 27 = .ok (.getfield 25, 3) := by decide +kernel
theorem dX0_takeBack_30 : decode cX0_takeBack 30 = .ok (.iconst 1, 1) := by decide +kernel
theorem dX0_takeBack_31 : decode cX0_takeBack 31 = .ok (.isub, 1) := by decide +kernel
theorem dX0_takeBack_32 : decode cX0_takeBack 32 = .ok (.putfield 25, 3) := by decide +kernel
theorem dX0_takeBack_35 : decode cX0_takeBack 35 = .ok (.return_, 1) := by decide +kernel
set_option maxRecDepth 20000 in
theorem ggX1_init_X9_init : GoodIn wsX1_init wsX9_init := goodIn_r _ [10, 11, 12, 13] (by decide +kernel) (by decide +kernel)
set_option maxRecDepth 20000 in
theorem gX1_init_X9_init_n3 : GoodIn wsX1_init (wsX9_init) := ggX1_init_X9_init
theorem dX1_init_0 : decode cX1_init 0 = .ok (.aload_n 0, 1) := by decide +kernel
theorem dX1_init_1 : decode cX1_init 1 = .ok (.invokespecial 3, 3) := by decide +kernel
theorem dX1_init_4 : decode cX1_init 4 = .ok (.aload_n 0, 1) := by decide +kernel
theorem dX1_init_5 : decode cX1_init 5 = .ok (.iload_n 1, 1) := by decide +kernel
theorem dX1_init_6 : decode cX1_init 6 = .ok (.putfield 9, 3) := by decide +kernel
theorem dX1_init_9 : decode cX1_init 9 = .ok (.aload_n 0, 1) := by decide +kernel
theorem dX1_init_10 : decode cX1_init 10 = .ok (.iload_n 2, 1) := by decide +kernel
theorem dX1_init_11 : decode cX1_init 11 = .ok (.putfield 15, 3) := by decide +kernel
theorem dX1_init_14 : decode cX1_init 14 = .ok (.aload_n 0, 1) := by decide +kernel
theorem dX1_init_15 : decode cX1_init 15 = .ok (.iload_n 3, 1) := by decide +kernel
theorem dX1_init_16 : decode cX1_init 16 = .ok (.putfield 18, 3) := by decide +kernel
theorem dX1_init_19 : decode cX1_init 19 = .ok (.aload_n 0, 1) := by decide +kernel
theorem dX1_init_20 : decode cX1_init 20 = .ok (.iload 4, 2) := by decide +kernel
theorem dX1_init_22 : decode cX1_init 22 = .ok (.putfield 21, 3) := by decide +kernel
theorem dX1_init_25 : decode cX1_init 25 = .ok (.aload_n 0, 1) := by decide +kernel
theorem dX1_init_26 : decode cX1_init 26 = .ok (.iload 5, 2) := by decide +kernel
theorem dX1_init_28 : decode cX1_init 28 = .ok (.putfield 24, 3) := by decide +kernel
theorem dX1_init_31 : decode cX1_init 31 = .ok (.aload_n 0, 1) := by decide +kernel
theorem dX1_init_32 : decode cX1_init 32 = .ok (.iload 6, 2) := by decide +kernel
theorem dX1_init_34 : decode cX1_init 34 = .ok (.putfield 27, 3) := by decide +kernel
theorem dX1_init_37 : decode cX1_init 37 = .ok (.aload_n 0, 1) := by decide +kernel
theorem dX1_init_38 : decode cX1_init 38 = .ok (.iload 7, 2) := by decide +kernel
theorem dX1_init_40 : decode cX1_init 40 = .ok (.putfield 30, 3) := by decide +kernel
theorem dX1_init_43 : decode cX1_init 43 = .ok (.return_, 1) := by decide +kernel
set_option maxRecDepth 20000 in
theorem ggX1_withSpot_X1_init : GoodIn wsX1_withSpot wsX1_init := goodIn_r _ [11, 4, 12, 13, 5, 6, 7, 8, 14, 15, 16, 17, 18, 19, 20, 21, 22, 23, 24, 25, 26] (by decide +kernel) (by decide +kernel)
set_option maxRecDepth 20000 in
theorem gX1_withSpot_X1_init : GoodIn wsX1_withSpot (wsX1_init) := ggX1_withSpot_X1_init
theorem dX1_withSpot_0 : decode cX1_withSpot 0 = .ok (.new 10, 3) := by decide +kernel
theorem dX1_withSpot_3 : decode cX1_withSpot 3 = .ok (.dup, 1) := by decide +kernel
theorem dX1_withSpot_4 : decode cX1_withSpot 4 = .ok (.aload_n 0, 1) := by decide +kernel
theorem dX1_withSpot_5 : decode cX1_withSpot 5 = .ok (.getfield 9, 3) := by decide +kernel
theorem dX1_withSpot_8 : decode cX1_withSpot 8 = .ok (.iload_n 1, 1) := by decide +kernel
theorem dX1_withSpot_9 : decode cX1_withSpot 9 = .ok (.iload_n 2, 1) := by decide +kernel
theorem dX1_withSpot_10 : decode cX1_withSpot 10 = .ok (.aload_n 0, 1) := by decide +kernel
theorem dX1_withSpot_11 : decode cX1_withSpot 11 = .ok (.getfield 21, 3) := by decide +kernel
theorem dX1_withSpot_14 : decode cX1_withSpot 14 = .ok (.aload_n 0, 1) := by decide +kernel
theorem dX1_withSpot_15 : decode cX1_withSpot 15 = .ok (.getfield 24, 3) := by decide +kernel
theorem dX1_withSpot_18 : decode cX1_withSpot 18 = .ok (.aload_n 0, 1) := by decide +kernel
theorem dX1_withSpot_19 : decode cX1_withSpot 19 = .ok (.getfield 27, 3) := by decide +kernel
theorem dX1_withSpot_22 : decode cX1_withSpot 22 = .ok (.aload_n 0, 1) := by decide +kernel
theorem dX1_withSpot_23 : decode cX1_withSpot 23 = .ok (.getfield 30, 3) := by decide +kernel
theorem dX1_withSpot_26 : decode cX1_withSpot 26 = .ok (.invokespecial 33, 3) := by decide +kernel
theorem dX1_withSpot_29 : decode cX1_withSpot 29 = .ok (.areturn, 1) := by decide +kernel
set_option maxRecDepth 20000 in
theorem ggX1_withFacing_X1_init : GoodIn wsX1_withFacing wsX1_init := goodIn_r _ [12, 4, 5, 6, 7, 13, 8, 9, 14, 15, 16, 17, 18, 19, 20, 21, 22, 23, 24, 25, 26] (by decide +kernel) (by decide +kernel)
set_option maxRecDepth 20000 in
theorem gX1_withFacing_X1_init : GoodIn wsX1_withFacing (wsX1_init) := ggX1_withFacing_X1_init
theorem dX1_withFacing_0 : decode cX1_withFacing 0 = .ok (.new 10, 3) := by decide +kernel
theorem dX1_withFacing_3 : decode cX1_withFacing 3 = .ok (.dup, 1) := by decide +kernel
theorem dX1_withFacing_4 : decode cX1_withFacing 4 = .ok (.aload_n 0, 1) := by decide +kernel
theorem dX1_withFacing_5 : decode cX1_withFacing 5 = .ok (.getfield 9, 3) := by decide +kernel
theorem dX1_withFacing_8 : decode cX1_withFacing 8 = .ok (.aload_n 0, 1) := by decide +kernel
theorem dX1_withFacing_9 : decode cX1_withFacing 9 = .ok (.getfield 15, 3) := by decide +kernel
theorem dX1_withFacing_12 : decode cX1_withFacing 12 = .ok (.aload_n 0, 1) := by decide +kernel
theorem dX1_withFacing_13 : decode cX1_withFacing 13 = .ok (.getfield 18, 3) := by decide +kernel
theorem dX1_withFacing_16 : decode cX1_withFacing 16 = .ok (.aload_n 0, 1) := by decide +kernel
theorem dX1_withFacing_17 : decode cX1_withFacing 17 = .ok (.getfield 21, 3) := by decide +kernel
theorem dX1_withFacing_20 : decode cX1_withFacing 20 = .ok (.iload_n 1, 1) := by decide +kernel
theorem dX1_withFacing_21 : decode cX1_withFacing 21 = .ok (.aload_n 0, 1) := by decide +kernel
theorem dX1_withFacing_22 : decode cX1_withFacing 22 = .ok (.getfield 27, 3) := by decide +kernel
theorem dX1_withFacing_25 : decode cX1_withFacing 25 = .ok (.aload_n 0, 1) := by decide +kernel
theorem dX1_withFacing_26 : decode cX1_withFacing 26 = .ok (.getfield 30, 3) := by decide +kernel
theorem dX1_withFacing_29 : decode cX1_withFacing 29 = .ok (.invokespecial 33, 3) := by decide +kernel
theorem dX1_withFacing_32 : decode cX1_withFacing 32 = .ok (.areturn, 1) := by decide +kernel
set_option maxRecDepth 20000 in
theorem ggX1_withSlant_X1_init : GoodIn wsX1_withSlant wsX1_init := goodIn_r _ [12, 4, 5, 6, 7, 8, 13, 9, 14, 15, 16, 17, 18, 19, 20, 21, 22, 23, 24, 25, 26] (by decide +kernel) (by decide +kernel)
set_option maxRecDepth 20000 in
theorem gX1_withSlant_X1_init : GoodIn wsX1_withSlant (wsX1_init) := ggX1_withSlant_X1_init
theorem dX1_withSlant_0 : decode cX1_withSlant 0 = .ok (.new 10, 3) := by decide +kernel
theorem dX1_withSlant_3 : decode cX1_withSlant 3 = .ok (.dup, 1) := by decide +kernel
theorem dX1_withSlant_4 : decode cX1_withSlant 4 = .ok (.aload_n 0, 1) := by decide +kernel
theorem dX1_withSlant_5 : decode cX1_withSlant 5 = .ok (.getfield 9, 3) := by decide +kernel
theorem dX1_withSlant_8 : decode cX1_withSlant 8 = .ok (.aload_n 0, 1) := by decide +kernel
theorem dX1_withSlant_9 : decode cX1_withSlant 9 = .ok (.getfield 15, 3) := by decide +kernel
theorem dX1_withSlant_12 : decode cX1_withSlant 12 = .ok (.aload_n 0, 1) := by decide +kernel
theorem dX1_withSlant_13 : decode cX1_withSlant 13 = .ok (.getfield 18, 3) := by decide +kernel
theorem dX1_withSlant_16 : decode cX1_withSlant 16 = .ok (.aload_n 0, 1) := by decide +kernel
theorem dX1_withSlant_17 : decode cX1_withSlant 17 = .ok (.getfield 21, 3) := by decide +kernel
theorem dX1_withSlant_20 : decode cX1_withSlant 20 = .ok (.aload_n 0, 1) := by decide +kernel
theorem dX1_withSlant_21 : decode cX1_withSlant 21 = .ok (.getfield 24, 3) := by decide +kernel
theorem dX1_withSlant_24 : decode cX1_withSlant 24 = .ok (.iload_n 1, 1) := by decide +kernel
theorem dX1_withSlant_25 : decode cX1_withSlant 25 = .ok (.aload_n 0, 1) := by decide +kernel
theorem dX1_withSlant_26 : decode cX1_withSlant 26 = .ok (.getfield 30, 3) := by decide +kernel
theorem dX1_withSlant_29 : decode cX1_withSlant 29 = .ok (.invokespecial 33, 3) := by decide +kernel
theorem dX1_withSlant_32 : decode cX1_withSlant 32 = .ok (.areturn, 1) := by decide +kernel
set_option maxRecDepth 20000 in
theorem ggX1_withHour_X1_init : GoodIn wsX1_withHour wsX1_init := goodIn_r _ [13, 4, 5, 6, 7, 8, 9, 10, 14, 15, 16, 17, 18, 19, 20, 21, 22, 23, 24, 25, 26] (by decide +kernel) (by decide +kernel)
set_option maxRecDepth 20000 in
theorem gX1_withHour_X1_init : GoodIn wsX1_withHour (wsX1_init) := ggX1_withHour_X1_init
theorem dX1_withHour_0 : decode cX1_withHour 0 = .ok (.new 10, 3) := by decide +kernel
theorem dX1_withHour_3 : decode cX1_withHour 3 = .ok (.dup, 1) := by decide +kernel
theorem dX1_withHour_4 : decode cX1_withHour 4 = .ok (.aload_n 0, 1) := by decide +kernel
theorem dX1_withHour_5 : decode cX1_withHour 5 = .ok (.getfield 9, 3) := by decide +kernel
theorem dX1_withHour_8 : decode cX1_withHour 8 = .ok (.aload_n 0, 1) := by decide +kernel
theorem dX1_withHour_9 : decode cX1_withHour 9 = .ok (.getfield 15, 3) := by decide +kernel
theorem dX1_withHour_12 : decode cX1_withHour 12 = .ok (.aload_n 0, 1) := by decide +kernel
theorem dX1_withHour_13 : decode cX1_withHour 13 = .ok (.getfield 18, 3) := by decide +kernel
theorem dX1_withHour_16 : decode cX1_withHour 16 = .ok (.aload_n 0, 1) := by decide +kernel
theorem dX1_withHour_17 : decode cX1_withHour 17 = .ok (.getfield 21, 3) := by decide +kernel
theorem dX1_withHour_20 : decode cX1_withHour 20 = .ok (.aload_n 0, 1) := by decide +kernel
theorem dX1_withHour_21 : decode cX1_withHour 21 = .ok (.getfield 24, 3) := by decide +kernel
theorem dX1_withHour_24 : decode cX1_withHour 24 = .ok (.aload_n 0, 1) := by decide +kernel
theorem dX1_withHour_25 : decode cX1_withHour 25 = .ok (.getfield 27, 3) := by decide +kernel
theorem dX1_withHour_28 : decode cX1_withHour 28 = .ok (.aload_n 0, 1) := by decide +kernel
theorem dX1_withHour_29 : decode cX1_withHour 29 = .ok (.getfield 30, 3) := by decide +kernel
theorem dX1_withHour_32 : decode cX1_withHour 32 = .ok (.iconst 1, 1) := by decide +kernel
theorem dX1_withHour_33 : decode cX1_withHour 33 = .ok (.iload_n 1, 1) := by decide +kernel
theorem dX1_withHour_34 : decode cX1_withHour 34 = .ok (.ishl, 1) := by decide +kernel
theorem dX1_withHour_35 : decode cX1_withHour 35 = .ok (.iconst (-1), 1) := by decide +kernel
theorem dX1_withHour_36 : decode cX1_withHour 36 = .ok (.ixor, 1) := by decide +kernel
theorem dX1_withHour_37 : decode cX1_withHour 37 = .ok (.iand, 1) := by decide +kernel
theorem dX1_withHour_38 : decode cX1_withHour 38 = .ok (.iload_n 2, 1) := by decide +kernel
theorem dX1_withHour_39 : decode cX1_withHour 39 = .ok (.iload_n 1, 1) := by decide +kernel
theorem dX1_withHour_40 : decode cX1_withHour 40 = .ok (.ishl, 1) := by decide +kernel
theorem dX1_withHour_41 : decode cX1_withHour 41 = .ok (.ior, 1) := by decide +kernel
theorem dX1_withHour_42 : decode cX1_withHour 42 = .ok (.invokespecial 33, 3) := by decide +kernel
theorem dX1_withHour_45 : decode cX1_withHour 45 = .ok (.areturn, 1) := by decide +kernel
set_option maxRecDepth 20000 in
theorem ggX1_isA_X10_isKind : GoodIn wsX1_isA wsX10_isKind := goodIn_r _ [4, 5, 6, 7, 3, 8] (by decide +kernel) (by decide +kernel)
set_option maxRecDepth 20000 in
theorem gX1_isA_X10_isKind_n36 : GoodIn wsX1_isA (wsX10_isKind) := ggX1_isA_X10_isKind
theorem dX1_isA_0 : decode cX1_isA 0 = .ok (.aload_n 0, 1) := by decide +kernel
theorem dX1_isA_1 : decode cX1_isA 1 = .ok (.getfield 9, 3) := by decide +kernel
theorem dX1_isA_4 : decode cX1_isA 4 = .ok (.invokestatic 36, 3) := by decide +kernel
theorem dX1_isA_7 : decode cX1_isA 7 = .ok (.ifCond .eq 23, 3) := by decide +kernel
theorem dX1_isA_10 : decode cX1_isA 10 = .ok (.getstatic 40, 3) := by decide +kernel
theorem dX1_isA_13 : decode cX1_isA 13 = .ok (.aload_n 0, 1) := by decide +kernel
theorem dX1_isA_14 : decode cX1_isA 14 = .ok (.getfield 9, 3) := by decide +kernel
theorem dX1_isA_17 : decode cX1_isA 17 = .ok (.iaload, 1) := by decide +kernel
theorem dX1_isA_18 : decode cX1_isA 18 = .ok (.iload_n 1, 1) := by decide +kernel
theorem dX1_isA_19 : decode cX1_isA 19 = .ok (.ishr, 1) := by decide +kernel
theorem dX1_isA_20 : decode cX1_isA 20 = .ok (.iconst 1, 1) := by decide +kernel
theorem dX1_isA_21 : decode cX1_isA 21 = .ok (.iand, 1) := by decide +kernel
theorem dX1_isA_22 : decode cX1_isA 22 = .ok (.iconst 1, 1) := by decide +kernel
theorem dX1_isA_23 : decode cX1_isA 23 = .ok (.if_icmp .ne 7, 3) := by decide +kernel
theorem dX1_isA_26 : decode cX1_isA 26 = .ok (.iconst 1, 1) := by decide +kernel
theorem dX1_isA_27 : decode cX1_isA 27 = .ok (.goto 4, 3) := by decide +kernel
theorem dX1_isA_30 : decode cX1_isA 30 = .ok (.iconst 0, 1) := by decide +kernel
theorem dX1_isA_31 : decode cX1_isA 31 = .ok (.ireturn, 1) := by decide +kernel
theorem dX1_hourLeft_0 : decode cX1_hourLeft 0 = .ok (.aload_n 0, 1) := by decide +kernel
theorem dX1_hourLeft_1 : decode cX1_hourLeft 1 = .ok (.getfield 30, 3) := by decide +kernel
theorem dX1_hourLeft_4 : decode cX1_hourLeft 4 = .ok (.iload_n 1, 1) := by decide +kernel
theorem dX1_hourLeft_5 : decode cX1_hourLeft 5 = .ok (.ishr, 1) := by decide +kernel
theorem dX1_hourLeft_6 : decode cX1_hourLeft 6 = .ok (.iconst 1, 1) := by decide +kernel
theorem dX1_hourLeft_7 : decode cX1_hourLeft 7 = .ok (.iand, 1) := by decide +kernel
theorem dX1_hourLeft_8 : decode cX1_hourLeft 8 = .ok (.ireturn, 1) := by decide +kernel
theorem dX1_sort_0 : decode cX1_sort 0 = .ok (.iconst 2, 1) := by decide +kernel
theorem dX1_sort_1 : decode cX1_sort 1 = .ok (.aload_n 0, 1) := by decide +kernel
theorem dX1_sort_2 : decode cX1_sort 2 = .ok (.getfield 9, 3) := by decide +kernel
theorem dX1_sort_5 : decode cX1_sort 5 = .ok (.iadd, 1) := by decide +kernel
theorem dX1_sort_6 : decode cX1_sort 6 = .ok (.ireturn, 1) := by decide +kernel
set_option maxRecDepth 20000 in
theorem ggX1_property_X1_isA : GoodIn wsX1_property wsX1_isA := goodIn_r _ [12, 13, 14, 15, 16, 17, 18, 19, 20, 28, 29, 30, 31, 32, 33, 34] (by decide +kernel) (by decide +kernel)
set_option maxRecDepth 20000 in
theorem gX1_property_X1_isA : GoodIn wsX1_property (wsV RX1 44 RX1 yX1_isA wsX1_isA) := goodIn_app (goodIn_of _ (by decide +kernel)) ggX1_property_X1_isA
set_option maxRecDepth 20000 in
theorem ggX1_property_J6_bitCount_0f7a4 : GoodIn wsX1_property wsJ6_bitCount_0f7a4 := goodIn_r _ [24, 25, 26, 27] (by decide +kernel) (by decide +kernel)
set_option maxRecDepth 20000 in
theorem gX1_property_J6_bitCount_0f7a4 : GoodIn wsX1_property (va_wsS RX1 48 yJ6_bitCount_0f7a4 wsJ6_bitCount_0f7a4) := goodIn_app (goodIn_of _ (by decide +kernel)) ggX1_property_J6_bitCount_0f7a4
theorem dX1_property_0 : decode cX1_property 0 = .ok (.iload_n 1, 1) := by decide +kernel
theorem dX1_property_1 : decode cX1_property 1 = .ok (.tableswitch 86 0 4 #[35, 40, 45, 50, 68], 35) := by decide +kernel
theorem dX1_property_36 : decode cX1_property 36 = .ok (.aload_n 0, 1) := by decide +kernel
theorem dX1_property_37 : decode cX1_property 37 = .ok (.getfield 15, 3) := by decide +kernel
theorem dX1_property_40 : decode cX1_property 40 = .ok (.ireturn, 1) := by decide +kernel
theorem dX1_property_41 : decode cX1_property 41 = .ok (.aload_n 0, 1) := by decide +kernel
theorem dX1_property_42 : decode cX1_property 42 = .ok (.getfield 18, 3) := by decide +kernel
theorem dX1_property_45 : decode cX1_property 45 = .ok (.ireturn, 1) := by decide +kernel
theorem dX1_property_46 : decode cX1_property 46 = .ok (.aload_n 0, 1) := by decide +kernel
theorem dX1_property_47 : decode cX1_property 47 = .ok (.getfield 21, 3) := by decide +kernel
theorem dX1_property_50 : decode cX1_property 50 = .ok (.ireturn, 1) := by decide +kernel
theorem dX1_property_51 : decode cX1_property 51 = .ok (.aload_n 0, 1) := by decide +kernel
theorem dX1_property_52 : decode cX1_property 52 = .ok (.iconst 1, 1) := by decide +kernel
theorem dX1_property_53 : decode cX1_property 53 = .ok (.invokevirtual 44, 3) := by decide +kernel
theorem dX1_property_56 : decode cX1_property 56 = .ok (.ifCond .eq 10, 3) := by decide +kernel
theorem dX1_property_59 : decode cX1_property 59 = .ok (.aload_n 0, 1) := by decide +kernel
theorem dX1_property_60 : decode cX1_property 60 = .ok (.getfield 24, 3) := by decide +kernel
theorem dX1_property_63 : decode cX1_property 63 = .ok (.goto 5, 3) := by decide +kernel
theorem dX1_property_66 : decode cX1_property 66 = .ok (.ldc 47, 2) := by decide +kernel
theorem dX1_property_68 : decode cX1_property 68 = .ok (.ireturn, 1) := by decide +kernel
theorem dX1_property_69 : decode cX1_property 69 = .ok (.aload_n 0, 1) := by decide +kernel
theorem dX1_property_70 : decode cX1_property 70 = .ok (.iconst 2, 1) := by decide +kernel
theorem dX1_property_71 : decode cX1_property 71 = .ok (.invokevirtual 44, 3) := by decide +kernel
theorem dX1_property_74 : decode cX1_property 74 = .ok (.ifCond .eq 10, 3) := by decide +kernel
theorem dX1_property_77 : decode cX1_property 77 = .ok (.aload_n 0, 1) := by decide +kernel
theorem dX1_property_78 : decode cX1_property 78 = .ok (.getfield 27, 3) := by decide +kernel
theorem dX1_property_81 : decode cX1_property 81 = .ok (.goto 5, 3) := by decide +kernel
theorem dX1_property_84 : decode cX1_property 84 = .ok (.ldc 47, 2) := by decide +kernel
theorem dX1_property_86 : decode cX1_property 86 = .ok (.ireturn, 1) := by decide +kernel
theorem dX1_property_87 : decode cX1_property 87 = .ok (.aload_n 0, 1) := by decide +kernel
theorem dX1_property_88 : decode cX1_property 88 = .ok (.iconst 4, 1) := by decide +kernel
theorem dX1_property_89 : decode cX1_property 89 = .ok (.invokevirtual 44, 3) := by decide +kernel
theorem dX1_property_92 : decode cX1_property 92 = .ok (.ifCond .eq 13, 3) := by decide +kernel
theorem dX1_property_95 : decode cX1_property 95 = .ok (.aload_n 0, 1) := by decide +kernel
theorem dX1_property_96 : decode cX1_property 96 = .ok (.getfield 30, 3) := by decide +kernel
theorem dX1_property_99 : decode cX1_property 99 = .ok (.invokestatic 48, 3) := by decide +kernel
theorem dX1_property_102 : decode cX1_property 102 = .ok (.goto 5, 3) := by decide +kernel
theorem dX1_property_105 : decode cX1_property 105 = .ok (.ldc 47, 2) := by decide +kernel
theorem dX1_property_107 : decode cX1_property 107 = .ok (.ireturn, 1) := by decide +kernel
set_option maxRecDepth 20000 in
theorem ggX2_init_X9_init : GoodIn wsX2_init wsX9_init := goodIn_r _ [8, 9, 10, 11] (by decide +kernel) (by decide +kernel)
set_option maxRecDepth 20000 in
theorem gX2_init_X9_init_n3 : GoodIn wsX2_init (wsX9_init) := ggX2_init_X9_init
theorem dX2_init_0 : decode cX2_init 0 = .ok (.aload_n 0, 1) := by decide +kernel
theorem dX2_init_1 : decode cX2_init 1 = .ok (.invokespecial 3, 3) := by decide +kernel
theorem dX2_init_4 : decode cX2_init 4 = .ok (.aload_n 0, 1) := by decide +kernel
theorem dX2_init_5 : decode cX2_init 5 = .ok (.iload_n 1, 1) := by decide +kernel
theorem dX2_init_6 : decode cX2_init 6 = .ok (.putfield 9, 3) := by decide +kernel
theorem dX2_init_9 : decode cX2_init 9 = .ok (.aload_n 0, 1) := by decide +kernel
theorem dX2_init_10 : decode cX2_init 10 = .ok (.iload_n 2, 1) := by decide +kernel
theorem dX2_init_11 : decode cX2_init 11 = .ok (.putfield 15, 3) := by decide +kernel
theorem dX2_init_14 : decode cX2_init 14 = .ok (.aload_n 0, 1) := by decide +kernel
theorem dX2_init_15 : decode cX2_init 15 = .ok (.iload_n 3, 1) := by decide +kernel
theorem dX2_init_16 : decode cX2_init 16 = .ok (.putfield 18, 3) := by decide +kernel
theorem dX2_init_19 : decode cX2_init 19 = .ok (.aload_n 0, 1) := by decide +kernel
theorem dX2_init_20 : decode cX2_init 20 = .ok (.iload 4, 2) := by decide +kernel
theorem dX2_init_22 : decode cX2_init 22 = .ok (.putfield 21, 3) := by decide +kernel
theorem dX2_init_25 : decode cX2_init 25 = .ok (.aload_n 0, 1) := by decide +kernel
theorem dX2_init_26 : decode cX2_init 26 = .ok (.iload 5, 2) := by decide +kernel
theorem dX2_init_28 : decode cX2_init 28 = .ok (.putfield 24, 3) := by decide +kernel
theorem dX2_init_31 : decode cX2_init 31 = .ok (.return_, 1) := by decide +kernel
theorem dX2_sort_0 : decode cX2_sort 0 = .ok (.iconst 1, 1) := by decide +kernel
theorem dX2_sort_1 : decode cX2_sort 1 = .ok (.ireturn, 1) := by decide +kernel
theorem dX2_property_0 : decode cX2_property 0 = .ok (.iload_n 1, 1) := by decide +kernel
theorem dX2_property_1 : decode cX2_property 1 = .ok (.tableswitch 60 0 4 #[35, 40, 45, 50, 55], 35) := by decide +kernel
theorem dX2_property_36 : decode cX2_property 36 = .ok (.aload_n 0, 1) := by decide +kernel
theorem dX2_property_37 : decode cX2_property 37 = .ok (.getfield 9, 3) := by decide +kernel
theorem dX2_property_40 : decode cX2_property 40 = .ok (.ireturn, 1) := by decide +kernel
theorem dX2_property_41 : decode cX2_property 41 = .ok (.aload_n 0, 1) := by decide +kernel
theorem dX2_property_42 : decode cX2_property 42 = .ok (.getfield 15, 3) := by decide +kernel
theorem dX2_property_45 : decode cX2_property 45 = .ok (.ireturn, 1) := by decide +kernel
theorem dX2_property_46 : decode cX2_property 46 = .ok (.aload_n 0, 1) := by decide +kernel
theorem dX2_property_47 : decode cX2_property 47 = .ok (.getfield 18, 3) := by decide +kernel
theorem dX2_property_50 : decode cX2_property 50 = .ok (.ireturn, 1) := by decide +kernel
theorem dX2_property_51 : decode cX2_property 51 = .ok (.aload_n 0, 1) := by decide +kernel
theorem dX2_property_52 : decode cX2_property 52 = .ok (.getfield 21, 3) := by decide +kernel
theorem dX2_property_55 : decode cX2_property 55 = .ok (.ireturn, 1) := by decide +kernel
theorem dX2_property_56 : decode cX2_property 56 = .ok (.aload_n 0, 1) := by decide +kernel
theorem dX2_property_57 : decode cX2_property 57 = .ok (.getfield 24, 3) := by decide +kernel
theorem dX2_property_60 : decode cX2_property 60 = .ok (.ireturn, 1) := by decide +kernel
theorem dX2_property_61 : decode cX2_property 61 = .ok (.ldc 27, 2) := by decide +kernel
theorem dX2_property_63 : decode cX2_property 63 = .ok (.ireturn, 1) := by decide +kernel
theorem dX2_hidesFrom_0 : decode cX2_hidesFrom 0 = .ok (.aload_n 0, 1) := by decide +kernel
theorem dX2_hidesFrom_1 : decode cX2_hidesFrom 1 = .ok (.getfield 9, 3) := by decide +kernel
theorem dX2_hidesFrom_4 : decode cX2_hidesFrom 4 = .ok (.iload_n 1, 1) := by decide +kernel
theorem dX2_hidesFrom_5 : decode cX2_hidesFrom 5 = .ok (.isub, 1) := by decide +kernel
theorem dX2_hidesFrom_6 : decode cX2_hidesFrom 6 = .ok (.i2l, 1) := by decide +kernel
theorem dX2_hidesFrom_7 : decode cX2_hidesFrom 7 = .ok (.lstore 4, 2) := by decide +kernel
theorem dX2_hidesFrom_9 : decode cX2_hidesFrom 9 = .ok (.aload_n 0, 1) := by decide +kernel
theorem dX2_hidesFrom_10 : decode cX2_hidesFrom 10 = .ok (.getfield 15, 3) := by decide +kernel
theorem dX2_hidesFrom_13 : decode cX2_hidesFrom 13 = .ok (.iload_n 2, 1) := by decide +kernel
theorem dX2_hidesFrom_14 : decode cX2_hidesFrom 14 = .ok (.isub, 1) := by decide +kernel
theorem dX2_hidesFrom_15 : decode cX2_hidesFrom 15 = .ok (.i2l, 1) := by decide +kernel
theorem dX2_hidesFrom_16 : decode cX2_hidesFrom 16 = .ok (.lstore 6, 2) := by decide +kernel
theorem dX2_hidesFrom_18 : decode cX2_hidesFrom 18 = .ok (.aload_n 0, 1) := by decide +kernel
theorem dX2_hidesFrom_19 : decode cX2_hidesFrom 19 = .ok (.getfield 18, 3) := by decide +kernel
theorem dX2_hidesFrom_22 : decode cX2_hidesFrom 22 = .ok (.iload_n 1, 1) := by decide +kernel
theorem dX2_hidesFrom_23 : decode cX2_hidesFrom 23 = .ok (.isub, 1) := by decide +kernel
theorem dX2_hidesFrom_24 : decode cX2_hidesFrom 24 = .ok (.i2l, 1) := by decide +kernel
theorem dX2_hidesFrom_25 : decode cX2_hidesFrom 25 = .ok (.lstore 8, 2) := by decide +kernel
theorem dX2_hidesFrom_27 : decode cX2_hidesFrom 27 = .ok (.aload_n 0, 1) := by decide +kernel
theorem dX2_hidesFrom_28 : decode cX2_hidesFrom 28 = .ok (.getfield 21, 3) := by decide +kernel
theorem dX2_hidesFrom_31 : decode cX2_hidesFrom 31 = .ok (.iload_n 2, 1) := by decide +kernel
theorem dX2_hidesFrom_32 : decode cX2_hidesFrom 32 = .ok (.isub, 1) := by decide +kernel
theorem dX2_hidesFrom_33 : decode cX2_hidesFrom 33 = .ok (.i2l, 1) := by decide +kernel
theorem dX2_hidesFrom_34 : decode cX2_hidesFrom 34 = .ok (.lstore 10, 2) := by decide +kernel
theorem dX2_hidesFrom_36 : decode cX2_hidesFrom 36 = .ok (.aload_n 3, 1) := by decide +kernel
theorem dX2_hidesFrom_37 : decode cX2_hidesFrom 37 = .ok (.getfield 28, 3) := by decide +kernel
theorem dX2_hidesFrom_40 : decode cX2_hidesFrom 40 = .ok (.i2l, 1) := by decide +kernel
theorem dX2_hidesFrom_41 : decode cX2_hidesFrom 41 = .ok (.lload 6, 2) := by decide +kernel
theorem dX2_hidesFrom_43 : decode cX2_hidesFrom 43 = .ok (.lmul, 1) := by decide +kernel
theorem dX2_hidesFrom_44 : decode cX2_hidesFrom 44 = .ok (.aload_n 3, 1) := by decide +kernel
theorem dX2_hidesFrom_45 : decode cX2_hidesFrom 45 = .ok (.getfield 33, 3) := by decide +kernel
theorem dX2_hidesFrom_48 : decode cX2_hidesFrom 48 = .ok (.i2l, 1) := by decide +kernel
theorem dX2_hidesFrom_49 : decode cX2_hidesFrom 49 = .ok (.lload 4, 2) := by decide +kernel
theorem dX2_hidesFrom_51 : decode cX2_hidesFrom 51 = .ok (.lmul, 1) := by decide +kernel
theorem dX2_hidesFrom_52 : decode cX2_hidesFrom 52 = .ok (.lsub, 1) := by decide +kernel
theorem dX2_hidesFrom_53 : decode cX2_hidesFrom 53 = .ok (.lstore 12, 2) := by decide +kernel
theorem dX2_hidesFrom_55 : decode cX2_hidesFrom 55 = .ok (.aload_n 3, 1) := by decide +kernel
theorem dX2_hidesFrom_56 : decode cX2_hidesFrom 56 = .ok (.getfield 28, 3) := by decide +kernel
theorem dX2_hidesFrom_59 : decode cX2_hidesFrom 59 = .ok (.i2l, 1) := by decide +kernel
theorem dX2_hidesFrom_60 : decode cX2_hidesFrom 60 = .ok (.lload 10, 2) := by decide +kernel
theorem dX2_hidesFrom_62 : decode cX2_hidesFrom 62 = .ok (.lmul, 1) := by decide +kernel
theorem dX2_hidesFrom_63 : decode cX2_hidesFrom 63 = .ok (.aload_n 3, 1) := by decide +kernel
theorem dX2_hidesFrom_64 : decode cX2_hidesFrom 64 = .ok (.getfield 33, 3) := by decide +kernel
theorem dX2_hidesFrom_67 : decode cX2_hidesFrom 67 = .ok (.i2l, 1) := by decide +kernel
theorem dX2_hidesFrom_68 : decode cX2_hidesFrom 68 = .ok (.lload 8, 2) := by decide +kernel
theorem dX2_hidesFrom_70 : decode cX2_hidesFrom 70 = .ok (.lmul, 1) := by decide +kernel
theorem dX2_hidesFrom_71 : decode cX2_hidesFrom 71 = .ok (.lsub, 1) := by decide +kernel
theorem dX2_hidesFrom_72 : decode cX2_hidesFrom 72 = .ok (.lstore 14, 2) := by decide +kernel
theorem dX2_hidesFrom_74 : decode cX2_hidesFrom 74 = .ok (.lload 12, 2) := by decide +kernel
theorem dX2_hidesFrom_76 : decode cX2_hidesFrom 76 = .ok (.lconst 0, 1) := by decide +kernel
theorem dX2_hidesFrom_77 : decode cX2_hidesFrom 77 = .ok (.lcmp, 1) := by decide +kernel
theorem dX2_hidesFrom_78 : decode cX2_hidesFrom 78 = .ok (.ifCond .le 10, 3) := by decide +kernel
theorem dX2_hidesFrom_81 : decode cX2_hidesFrom 81 = .ok (.lload 14, 2) := by decide +kernel
theorem dX2_hidesFrom_83 : decode cX2_hidesFrom 83 = .ok (.lconst 0, 1) := by decide +kernel
theorem dX2_hidesFrom_84 : decode cX2_hidesFrom 84 = .ok (.lcmp, 1) := by decide +kernel
theorem dX2_hidesFrom_85 : decode cX2_hidesFrom 85 = .ok (.ifCond .gt 17, 3) := by decide +kernel
theorem dX2_hidesFrom_88 : decode cX2_hidesFrom 88 = .ok (.lload 12, 2) := by decide +kernel
theorem dX2_hidesFrom_90 : decode cX2_hidesFrom 90 = .ok (.lconst 0, 1) := by decide +kernel
theorem dX2_hidesFrom_91 : decode cX2_hidesFrom 91 = .ok (.lcmp, 1) := by decide +kernel
theorem dX2_hidesFrom_92 : decode cX2_hidesFrom 92 = .ok (.ifCond .ge 12, 3) := by decide +kernel
theorem dX2_hidesFrom_95 : decode cX2_hidesFrom 95 = .ok (.lload 14, 2) := by decide +kernel
theorem dX2_hidesFrom_97 : decode cX2_hidesFrom 97 = .ok (.lconst 0, 1) := by decide +kernel
theorem dX2_hidesFrom_98 : decode cX2_hidesFrom 98 = .ok (.lcmp, 1) := by decide +kernel
theorem dX2_hidesFrom_99 : decode cX2_hidesFrom 99 = .ok (.ifCond .ge 5, 3) := by decide +kernel
theorem dX2_hidesFrom_102 : decode cX2_hidesFrom 102 = .ok (.iconst 0, 1) := by decide +kernel
theorem dX2_hidesFrom_103 : decode cX2_hidesFrom 103 = .ok (.ireturn, 1) := by decide +kernel
theorem dX2_hidesFrom_104 : decode cX2_hidesFrom 104 = .ok (.lload 14, 2) := by decide +kernel
theorem dX2_hidesFrom_106 : decode cX2_hidesFrom 106 = .ok (.lload 12, 2) := by decide +kernel
theorem dX2_hidesFrom_108 : decode cX2_hidesFrom 108 = .ok (.lsub, 1) := by decide +kernel
theorem dX2_hidesFrom_109 : decode cX2_hidesFrom 109 = .ok (.lstore 16, 2) := by decide +kernel
theorem dX2_hidesFrom_111 : decode cX2_hidesFrom 111 = .ok (.lload 4, 2) := by decide +kernel
theorem dX2_hidesFrom_113 : decode cX2_hidesFrom 113 = .ok (.lload 10, 2) := by decide +kernel
theorem dX2_hidesFrom_115 : decode cX2_hidesFrom 115 = .ok (.lmul, 1) := by decide +kernel
theorem dX2_hidesFrom_116 : decode cX2_hidesFrom 116 = .ok (.lload 6, 2) := by decide +kernel
theorem dX2_hidesFrom_118 : decode cX2_hidesFrom 118 = .ok (.lload 8, 2) := by decide +kernel
theorem dX2_hidesFrom_120 : decode cX2_hidesFrom 120 = .ok (.lmul, 1) := by decide +kernel
theorem dX2_hidesFrom_121 : decode cX2_hidesFrom 121 = .ok (.lsub, 1) := by decide +kernel
theorem dX2_hidesFrom_122 : decode cX2_hidesFrom 122 = .ok (.lstore 18, 2) := by decide +kernel
theorem dX2_hidesFrom_124 : decode cX2_hidesFrom 124 = .ok (.lload 16, 2) := by decide +kernel
theorem dX2_hidesFrom_126 : decode cX2_hidesFrom 126 = .ok (.lconst 0, 1) := by decide +kernel
theorem dX2_hidesFrom_127 : decode cX2_hidesFrom 127 = .ok (.lcmp, 1) := by decide +kernel
theorem dX2_hidesFrom_128 : decode cX2_hidesFrom 128 = .ok (.ifCond .ge 13, 3) := by decide +kernel
theorem dX2_hidesFrom_131 : decode cX2_hidesFrom 131 = .ok (.lload 16, 2) := by decide +kernel
theorem dX2_hidesFrom_133 : decode cX2_hidesFrom 133 = .ok (.lneg, 1) := by decide +kernel
theorem dX2_hidesFrom_134 : decode cX2_hidesFrom 134 = .ok (.lstore 16, 2) := by decide +kernel
theorem dX2_hidesFrom_136 : decode cX2_hidesFrom 136 = .ok (.lload 18, 2) := by decide +kernel
theorem dX2_hidesFrom_138 : decode cX2_hidesFrom 138 = .ok (.lneg, 1) := by decide +kernel
theorem dX2_hidesFrom_139 : decode cX2_hidesFrom 139 = .ok (.lstore 18, 2) := by decide +kernel
theorem dX2_hidesFrom_141 : decode cX2_hidesFrom 141 = .ok (.lload 16, 2) := by decide +kernel
theorem dX2_hidesFrom_143 : decode cX2_hidesFrom 143 = .ok (.lconst 0, 1) := by decide +kernel
theorem dX2_hidesFrom_144 : decode cX2_hidesFrom 144 = .ok (.lcmp, 1) := by decide +kernel
theorem dX2_hidesFrom_145 : decode cX2_hidesFrom 145 = .ok (.ifCond .eq 34, 3) := by decide +kernel
theorem dX2_hidesFrom_148 : decode cX2_hidesFrom 148 = .ok (.lload 18, 2) := by decide +kernel
theorem dX2_hidesFrom_150 : decode cX2_hidesFrom 150 = .ok (.lconst 0, 1) := by decide +kernel
theorem dX2_hidesFrom_151 : decode cX2_hidesFrom 151 = .ok (.lcmp, 1) := by decide +kernel
theorem dX2_hidesFrom_152 : decode cX2_hidesFrom 152 = .ok (.ifCond .le 27, 3) := by decide +kernel
theorem dX2_hidesFrom_155 : decode cX2_hidesFrom 155 = .ok (.aload_n 3, 1) := by decide +kernel
theorem dX2_hidesFrom_156 : decode cX2_hidesFrom 156 = .ok (.getfield 36, 3) := by decide +kernel
theorem dX2_hidesFrom_159 : decode cX2_hidesFrom 159 = .ok (.i2l, 1) := by decide +kernel
theorem dX2_hidesFrom_160 : decode cX2_hidesFrom 160 = .ok (.lload 18, 2) := by decide +kernel
theorem dX2_hidesFrom_162 : decode cX2_hidesFrom 162 = .ok (.lmul, 1) := by decide +kernel
theorem dX2_hidesFrom_163 : decode cX2_hidesFrom 163 = .ok (.aload_n 0, 1) := by decide +kernel
theorem dX2_hidesFrom_164 : decode cX2_hidesFrom 164 = .ok (.getfield 24, 3) := by decide +kernel
theorem dX2_hidesFrom_167 : decode cX2_hidesFrom 167 = .ok (.i2l, 1) := by decide +kernel
theorem dX2_hidesFrom_168 : decode cX2_hidesFrom 168 = .ok (.lload 16, 2) := by decide +kernel
theorem dX2_hidesFrom_170 : decode cX2_hidesFrom 170 = .ok (.lmul, 1) := by decide +kernel
theorem dX2_hidesFrom_171 : decode cX2_hidesFrom 171 = .ok (.lcmp, 1) := by decide +kernel
theorem dX2_hidesFrom_172 : decode cX2_hidesFrom 172 = .ok (.ifCond .ge 7, 3) := by decide +kernel
theorem dX2_hidesFrom_175 : decode cX2_hidesFrom 175 = .ok (.iconst 1, 1) := by decide +kernel
theorem dX2_hidesFrom_176 : decode cX2_hidesFrom 176 = .ok (.goto 4, 3) := by decide +kernel
theorem dX2_hidesFrom_179 : decode cX2_hidesFrom 179 = .ok (.iconst 0, 1) := by decide +kernel
theorem dX2_hidesFrom_180 : decode cX2_hidesFrom 180 = .ok (.ireturn, 1) := by decide +kernel
theorem dX3_init_0 : decode cX3_init 0 = .ok (.aload_n 0, 1) := by decide +kernel
theorem dX3_init_1 : decode cX3_init 1 = .ok (.invokespecial 3, 3) := by decide +kernel
theorem dX3_init_4 : decode cX3_init 4 = .ok (.aload_n 0, 1) := by decide +kernel
theorem dX3_init_5 : decode cX3_init 5 = .ok (.bipush 24, 2) := by decide +kernel
theorem dX3_init_7 : decode cX3_init 7 = .ok (.newarray .int, 2) := by decide +kernel
theorem dX3_init_9 : decode cX3_init 9 = .ok (.putfield 9, 3) := by decide +kernel
theorem dX3_init_12 : decode cX3_init 12 = .ok (.aload_n 0, 1) := by decide +kernel
theorem dX3_init_13 : decode cX3_init 13 = .ok (.bipush 24, 2) := by decide +kernel
theorem dX3_init_15 : decode cX3_init 15 = .ok (.newarray .int, 2) := by decide +kernel
theorem dX3_init_17 : decode cX3_init 17 = .ok (.putfield 15, 3) := by decide +kernel
theorem dX3_init_20 : decode cX3_init 20 = .ok (.aload_n 0, 1) := by decide +kernel
theorem dX3_init_21 : decode cX3_init 21 = .ok (.bipush 24, 2) := by decide +kernel
theorem dX3_init_23 : decode cX3_init 23 = .ok (.newarray .int, 2) := by decide +kernel
theorem dX3_init_25 : decode cX3_init 25 = .ok (.putfield 18, 3) := by decide +kernel
theorem dX3_init_28 : decode cX3_init 28 = .ok (.aload_n 0, 1) := by decide +kernel
theorem dX3_init_29 : decode cX3_init 29 = .ok (.iconst 0, 1) := by decide +kernel
theorem dX3_init_30 : decode cX3_init 30 = .ok (.putfield 21, 3) := by decide +kernel
theorem dX3_init_33 : decode cX3_init 33 = .ok (.aload_n 0, 1) := by decide +kernel
theorem dX3_init_34 : decode cX3_init 34 = .ok (.iconst 0, 1) := by decide +kernel
theorem dX3_init_35 : decode cX3_init 35 = .ok (.putfield 25, 3) := by decide +kernel
theorem dX3_init_38 : decode cX3_init 38 = .ok (.aload_n 0, 1) := by decide +kernel
theorem dX3_init_39 : decode cX3_init 39 = .ok (.iconst 0, 1) := by decide +kernel
theorem dX3_init_40 : decode cX3_init 40 = .ok (.putfield 28, 3) := by decide +kernel
theorem dX3_init_43 : decode cX3_init 43 = .ok (.aload_n 0, 1) := by decide +kernel
theorem dX3_init_44 : decode cX3_init 44 = .ok (.iconst 0, 1) := by decide +kernel
theorem dX3_init_45 : decode cX3_init 45 = .ok (.putfield 31, 3) := by decide +kernel
theorem dX3_init_48 : decode cX3_init 48 = .ok (.return_, 1) := by decide +kernel
theorem dX3_add_0 : decode cX3_add 0 = .ok (.aload_n 0, 1) := by decide +kernel
theorem dX3_add_1 : decode cX3_add 1 = .ok (.getfield 21, 3) := by decide +kernel
theorem dX3_add_4 : decode cX3_add 4 = .ok (.bipush 24, 2) := by decide +kernel
theorem dX3_add_6 : decode cX3_add 6 = .ok (.if_icmp .lt 4, 3) := by decide +kernel
theorem dX3_add_9 : decode cX3_add 9 = .ok (.return_, 1) := by decide +kernel
theorem dX3_add_10 : decode cX3_add 10 = .ok (.aload_n 0, 1) := by decide +kernel
theorem dX3_add_11 : decode cX3_add 11 = .ok (.getfield 9, 3) := by decide +kernel
theorem dX3_add_14 : decode cX3_add 14 = .ok (.aload_n 0, 1) := by decide +kernel
theorem dX3_add_15 : decode cX3_add 15 = .ok (.getfield 21, 3) := by decide +kernel
theorem dX3_add_18 : decode cX3_add 18 = .ok (.iload_n 1, 1) := by decide +kernel
theorem dX3_add_19 : decode cX3_add 19 = .ok (.iastore, 1) := by decide +kernel
theorem dX3_add_20 : decode cX3_add 20 = .ok (.aload_n 0, 1) := by decide +kernel
theorem dX3_add_21 : decode cX3_add 21 = .ok (.getfield 15, 3) := by decide +kernel
theorem dX3_add_24 : decode cX3_add 24 = .ok (.aload_n 0, 1) := by decide +kernel
theorem dX3_add_25 : decode cX3_add 25 = .ok (.getfield 21, 3) := by decide +kernel
theorem dX3_add_28 : decode cX3_add 28 = .ok (.iload_n 2, 1) := by decide +kernel
theorem dX3_add_29 : decode cX3_add 29 = .ok (.iastore, 1) := by decide +kernel
theorem dX3_add_30 : decode cX3_add 30 = .ok (.aload_n 0, 1) := by decide +kernel
theorem dX3_add_31 : decode cX3_add 31 = .ok (.getfield 18, 3) := by decide +kernel
theorem dX3_add_34 : decode cX3_add 34 = .ok (.aload_n 0, 1) := by decide +kernel
theorem dX3_add_35 : decode cX3_add 35 = .ok (.getfield 21, 3) := by decide +kernel
theorem dX3_add_38 : decode cX3_add 38 = .ok (.iload_n 3, 1) := by decide +kernel
theorem dX3_add_39 : decode cX3_add 39 = .ok (.iastore, 1) := by decide +kernel
theorem dX3_add_40 : decode cX3_add 40 = .ok (.aload_n 0, 1) := by decide +kernel
theorem dX3_add_41 : decode cX3_add 41 = .ok (.dup, 1) := by decide +kernel
theorem dX3_add_42 : decode cX3_add 42 = .ok (.getfield 21, 3) := by decide +kernel
theorem dX3_add_45 : decode cX3_add 45 = .ok (.iconst 1, 1) := by decide +kernel
theorem dX3_add_46 : decode cX3_add 46 = .ok (.iadd, 1) := by decide +kernel
theorem dX3_add_47 : decode cX3_add 47 = .ok (.putfield 21, 3) := by decide +kernel
theorem dX3_add_50 : decode cX3_add 50 = .ok (.return_, 1) := by decide +kernel
set_option maxRecDepth 20000 in
theorem ggX3_show_X3_showBetween : GoodIn wsX3_show wsX3_showBetween := goodIn_r _ [8, 2, 9, 3, 10, 11, 12, 13, 14, 15, 16, 17, 18, 19, 20, 21, 22, 23] (by decide +kernel) (by decide +kernel)
set_option maxRecDepth 20000 in
theorem gX3_show_X3_showBetween : GoodIn wsX3_show (wsV RX3 35 RX3 yX3_showBetween wsX3_showBetween) := goodIn_app (goodIn_of _ (by decide +kernel)) ggX3_show_X3_showBetween
theorem dX3_show_0 : decode cX3_show 0 = .ok (.ldc 34, 2) := by decide +kernel
theorem dX3_show_2 : decode cX3_show 2 = .ok (.istore 4, 2) := by decide +kernel
theorem dX3_show_4 : decode cX3_show 4 = .ok (.iconst 0, 1) := by decide +kernel
theorem dX3_show_5 : decode cX3_show 5 = .ok (.istore 5, 2) := by decide +kernel
theorem dX3_show_7 : decode cX3_show 7 = .ok (.iload 5, 2) := by decide +kernel
theorem dX3_show_9 : decode cX3_show 9 = .ok (.aload_n 0, 1) := by decide +kernel
theorem dX3_show_10 : decode cX3_show 10 = .ok (.getfield 21, 3) := by decide +kernel
theorem dX3_show_13 : decode cX3_show 13 = .ok (.if_icmp .ge 55, 3) := by decide +kernel
theorem dX3_show_16 : decode cX3_show 16 = .ok (.iload_n 3, 1) := by decide +kernel
theorem dX3_show_17 : decode cX3_show 17 = .ok (.ifCond .eq 17, 3) := by decide +kernel
theorem dX3_show_20 : decode cX3_show 20 = .ok (.aload_n 0, 1) := by decide +kernel
theorem dX3_show_21 : decode cX3_show 21 = .ok (.getfield 18, 3) := by decide +kernel
theorem dX3_show_24 : decode cX3_show 24 = .ok (.iload 5, 2) := by decide +kernel
theorem dX3_show_26 : decode cX3_show 26 = .ok (.iaload, 1) := by decide +kernel
theorem dX3_show_27 : decode cX3_show 27 = .ok (.iload_n 2, 1) := by decide +kernel
theorem dX3_show_28 : decode cX3_show 28 = .ok (.if_icmp .eq 6, 3) := by decide +kernel
theorem dX3_show_31 : decode cX3_show 31 = .ok (.goto 31, 3) := by decide +kernel
theorem dX3_show_34 : decode cX3_show 34 = .ok (.iload 4, 2) := by decide +kernel
theorem dX3_show_36 : decode cX3_show 36 = .ok (.ldc 34, 2) := by decide +kernel
theorem dX3_show_38 : decode cX3_show 38 = .ok (.if_icmp .eq 20, 3) := by decide +kernel
theorem dX3_show_41 : decode cX3_show 41 = .ok (.aload_n 0, 1) := by decide +kernel
theorem dX3_show_42 : decode cX3_show 42 = .ok (.iload 4, 2) := by decide +kernel
theorem dX3_show_44 : decode cX3_show 44 = .ok (.iload 5, 2) := by decide +kernel
theorem dX3_show_46 : decode cX3_show 46 = .ok (.iload_n 1, 1) := by decide +kernel
theorem dX3_show_47 : decode cX3_show 47 = .ok (.i2l, 1) := by decide +kernel
theorem dX3_show_48 : decode cX3_show 48 = .ok (.iload_n 2, 1) := by decide +kernel
theorem dX3_show_49 : decode cX3_show 49 = .ok (.i2l, 1) := by decide +kernel
theorem dX3_show_50 : decode cX3_show 50 = .ok (.invokevirtual 35, 3) := by decide +kernel
theorem dX3_show_53 : decode cX3_show 53 = .ok (.ifCond .eq 5, 3) := by decide +kernel
theorem dX3_show_56 : decode cX3_show 56 = .ok (.iconst 1, 1) := by decide +kernel
theorem dX3_show_57 : decode cX3_show 57 = .ok (.ireturn, 1) := by decide +kernel
theorem dX3_show_58 : decode cX3_show 58 = .ok (.iload 5, 2) := by decide +kernel
theorem dX3_show_60 : decode cX3_show 60 = .ok (.istore 4, 2) := by decide +kernel
theorem dX3_show_62 : decode cX3_show 62 = .ok (.iinc 5 1, 3) := by decide +kernel
theorem dX3_show_65 : decode cX3_show 65 = .ok (.goto (-58), 3) := by decide +kernel
theorem dX3_show_68 : decode cX3_show 68 = .ok (.iconst 0, 1) := by decide +kernel
theorem dX3_show_69 : decode cX3_show 69 = .ok (.ireturn, 1) := by decide +kernel
set_option maxRecDepth 20000 in
theorem ggX3_showBetween_X10_within : GoodIn wsX3_showBetween wsX10_within := goodIn_r _ [10] (by decide +kernel) (by decide +kernel)
set_option maxRecDepth 20000 in
theorem gX3_showBetween_X10_within_n39 : GoodIn wsX3_showBetween (wsX10_within) := ggX3_showBetween_X10_within
theorem dX3_showBetween_0 : decode cX3_showBetween 0 = .ok (.iload_n 1, 1) := by decide +kernel
theorem dX3_showBetween_1 : decode cX3_showBetween 1 = .ok (.i2l, 1) := by decide +kernel
theorem dX3_showBetween_2 : decode cX3_showBetween 2 = .ok (.lconst 0, 1) := by decide +kernel
theorem dX3_showBetween_3 : decode cX3_showBetween 3 = .ok (.aload_n 0, 1) := by decide +kernel
theorem dX3_showBetween_4 : decode cX3_showBetween 4 = .ok (.getfield 21, 3) := by decide +kernel
theorem dX3_showBetween_7 : decode cX3_showBetween 7 = .ok (.iconst 1, 1) := by decide +kernel
theorem dX3_showBetween_8 : decode cX3_showBetween 8 = .ok (.isub, 1) := by decide +kernel
theorem dX3_showBetween_9 : decode cX3_showBetween 9 = .ok (.i2l, 1) := by decide +kernel
theorem dX3_showBetween_10 : decode cX3_showBetween 10 = .ok (.invokestatic 39, 3) := by decide +kernel
theorem dX3_showBetween_13 : decode cX3_showBetween 13 = .ok (.ifCond .eq 19, 3) := by decide +kernel
theorem dX3_showBetween_16 : decode cX3_showBetween 16 = .ok (.iload_n 2, 1) := by decide +kernel
theorem dX3_showBetween_17 : decode cX3_showBetween 17 = .ok (.i2l, 1) := by decide +kernel
theorem dX3_showBetween_18 : decode cX3_showBetween 18 = .ok (.lconst 0, 1) := by decide +kernel
theorem dX3_showBetween_19 : decode cX3_showBetween 19 = .ok (.aload_n 0, 1) := by decide +kernel
theorem dX3_showBetween_20 : decode cX3_showBetween 20 = .ok (.getfield 21, 3) := by decide +kernel
theorem dX3_showBetween_23 : decode cX3_showBetween 23 = .ok (.iconst 1, 1) := by decide +kernel
theorem dX3_showBetween_24 : decode cX3_showBetween 24 = .ok (.isub, 1) := by decide +kernel
theorem dX3_showBetween_25 : decode cX3_showBetween 25 = .ok (.i2l, 1) := by decide +kernel
theorem dX3_showBetween_26 : decode cX3_showBetween 26 = .ok (.invokestatic 39, 3) := by decide +kernel
theorem dX3_showBetween_29 : decode cX3_showBetween 29 = .ok (.ifCond .ne 5, 3) := by decide +kernel
theorem dX3_showBetween_32 : decode cX3_showBetween 32 = .ok (.iconst 0, 1) := by decide +kernel
theorem dX3_showBetween_33 : decode cX3_showBetween 33 = .ok (.ireturn, 1) := by decide +kernel
theorem dX3_showBetween_34 : decode cX3_showBetween 34 = .ok (.aload_n 0, 1) := by decide +kernel
theorem dX3_showBetween_35 : decode cX3_showBetween 35 = .ok (.getfield 15, 3) := by decide +kernel
theorem dX3_showBetween_38 : decode cX3_showBetween 38 = .ok (.iload_n 2, 1) := by decide +kernel
theorem dX3_showBetween_39 : decode cX3_showBetween 39 = .ok (.iaload, 1) := by decide +kernel
theorem dX3_showBetween_40 : decode cX3_showBetween 40 = .ok (.aload_n 0, 1) := by decide +kernel
theorem dX3_showBetween_41 : decode cX3_showBetween 41 = .ok (.getfield 15, 3) := by decide +kernel
theorem dX3_showBetween_44 : decode cX3_showBetween 44 = .ok (.iload_n 1, 1) := by decide +kernel
theorem dX3_showBetween_45 : decode cX3_showBetween 45 = .ok (.iaload, 1) := by decide +kernel
theorem dX3_showBetween_46 : decode cX3_showBetween 46 = .ok (.isub, 1) := by decide +kernel
theorem dX3_showBetween_47 : decode cX3_showBetween 47 = .ok (.i2l, 1) := by decide +kernel
theorem dX3_showBetween_48 : decode cX3_showBetween 48 = .ok (.lstore 7, 2) := by decide +kernel
theorem dX3_showBetween_50 : decode cX3_showBetween 50 = .ok (.aload_n 0, 1) := by decide +kernel
theorem dX3_showBetween_51 : decode cX3_showBetween 51 = .ok (.getfield 18, 3) := by decide +kernel
theorem dX3_showBetween_54 : decode cX3_showBetween 54 = .ok (.iload_n 2, 1) := by decide +kernel
theorem dX3_showBetween_55 : decode cX3_showBetween 55 = .ok (.iaload, 1) := by decide +kernel
theorem dX3_showBetween_56 : decode cX3_showBetween 56 = .ok (.aload_n 0, 1) := by decide +kernel
theorem dX3_showBetween_57 : decode cX3_showBetween 57 = .ok (.getfield 18, 3) := by decide +kernel
theorem dX3_showBetween_60 : decode cX3_showBetween 60 = .ok (.iload_n 1, 1) := by decide +kernel
theorem dX3_showBetween_61 : decode cX3_showBetween 61 = .ok (.iaload, 1) := by decide +kernel
theorem dX3_showBetween_62 : decode cX3_showBetween 62 = .ok (.isub, 1) := by decide +kernel
theorem dX3_showBetween_63 : decode cX3_showBetween 63 = .ok (.i2l, 1) := by decide +kernel
theorem dX3_showBetween_64 : decode cX3_showBetween 64 = .ok (.lstore 9, 2) := by decide +kernel
theorem dX3_showBetween_66 : decode cX3_showBetween 66 = .ok (.lload 7, 2) := by decide +kernel
theorem dX3_showBetween_68 : decode cX3_showBetween 68 = .ok (.lload 7, 2) := by decide +kernel
theorem dX3_showBetween_70 : decode cX3_showBetween 70 = .ok (.lmul, 1) := by decide +kernel
theorem dX3_showBetween_71 : decode cX3_showBetween 71 = .ok (.lload 9, 2) := by decide +kernel
theorem dX3_showBetween_73 : decode cX3_showBetween 73 = .ok (.lload 9, 2) := by decide +kernel
theorem dX3_showBetween_75 : decode cX3_showBetween 75 = .ok (.lmul, 1) := by decide +kernel
theorem dX3_showBetween_76 : decode cX3_showBetween 76 = .ok (.ladd, 1) := by decide +kernel
theorem dX3_showBetween_77 : decode cX3_showBetween 77 = .ok (.lstore 11, 2) := by decide +kernel
theorem dX3_showBetween_79 : decode cX3_showBetween 79 = .ok (.lload_n 3, 1) := by decide +kernel
theorem dX3_showBetween_80 : decode cX3_showBetween 80 = .ok (.aload_n 0, 1) := by decide +kernel
theorem dX3_showBetween_81 : decode cX3_showBetween 81 = .ok (.getfield 15, 3) := by decide +kernel
theorem dX3_showBetween_84 : decode cX3_showBetween 84 = .ok (.iload_n 1, 1) := by decide +kernel
theorem dX3_showBetween_85 : decode cX3_showBetween 85 = .ok (.iaload, 1) := by decide +kernel
theorem dX3_showBetween_86 : decode cX3_showBetween 86 = .ok (.i2l, 1) := by decide +kernel
theorem dX3_showBetween_87 : decode cX3_showBetween 87 = .ok (.lsub, 1) := by decide +kernel
theorem dX3_showBetween_88 : decode cX3_showBetween 88 = .ok (.lload 7, 2) := by decide +kernel
theorem dX3_showBetween_90 : decode cX3_showBetween 90 = .ok (.lmul, 1) := by decide +kernel
theorem dX3_showBetween_91 : decode cX3_showBetween 91 = .ok (.lload 5, 2) := by decide +kernel
theorem dX3_showBetween_93 : decode cX3_showBetween 93 = .ok (.aload_n 0, 1) := by decide +kernel
theorem dX3_showBetween_94 : decode cX3_showBetween 94 = .ok (.getfield 18, 3) := by decide +kernel
theorem dX3_showBetween_97 : decode cX3_showBetween 97 = .ok (.iload_n 1, 1) := by decide +kernel
theorem dX3_showBetween_98 : decode cX3_showBetween 98 = .ok (.iaload, 1) := by decide +kernel
theorem dX3_showBetween_99 : decode cX3_showBetween 99 = .ok (.i2l, 1) := by decide +kernel
theorem dX3_showBetween_100 : decode cX3_showBetween 100 = .ok (.lsub, 1) := by decide +kernel
theorem dX3_showBetween_101 : decode cX3_showBetween 101 = .ok (.lload 9, 2) := by decide +kernel
theorem dX3_showBetween_103 : decode cX3_showBetween 103 = .ok (.lmul, 1) := by decide +kernel
theorem dX3_showBetween_104 : decode cX3_showBetween 104 = .ok (.ladd, 1) := by decide +kernel
theorem dX3_showBetween_105 : decode cX3_showBetween 105 = .ok (.lstore 13, 2) := by decide +kernel
theorem dX3_showBetween_107 : decode cX3_showBetween 107 = .ok (.lload 13, 2) := by decide +kernel
theorem dX3_showBetween_109 : decode cX3_showBetween 109 = .ok (.lconst 0, 1) := by decide +kernel
theorem dX3_showBetween_110 : decode cX3_showBetween 110 = .ok (.lcmp, 1) := by decide +kernel
theorem dX3_showBetween_111 : decode cX3_showBetween 111 = .ok (.ifCond .lt 11, 3) := by decide +kernel
theorem dX3_showBetween_114 : decode cX3_showBetween 114 = .ok (.lload 13, 2) := by decide +kernel
theorem dX3_showBetween_116 : decode cX3_showBetween 116 = .ok (.lload 11, 2) := by decide +kernel
theorem dX3_showBetween_118 : decode cX3_showBetween 118 = .ok (.lcmp, 1) := by decide +kernel
theorem dX3_showBetween_119 : decode cX3_showBetween 119 = .ok (.ifCond .lt 5, 3) := by decide +kernel
theorem dX3_showBetween_122 : decode cX3_showBetween 122 = .ok (.iconst 0, 1) := by decide +kernel
theorem dX3_showBetween_123 : decode cX3_showBetween 123 = .ok (.ireturn, 1) := by decide +kernel
theorem dX3_showBetween_124 : decode cX3_showBetween 124 = .ok (.aload_n 0, 1) := by decide +kernel
theorem dX3_showBetween_125 : decode cX3_showBetween 125 = .ok (.aload_n 0, 1) := by decide +kernel
theorem dX3_showBetween_126 : decode cX3_showBetween 126 = .ok (.getfield 9, 3) := by decide +kernel
theorem dX3_showBetween_129 : decode cX3_showBetween 129 = .ok (.iload_n 1, 1) := by decide +kernel
theorem dX3_showBetween_130 : decode cX3_showBetween 130 = .ok (.iaload, 1) := by decide +kernel
theorem dX3_showBetween_131 : decode cX3_showBetween 131 = .ok (.putfield 25, 3) := by decide +kernel
theorem dX3_showBetween_134 : decode cX3_showBetween 134 = .ok (.aload_n 0, 1) := by decide +kernel
theorem dX3_showBetween_135 : decode cX3_showBetween 135 = .ok (.aload_n 0, 1) := by decide +kernel
theorem dX3_showBetween_136 : decode cX3_showBetween 136 = .ok (.getfield 9, 3) := by decide +kernel
theorem dX3_showBetween_139 : decode cX3_showBetween 139 = .ok (.iload_n 2, 1) := by decide +kernel
theorem dX3_showBetween_140 : decode cX3_showBetween 140 = .ok (.iaload, 1) := by decide +kernel
theorem dX3_showBetween_141 : decode cX3_showBetween 141 = .ok (.putfield 28, 3) := by decide +kernel
theorem dX3_showBetween_144 : decode cX3_showBetween 144 = .ok (.bipush 60, 2) := by decide +kernel
theorem dX3_showBetween_146 : decode cX3_showBetween 146 = .ok (.aload_n 0, 1) := by decide +kernel
theorem dX3_showBetween_147 : decode cX3_showBetween 147 = .ok (.getfield 28, 3) := by decide +kernel
theorem dX3_showBetween_150 : decode cX3_showBetween 150 = .ok (.aload_n 0, 1) := by decide +kernel
theorem dX3_showBetween_151 : decode cX3_showBetween 151 = .ok (.getfield 25, 3) := by decide +kernel
theorem dX3_showBetween_154 : decode cX3_showBetween 154 = .ok (.isub, 1) := by decide +kernel
theorem dX3_showBetween_155 : decode cX3_showBetween 155 = .ok (.imul, 1) := by decide +kernel
theorem dX3_showBetween_156 : decode cX3_showBetween 156 = .ok (.istore 15, 2) := by decide +kernel
theorem dX3_showBetween_158 : decode cX3_showBetween 158 = .ok (.aload_n 0, 1) := by decide +kernel
theorem dX3_showBetween_159 : decode cX3_showBetween 159 = .ok (.bipush 60, 2) := by decide +kernel
theorem dX3_showBetween_161 : decode cX3_showBetween 161 = .ok (.aload_n 0, 1) := by decide +kernel
theorem dX3_showBetween_162 : decode cX3_showBetween 162 = .ok (.getfield 25, 3) := by decide +kernel
theorem dX3_showBetween_165 : decode cX3_showBetween 165 = .ok (.imul, 1) := by decide +kernel
theorem dX3_showBetween_166 : decode cX3_showBetween 166 = .ok (.iload 15, 2) := by decide +kernel
theorem dX3_showBetween_168 : decode cX3_showBetween 168 = .ok (.i2l, 1) := by decide +kernel
theorem dX3_showBetween_169 : decode cX3_showBetween 169 = .ok (.lload 13, 2) := by decide +kernel
theorem dX3_showBetween_171 : decode cX3_showBetween 171 = .ok (.lmul, 1) := by decide +kernel
theorem dX3_showBetween_172 : decode cX3_showBetween 172 = .ok (.lload 11, 2) := by decide +kernel
theorem dX3_showBetween_174 : decode cX3_showBetween 174 = .ok (.ldiv, 1) := by decide +kernel
theorem dX3_showBetween_175 : decode cX3_showBetween 175 = .ok (.l2i, 1) := by decide +kernel
theorem dX3_showBetween_176 : decode cX3_showBetween 176 = .ok (.iadd, 1) := by decide +kernel
theorem dX3_showBetween_177 : decode cX3_showBetween 177 = .ok (.putfield 31, 3) := by decide +kernel
theorem dX3_showBetween_180 : decode cX3_showBetween 180 = .ok (.iconst 1, 1) := by decide +kernel
theorem dX3_showBetween_181 : decode cX3_showBetween 181 = .ok (.ireturn, 1) := by decide +kernel
theorem dX4_init_0 : decode cX4_init 0 = .ok (.aload_n 0, 1) := by decide +kernel
theorem dX4_init_1 : decode cX4_init 1 = .ok (.invokespecial 3, 3) := by decide +kernel
theorem dX4_init_4 : decode cX4_init 4 = .ok (.aload_n 0, 1) := by decide +kernel
theorem dX4_init_5 : decode cX4_init 5 = .ok (.iconst 0, 1) := by decide +kernel
theorem dX4_init_6 : decode cX4_init 6 = .ok (.putfield 9, 3) := by decide +kernel
theorem dX4_init_9 : decode cX4_init 9 = .ok (.aload_n 0, 1) := by decide +kernel
theorem dX4_init_10 : decode cX4_init 10 = .ok (.iconst 0, 1) := by decide +kernel
theorem dX4_init_11 : decode cX4_init 11 = .ok (.putfield 15, 3) := by decide +kernel
theorem dX4_init_14 : decode cX4_init 14 = .ok (.aload_n 0, 1) := by decide +kernel
theorem dX4_init_15 : decode cX4_init 15 = .ok (.iconst 0, 1) := by decide +kernel
theorem dX4_init_16 : decode cX4_init 16 = .ok (.putfield 18, 3) := by decide +kernel
theorem dX4_init_19 : decode cX4_init 19 = .ok (.return_, 1) := by decide +kernel
theorem dX4_clear_0 : decode cX4_clear 0 = .ok (.aload_n 0, 1) := by decide +kernel
theorem dX4_clear_1 : decode cX4_clear 1 = .ok (.iconst 0, 1) := by decide +kernel
theorem dX4_clear_2 : decode cX4_clear 2 = .ok (.putfield 9, 3) := by decide +kernel
theorem dX4_clear_5 : decode cX4_clear 5 = .ok (.return_, 1) := by decide +kernel
theorem dX4_add_0 : decode cX4_add 0 = .ok (.aload_n 0, 1) := by decide +kernel
theorem dX4_add_1 : decode cX4_add 1 = .ok (.getfield 9, 3) := by decide +kernel
theorem dX4_add_4 : decode cX4_add 4 = .ok (.ifCond .eq 11, 3) := by decide +kernel
theorem dX4_add_7 : decode cX4_add 7 = .ok (.iload_n 1, 1) := by decide +kernel
theorem dX4_add_8 : decode cX4_add 8 = .ok (.aload_n 0, 1) := by decide +kernel
theorem dX4_add_9 : decode cX4_add 9 = .ok (.getfield 15, 3) := by decide +kernel
theorem dX4_add_12 : decode cX4_add 12 = .ok (.if_icmp .ge 8, 3) := by decide +kernel
theorem dX4_add_15 : decode cX4_add 15 = .ok (.aload_n 0, 1) := by decide +kernel
theorem dX4_add_16 : decode cX4_add 16 = .ok (.iload_n 1, 1) := by decide +kernel
theorem dX4_add_17 : decode cX4_add 17 = .ok (.putfield 15, 3) := by decide +kernel
theorem dX4_add_20 : decode cX4_add 20 = .ok (.aload_n 0, 1) := by decide +kernel
theorem dX4_add_21 : decode cX4_add 21 = .ok (.getfield 9, 3) := by decide +kernel
theorem dX4_add_24 : decode cX4_add 24 = .ok (.ifCond .eq 11, 3) := by decide +kernel
theorem dX4_add_27 : decode cX4_add 27 = .ok (.iload_n 1, 1) := by decide +kernel
theorem dX4_add_28 : decode cX4_add 28 = .ok (.aload_n 0, 1) := by decide +kernel
theorem dX4_add_29 : decode cX4_add 29 = .ok (.getfield 18, 3) := by decide +kernel
theorem dX4_add_32 : decode cX4_add 32 = .ok (.if_icmp .le 8, 3) := by decide +kernel
theorem dX4_add_35 : decode cX4_add 35 = .ok (.aload_n 0, 1) := by decide +kernel
theorem dX4_add_36 : decode cX4_add 36 = .ok (.iload_n 1, 1) := by decide +kernel
theorem dX4_add_37 : decode cX4_add 37 = .ok (.putfield 18, 3) := by decide +kernel
theorem dX4_add_40 : decode cX4_add 40 = .ok (.aload_n 0, 1) := by decide +kernel
theorem dX4_add_41 : decode cX4_add 41 = .ok (.dup, 1) := by decide +kernel
theorem dX4_add_42 : decode cX4_add 42 = .ok (.getfield 9, 3) := by decide +kernel
theorem dX4_add_45 : decode cX4_add 45 = .ok (.iconst 1, 1) := by decide +kernel
theorem dX4_add_46 : decode cX4_add 46 = .ok (.iadd, 1) := by decide +kernel
theorem dX4_add_47 : decode cX4_add 47 = .ok (.putfield 9, 3) := by decide +kernel
theorem dX4_add_50 : decode cX4_add 50 = .ok (.return_, 1) := by decide +kernel
theorem dX4_leastOrNone_0 : decode cX4_leastOrNone 0 = .ok (.aload_n 0, 1) := by decide +kernel
theorem dX4_leastOrNone_1 : decode cX4_leastOrNone 1 = .ok (.getfield 9, 3) := by decide +kernel
theorem dX4_leastOrNone_4 : decode cX4_leastOrNone 4 = .ok (.ifCond .ne 8, 3) := by decide +kernel
theorem dX4_leastOrNone_7 : decode cX4_leastOrNone 7 = .ok (.ldc 21, 2) := by decide +kernel
theorem dX4_leastOrNone_9 : decode cX4_leastOrNone 9 = .ok (.goto 7, 3) := by decide +kernel
theorem dX4_leastOrNone_12 : decode cX4_leastOrNone 12 = .ok (.aload_n 0, 1) := by decide +kernel
theorem dX4_leastOrNone_13 : decode cX4_leastOrNone 13 = .ok (.getfield 15, 3) := by decide +kernel
theorem dX4_leastOrNone_16 : decode cX4_leastOrNone 16 = .ok (.ireturn, 1) := by decide +kernel
theorem dX4_greatestOrNone_0 : decode cX4_greatestOrNone 0 = .ok (.aload_n 0, 1) := by decide +kernel
theorem dX4_greatestOrNone_1 : decode cX4_greatestOrNone 1 = .ok (.getfield 9, 3) := by decide +kernel
theorem dX4_greatestOrNone_4 : decode cX4_greatestOrNone 4 = .ok (.ifCond .ne 8, 3) := by decide +kernel
theorem dX4_greatestOrNone_7 : decode cX4_greatestOrNone 7 = .ok (.ldc 21, 2) := by decide +kernel
theorem dX4_greatestOrNone_9 : decode cX4_greatestOrNone 9 = .ok (.goto 7, 3) := by decide +kernel
theorem dX4_greatestOrNone_12 : decode cX4_greatestOrNone 12 = .ok (.aload_n 0, 1) := by decide +kernel
theorem dX4_greatestOrNone_13 : decode cX4_greatestOrNone 13 = .ok (.getfield 18, 3) := by decide +kernel
theorem dX4_greatestOrNone_16 : decode cX4_greatestOrNone 16 = .ok (.ireturn, 1) := by decide +kernel
theorem dX5_init_0 : decode cX5_init 0 = .ok (.aload_n 0, 1) := by decide +kernel
theorem dX5_init_1 : decode cX5_init 1 = .ok (.invokespecial 1, 3) := by decide +kernel
theorem dX5_init_4 : decode cX5_init 4 = .ok (.aload_n 0, 1) := by decide +kernel
theorem dX5_init_5 : decode cX5_init 5 = .ok (.iconst 0, 1) := by decide +kernel
theorem dX5_init_6 : decode cX5_init 6 = .ok (.putfield 7, 3) := by decide +kernel
theorem dX5_init_9 : decode cX5_init 9 = .ok (.aload_n 0, 1) := by decide +kernel
theorem dX5_init_10 : decode cX5_init 10 = .ok (.iconst 0, 1) := by decide +kernel
theorem dX5_init_11 : decode cX5_init 11 = .ok (.putfield 13, 3) := by decide +kernel
theorem dX5_init_14 : decode cX5_init 14 = .ok (.aload_n 0, 1) := by decide +kernel
theorem dX5_init_15 : decode cX5_init 15 = .ok (.iconst 0, 1) := by decide +kernel
theorem dX5_init_16 : decode cX5_init 16 = .ok (.putfield 16, 3) := by decide +kernel
theorem dX5_init_19 : decode cX5_init 19 = .ok (.return_, 1) := by decide +kernel
theorem dX5_set_0 : decode cX5_set 0 = .ok (.aload_n 0, 1) := by decide +kernel
theorem dX5_set_1 : decode cX5_set 1 = .ok (.iload_n 1, 1) := by decide +kernel
theorem dX5_set_2 : decode cX5_set 2 = .ok (.putfield 7, 3) := by decide +kernel
theorem dX5_set_5 : decode cX5_set 5 = .ok (.aload_n 0, 1) := by decide +kernel
theorem dX5_set_6 : decode cX5_set 6 = .ok (.iload_n 2, 1) := by decide +kernel
theorem dX5_set_7 : decode cX5_set 7 = .ok (.putfield 13, 3) := by decide +kernel
theorem dX5_set_10 : decode cX5_set 10 = .ok (.aload_n 0, 1) := by decide +kernel
theorem dX5_set_11 : decode cX5_set 11 = .ok (.iload_n 3, 1) := by decide +kernel
theorem dX5_set_12 : decode cX5_set 12 = .ok (.putfield 16, 3) := by decide +kernel
theorem dX5_set_15 : decode cX5_set 15 = .ok (.return_, 1) := by decide +kernel
theorem dX5_sunBy_0 : decode cX5_sunBy 0 = .ok (.aload_n 1, 1) := by decide +kernel
theorem dX5_sunBy_1 : decode cX5_sunBy 1 = .ok (.getfield 19, 3) := by decide +kernel
theorem dX5_sunBy_4 : decode cX5_sunBy 4 = .ok (.i2l, 1) := by decide +kernel
theorem dX5_sunBy_5 : decode cX5_sunBy 5 = .ok (.aload_n 0, 1) := by decide +kernel
theorem dX5_sunBy_6 : decode cX5_sunBy 6 = .ok (.getfield 7, 3) := by decide +kernel
theorem dX5_sunBy_9 : decode cX5_sunBy 9 = .ok (.i2l, 1) := by decide +kernel
theorem dX5_sunBy_10 : decode cX5_sunBy 10 = .ok (.lmul, 1) := by decide +kernel
theorem dX5_sunBy_11 : decode cX5_sunBy 11 = .ok (.aload_n 1, 1) := by decide +kernel
theorem dX5_sunBy_12 : decode cX5_sunBy 12 = .ok (.getfield 24, 3) := by decide +kernel
theorem dX5_sunBy_15 : decode cX5_sunBy 15 = .ok (.i2l, 1) := by decide +kernel
theorem dX5_sunBy_16 : decode cX5_sunBy 16 = .ok (.aload_n 0, 1) := by decide +kernel
theorem dX5_sunBy_17 : decode cX5_sunBy 17 = .ok (.getfield 13, 3) := by decide +kernel
theorem dX5_sunBy_20 : decode cX5_sunBy 20 = .ok (.i2l, 1) := by decide +kernel
theorem dX5_sunBy_21 : decode cX5_sunBy 21 = .ok (.lmul, 1) := by decide +kernel
theorem dX5_sunBy_22 : decode cX5_sunBy 22 = .ok (.ladd, 1) := by decide +kernel
theorem dX5_sunBy_23 : decode cX5_sunBy 23 = .ok (.aload_n 1, 1) := by decide +kernel
theorem dX5_sunBy_24 : decode cX5_sunBy 24 = .ok (.getfield 27, 3) := by decide +kernel
theorem dX5_sunBy_27 : decode cX5_sunBy 27 = .ok (.i2l, 1) := by decide +kernel
theorem dX5_sunBy_28 : decode cX5_sunBy 28 = .ok (.aload_n 0, 1) := by decide +kernel
theorem dX5_sunBy_29 : decode cX5_sunBy 29 = .ok (.getfield 16, 3) := by decide +kernel
theorem dX5_sunBy_32 : decode cX5_sunBy 32 = .ok (.i2l, 1) := by decide +kernel
theorem dX5_sunBy_33 : decode cX5_sunBy 33 = .ok (.lmul, 1) := by decide +kernel
theorem dX5_sunBy_34 : decode cX5_sunBy 34 = .ok (.ladd, 1) := by decide +kernel
theorem dX5_sunBy_35 : decode cX5_sunBy 35 = .ok (.lreturn, 1) := by decide +kernel
set_option maxRecDepth 20000 in
theorem ggX6_init_X5_init : GoodIn wsX6_init wsX5_init := goodIn_r _ [24, 25, 2, 3, 26, 27, 28, 29, 30, 31] (by decide +kernel) (by decide +kernel)
set_option maxRecDepth 20000 in
theorem gX6_init_X5_init_n11 : GoodIn wsX6_init (wsX5_init) := ggX6_init_X5_init
theorem dX6_init_0 : decode cX6_init 0 = .ok (.aload_n 0, 1) := by decide +kernel
theorem dX6_init_1 : decode cX6_init 1 = .ok (.invokespecial 3, 3) := by decide +kernel
theorem dX6_init_4 : decode cX6_init 4 = .ok (.aload_n 0, 1) := by decide +kernel
theorem dX6_init_5 : decode cX6_init 5 = .ok (.new 9, 3) := by decide +kernel
theorem dX6_init_8 : decode cX6_init 8 = .ok (.dup, 1) := by decide +kernel
theorem dX6_init_9 : decode cX6_init 9 = .ok (.invokespecial 11, 3) := by decide +kernel
theorem dX6_init_12 : decode cX6_init 12 = .ok (.putfield 12, 3) := by decide +kernel
theorem dX6_init_15 : decode cX6_init 15 = .ok (.aload_n 0, 1) := by decide +kernel
theorem dX6_init_16 : decode cX6_init 16 = .ok (.new 9, 3) := by decide +kernel
theorem dX6_init_19 : decode cX6_init 19 = .ok (.dup, 1) := by decide +kernel
theorem dX6_init_20 : decode cX6_init 20 = .ok (.invokespecial 11, 3) := by decide +kernel
theorem dX6_init_23 : decode cX6_init 23 = .ok (.putfield 18, 3) := by decide +kernel
theorem dX6_init_26 : decode cX6_init 26 = .ok (.aload_n 0, 1) := by decide +kernel
theorem dX6_init_27 : decode cX6_init 27 = .ok (.new 9, 3) := by decide +kernel
theorem dX6_init_30 : decode cX6_init 30 = .ok (.dup, 1) := by decide +kernel
theorem dX6_init_31 : decode cX6_init 31 = .ok (.invokespecial 11, 3) := by decide +kernel
theorem dX6_init_34 : decode cX6_init 34 = .ok (.putfield 21, 3) := by decide +kernel
theorem dX6_init_37 : decode cX6_init 37 = .ok (.aload_n 0, 1) := by decide +kernel
theorem dX6_init_38 : decode cX6_init 38 = .ok (.bipush 40, 2) := by decide +kernel
theorem dX6_init_40 : decode cX6_init 40 = .ok (.anewarray 24, 3) := by decide +kernel
theorem dX6_init_43 : decode cX6_init 43 = .ok (.putfield 26, 3) := by decide +kernel
theorem dX6_init_46 : decode cX6_init 46 = .ok (.aload_n 0, 1) := by decide +kernel
theorem dX6_init_47 : decode cX6_init 47 = .ok (.bipush 40, 2) := by decide +kernel
theorem dX6_init_49 : decode cX6_init 49 = .ok (.newarray .int, 2) := by decide +kernel
theorem dX6_init_51 : decode cX6_init 51 = .ok (.putfield 30, 3) := by decide +kernel
theorem dX6_init_54 : decode cX6_init 54 = .ok (.aload_n 0, 1) := by decide +kernel
theorem dX6_init_55 : decode cX6_init 55 = .ok (.iconst 0, 1) := by decide +kernel
theorem dX6_init_56 : decode cX6_init 56 = .ok (.putfield 34, 3) := by decide +kernel
theorem dX6_init_59 : decode cX6_init 59 = .ok (.aload_n 0, 1) := by decide +kernel
theorem dX6_init_60 : decode cX6_init 60 = .ok (.iconst 0, 1) := by decide +kernel
theorem dX6_init_61 : decode cX6_init 61 = .ok (.putfield 38, 3) := by decide +kernel
theorem dX6_init_64 : decode cX6_init 64 = .ok (.aload_n 0, 1) := by decide +kernel
theorem dX6_init_65 : decode cX6_init 65 = .ok (.iconst 0, 1) := by decide +kernel
theorem dX6_init_66 : decode cX6_init 66 = .ok (.putfield 41, 3) := by decide +kernel
theorem dX6_init_69 : decode cX6_init 69 = .ok (.aload_n 0, 1) := by decide +kernel
theorem dX6_init_70 : decode cX6_init 70 = .ok (.iconst 1, 1) := by decide +kernel
theorem dX6_init_71 : decode cX6_init 71 = .ok (.putfield 44, 3) := by decide +kernel
theorem dX6_init_74 : decode cX6_init 74 = .ok (.aload_n 0, 1) := by decide +kernel
theorem dX6_init_75 : decode cX6_init 75 = .ok (.iconst 0, 1) := by decide +kernel
theorem dX6_init_76 : decode cX6_init 76 = .ok (.putfield 47, 3) := by decide +kernel
theorem dX6_init_79 : decode cX6_init 79 = .ok (.aload_n 0, 1) := by decide +kernel
theorem dX6_init_80 : decode cX6_init 80 = .ok (.ldc 51, 2) := by decide +kernel
theorem dX6_init_82 : decode cX6_init 82 = .ok (.putfield 52, 3) := by decide +kernel
theorem dX6_init_85 : decode cX6_init 85 = .ok (.aload_n 0, 1) := by decide +kernel
theorem dX6_init_86 : decode cX6_init 86 = .ok (.iconst 0, 1) := by decide +kernel
theorem dX6_init_87 : decode cX6_init 87 = .ok (.putfield 55, 3) := by decide +kernel
theorem dX6_init_90 : decode cX6_init 90 = .ok (.aload_n 0, 1) := by decide +kernel
theorem dX6_init_91 : decode cX6_init 91 = .ok (.iconst 0, 1) := by decide +kernel
theorem dX6_init_92 : decode cX6_init 92 = .ok (.putfield 58, 3) := by decide +kernel
theorem dX6_init_95 : decode cX6_init 95 = .ok (.return_, 1) := by decide +kernel
set_option maxRecDepth 20000 in
theorem ggX6_setUp_X1_isA : GoodIn wsX6_setUp wsX1_isA := goodIn_r _ [9, 10, 11, 12, 13, 14, 15, 16, 17, 52, 53, 54, 55, 56, 57, 58] (by decide +kernel) (by decide +kernel)
set_option maxRecDepth 20000 in
theorem gX6_setUp_X1_isA : GoodIn wsX6_setUp (wsV RX6 66 RX1 yX1_isA wsX1_isA) := goodIn_app (goodIn_of _ (by decide +kernel)) ggX6_setUp_X1_isA
set_option maxRecDepth 20000 in
theorem ggX6_setUp_X6_setRows : GoodIn wsX6_setUp wsX6_setRows := goodIn_r _ [22, 23, 24, 25, 26, 12, 27, 28, 29, 30, 31, 32, 33, 5, 6, 7, 8, 9, 10, 11, 13, 14, 15, 16, 17, 34, 35, 36, 37, 38, 39, 40, 41, 42, 43, 52, 53, 54, 55, 56, 57, 58, 59, 60, 61, 62, 63, 64, 65, 66, 67, 68, 69, 70, 71, 72, 73, 74] (by decide +kernel) (by decide +kernel)
set_option maxRecDepth 20000 in
theorem gX6_setUp_X6_setRows : GoodIn wsX6_setUp (wsV RX6 73 RX6 yX6_setRows wsX6_setRows) := goodIn_app (goodIn_of _ (by decide +kernel)) ggX6_setUp_X6_setRows
set_option maxRecDepth 20000 in
theorem ggX6_setUp_X6_gatherHouses : GoodIn wsX6_setUp wsX6_gatherHouses := goodIn_r _ [47, 48, 49, 50, 51, 59, 60, 61, 62, 63, 64, 65, 66, 67, 68, 69, 70, 71] (by decide +kernel) (by decide +kernel)
set_option maxRecDepth 20000 in
theorem gX6_setUp_X6_gatherHouses : GoodIn wsX6_setUp (wsV RX6 77 RX6 yX6_gatherHouses wsX6_gatherHouses) := goodIn_app (goodIn_of _ (by decide +kernel)) ggX6_setUp_X6_gatherHouses
theorem dX6_setUp_0 : decode cX6_setUp 0 = .ok (.aload_n 0, 1) := by decide +kernel
theorem dX6_setUp_1 : decode cX6_setUp 1 = .ok (.aload_n 1, 1) := by decide +kernel
theorem dX6_setUp_2 : decode cX6_setUp 2 = .ok (.getfield 61, 3) := by decide +kernel
theorem dX6_setUp_5 : decode cX6_setUp 5 = .ok (.putfield 38, 3) := by decide +kernel
theorem dX6_setUp_8 : decode cX6_setUp 8 = .ok (.aload_n 0, 1) := by decide +kernel
theorem dX6_setUp_9 : decode cX6_setUp 9 = .ok (.aload_n 1, 1) := by decide +kernel
theorem dX6_setUp_10 : decode cX6_setUp 10 = .ok (.getfield 64, 3) := by decide +kernel
theorem dX6_setUp_13 : decode cX6_setUp 13 = .ok (.putfield 41, 3) := by decide +kernel
theorem dX6_setUp_16 : decode cX6_setUp 16 = .ok (.aload_n 0, 1) := by decide +kernel
theorem dX6_setUp_17 : decode cX6_setUp 17 = .ok (.aload_n 1, 1) := by decide +kernel
theorem dX6_setUp_18 : decode cX6_setUp 18 = .ok (.getfield 65, 3) := by decide +kernel
theorem dX6_setUp_21 : decode cX6_setUp 21 = .ok (.putfield 44, 3) := by decide +kernel
theorem dX6_setUp_24 : decode cX6_setUp 24 = .ok (.aload_n 0, 1) := by decide +kernel
theorem dX6_setUp_25 : decode cX6_setUp 25 = .ok (.aload_n 1, 1) := by decide +kernel
theorem dX6_setUp_26 : decode cX6_setUp 26 = .ok (.iconst 3, 1) := by decide +kernel
theorem dX6_setUp_27 : decode cX6_setUp 27 = .ok (.invokevirtual 66, 3) := by decide +kernel
theorem dX6_setUp_30 : decode cX6_setUp 30 = .ok (.putfield 47, 3) := by decide +kernel
theorem dX6_setUp_33 : decode cX6_setUp 33 = .ok (.aload_n 0, 1) := by decide +kernel
theorem dX6_setUp_34 : decode cX6_setUp 34 = .ok (.aload_n 1, 1) := by decide +kernel
theorem dX6_setUp_35 : decode cX6_setUp 35 = .ok (.aload_n 1, 1) := by decide +kernel
theorem dX6_setUp_36 : decode cX6_setUp 36 = .ok (.getfield 70, 3) := by decide +kernel
theorem dX6_setUp_39 : decode cX6_setUp 39 = .ok (.invokevirtual 73, 3) := by decide +kernel
theorem dX6_setUp_42 : decode cX6_setUp 42 = .ok (.aload_n 0, 1) := by decide +kernel
theorem dX6_setUp_43 : decode cX6_setUp 43 = .ok (.aload_n 2, 1) := by decide +kernel
theorem dX6_setUp_44 : decode cX6_setUp 44 = .ok (.invokevirtual 77, 3) := by decide +kernel
theorem dX6_setUp_47 : decode cX6_setUp 47 = .ok (.return_, 1) := by decide +kernel
theorem dX6_gatherHouses_0 : decode cX6_gatherHouses 0 = .ok (.aload_n 0, 1) := by decide +kernel
theorem dX6_gatherHouses_1 : decode cX6_gatherHouses 1 = .ok (.iconst 0, 1) := by decide +kernel
theorem dX6_gatherHouses_2 : decode cX6_gatherHouses 2 = .ok (.putfield 34, 3) := by decide +kernel
theorem dX6_gatherHouses_5 : decode cX6_gatherHouses 5 = .ok (.iconst 0, 1) := by decide +kernel
theorem dX6_gatherHouses_6 : decode cX6_gatherHouses 6 = .ok (.istore_n 2, 1) := by decide +kernel
theorem dX6_gatherHouses_7 : decode cX6_gatherHouses 7 = .ok (.iload_n 2, 1) := by decide +kernel
theorem dX6_gatherHouses_8 : decode cX6_gatherHouses 8 = .ok (.aload_n 1, 1) := by decide +kernel
theorem dX6_gatherHouses_9 : decode cX6_gatherHouses 9 = .ok (.arraylength, 1) := by decide +kernel
theorem dX6_gatherHouses_10 : decode cX6_gatherHouses 10 = .ok (.if_icmp .ge 64, 3) := by decide +kernel
theorem dX6_gatherHouses_13 : decode cX6_gatherHouses 13 = .ok (.iload_n 2, 1) := by decide +kernel
theorem dX6_gatherHouses_14 : decode cX6_gatherHouses 14 = .ok (.bipush 40, 2) := by decide +kernel
theorem dX6_gatherHouses_16 : decode cX6_gatherHouses 16 = .ok (.if_icmp .ge 58, 3) := by decide +kernel
theorem dX6_gatherHouses_19 : decode cX6_gatherHouses 19 = .ok (.aload_n 1, 1) := by decide +kernel
theorem dX6_gatherHouses_20 : decode cX6_gatherHouses 20 = .ok (.iload_n 2, 1) := by decide +kernel
theorem dX6_gatherHouses_21 : decode cX6_gatherHouses 21 = .ok (.aaload, 1) := by decide +kernel
theorem dX6_gatherHouses_22 : decode cX6_gatherHouses 22 = .ok (.astore 4, 2) := by decide +kernel
theorem dX6_gatherHouses_24 : decode cX6_gatherHouses 24 = .ok (.aload 4, 2) := by decide +kernel
theorem dX6_gatherHouses_26 : decode cX6_gatherHouses 26 = .ok (.instanceof 24, 3) := by decide +kernel
theorem dX6_gatherHouses_29 : decode cX6_gatherHouses 29 = .ok (.ifCond .eq 39, 3) := by decide +kernel
theorem dX6_gatherHouses_32 : decode cX6_gatherHouses 32 = .ok (.aload 4, 2) := by decide +kernel
theorem dX6_gatherHouses_34 : decode cX6_gatherHouses 34 = .ok (.checkcast 24, 3) := by decide +kernel
theorem dX6_gatherHouses_37 : decode cX6_gatherHouses 37 = .ok (.astore_n 3, 1) := by decide +kernel
theorem dX6_gatherHouses_38 : decode cX6_gatherHouses 38 = .ok (.aload_n 0, 1) := by decide +kernel
theorem dX6_gatherHouses_39 : decode cX6_gatherHouses 39 = .ok (.getfield 26, 3) := by decide +kernel
theorem dX6_gatherHouses_42 : decode cX6_gatherHouses 42 = .ok (.aload_n 0, 1) := by decide +kernel
theorem dX6_gatherHouses_43 : decode cX6_gatherHouses 43 = .ok (.getfield 34, 3) := by decide +kernel
theorem dX6_gatherHouses_46 : decode cX6_gatherHouses 46 = .ok (.aload_n 3, 1) := by decide +kernel
theorem dX6_gatherHouses_47 : decode cX6_gatherHouses 47 = .ok (.aastore, 1) := by decide +kernel
theorem dX6_gatherHouses_48 : decode cX6_gatherHouses 48 = .ok (.aload_n 0, 1) := by decide +kernel
theorem dX6_gatherHouses_49 : decode cX6_gatherHouses 49 = .ok (.getfield 30, 3) := by decide +kernel
theorem dX6_gatherHouses_52 : decode cX6_gatherHouses 52 = .ok (.aload_n 0, 1) := by decide +kernel
theorem dX6_gatherHouses_53 : decode cX6_gatherHouses 53 = .ok (.getfield 34, 3) := by decide +kernel
theorem dX6_gatherHouses_56 : decode cX6_gatherHouses 56 = .ok (.iload_n 2, 1) := by decide +kernel
theorem dX6_gatherHouses_57 : decode cX6_gatherHouses 57 = .ok (.iastore, 1) := by decide +kernel
theorem dX6_gatherHouses_58 : decode cX6_gatherHouses 58 = .ok (.aload_n 0, 1) := by decide +kernel
theorem dX6_gatherHouses_59 : decode cX6_gatherHouses 59 = .ok (.dup, 1) := by decide +kernel
theorem dX6_gatherHouses_60 : decode cX6_gatherHouses 60 = .ok (.getfield 34, 3) := by decide +kernel
theorem dX6_gatherHouses_63 : decode cX6_gatherHouses 63 = .ok (.iconst 1, 1) := by decide +kernel
theorem dX6_gatherHouses_64 : decode cX6_gatherHouses 64 = .ok (.iadd, 1) := by decide +kernel
theorem dX6_gatherHouses_65 : decode cX6_gatherHouses 65 = .ok (.putfield 34, 3) := by decide +kernel
theorem dX6_gatherHouses_68 : decode cX6_gatherHouses 68 = .ok (.iinc 2 1, 3) := by decide +kernel
theorem dX6_gatherHouses_71 : decode cX6_gatherHouses 71 = .ok (.goto (-64), 3) := by decide +kernel
theorem dX6_gatherHouses_74 : decode cX6_gatherHouses 74 = .ok (.return_, 1) := by decide +kernel
set_option maxRecDepth 20000 in
theorem ggX6_setRows_X10_sineOf : GoodIn wsX6_setRows wsX10_sineOf := goodIn_r _ [6, 7, 8, 9] (by decide +kernel) (by decide +kernel)
set_option maxRecDepth 20000 in
theorem gX6_setRows_X10_sineOf_n81 : GoodIn wsX6_setRows (wsX10_sineOf) := ggX6_setRows_X10_sineOf
set_option maxRecDepth 20000 in
theorem ggX6_setRows_X10_cosineOf : GoodIn wsX6_setRows wsX10_cosineOf := goodIn_r _ [11, 12, 4, 5, 6, 7, 8, 9] (by decide +kernel) (by decide +kernel)
set_option maxRecDepth 20000 in
theorem gX6_setRows_X10_cosineOf_n85 : GoodIn wsX6_setRows (wsX10_cosineOf) := ggX6_setRows_X10_cosineOf
set_option maxRecDepth 20000 in
theorem ggX6_setRows_X1_isA : GoodIn wsX6_setRows wsX1_isA := goodIn_r _ [17, 18, 19, 5, 20, 21, 22, 23, 24, 35, 36, 37, 38, 39, 40, 41] (by decide +kernel) (by decide +kernel)
set_option maxRecDepth 20000 in
theorem gX6_setRows_X1_isA : GoodIn wsX6_setRows (wsV RX6 66 RX1 yX1_isA wsX1_isA) := goodIn_app (goodIn_of _ (by decide +kernel)) ggX6_setRows_X1_isA
set_option maxRecDepth 20000 in
theorem ggX6_setRows_X10_dot : GoodIn wsX6_setRows wsX10_dot := goodIn_r _ [26] (by decide +kernel) (by decide +kernel)
set_option maxRecDepth 20000 in
theorem gX6_setRows_X10_dot_n91 : GoodIn wsX6_setRows (wsX10_dot) := ggX6_setRows_X10_dot
set_option maxRecDepth 20000 in
theorem ggX6_setRows_X5_set : GoodIn wsX6_setRows wsX5_set := goodIn_r _ [31, 32, 33, 34, 55, 56, 57] (by decide +kernel) (by decide +kernel)
set_option maxRecDepth 20000 in
theorem gX6_setRows_X5_set : GoodIn wsX6_setRows (wsV RX6 95 RX5 yX5_set wsX5_set) := goodIn_app (goodIn_of _ (by decide +kernel)) ggX6_setRows_X5_set
theorem dX6_setRows_0 : decode cX6_setRows 0 = .ok (.iload_n 2, 1) := by decide +kernel
theorem dX6_setRows_1 : decode cX6_setRows 1 = .ok (.invokestatic 81, 3) := by decide +kernel
theorem dX6_setRows_4 : decode cX6_setRows 4 = .ok (.istore_n 3, 1) := by decide +kernel
theorem dX6_setRows_5 : decode cX6_setRows 5 = .ok (.iload_n 2, 1) := by decide +kernel
theorem dX6_setRows_6 : decode cX6_setRows 6 = .ok (.invokestatic 85, 3) := by decide +kernel
theorem dX6_setRows_9 : decode cX6_setRows 9 = .ok (.istore 4, 2) := by decide +kernel
theorem dX6_setRows_11 : decode cX6_setRows 11 = .ok (.aload_n 1, 1) := by decide +kernel
theorem dX6_setRows_12 : decode cX6_setRows 12 = .ok (.iconst 2, 1) := by decide +kernel
theorem dX6_setRows_13 : decode cX6_setRows 13 = .ok (.invokevirtual 66, 3) := by decide +kernel
theorem dX6_setRows_16 : decode cX6_setRows 16 = .ok (.ifCond .eq 82, 3) := by decide +kernel
theorem dX6_setRows_19 : decode cX6_setRows 19 = .ok (.aload_n 1, 1) := by decide +kernel
theorem dX6_setRows_20 : decode cX6_setRows 20 = .ok (.getfield 88, 3) := by decide +kernel
theorem dX6_setRows_23 : decode cX6_setRows 23 = .ok (.invokestatic 81, 3) := by decide +kernel
theorem dX6_setRows_26 : decode cX6_setRows 26 = .ok (.istore 5, 2) := by decide +kernel
theorem dX6_setRows_28 : decode cX6_setRows 28 = .ok (.aload_n 1, 1) := by decide +kernel
theorem dX6_setRows_29 : decode cX6_setRows 29 = .ok (.getfield 88, 3) := by decide +kernel
theorem dX6_setRows_32 : decode cX6_setRows 32 = .ok (.invokestatic 85, 3) := by decide +kernel
theorem dX6_setRows_35 : decode cX6_setRows 35 = .ok (.istore 6, 2) := by decide +kernel
theorem dX6_setRows_37 : decode cX6_setRows 37 = .ok (.aload_n 0, 1) := by decide +kernel
theorem dX6_setRows_38 : decode cX6_setRows 38 = .ok (.getfield 12, 3) := by decide +kernel
theorem dX6_setRows_41 : decode cX6_setRows 41 = .ok (.iload 5, 2) := by decide +kernel
theorem dX6_setRows_43 : decode cX6_setRows 43 = .ok (.iload_n 3, 1) := by decide +kernel
theorem dX6_setRows_44 : decode cX6_setRows 44 = .ok (.invokestatic 91, 3) := by decide +kernel
theorem dX6_setRows_47 : decode cX6_setRows 47 = .ok (.iload 5, 2) := by decide +kernel
theorem dX6_setRows_49 : decode cX6_setRows 49 = .ok (.iload 4, 2) := by decide +kernel
theorem dX6_setRows_51 : decode cX6_setRows 51 = .ok (.invokestatic 91, 3) := by decide +kernel
theorem dX6_setRows_54 : decode cX6_setRows 54 = .ok (.iload 6, 2) := by decide +kernel
theorem dX6_setRows_56 : decode cX6_setRows 56 = .ok (.invokevirtual 95, 3) := by decide +kernel
theorem dX6_setRows_59 : decode cX6_setRows 59 = .ok (.aload_n 0, 1) := by decide +kernel
theorem dX6_setRows_60 : decode cX6_setRows 60 = .ok (.getfield 18, 3) := by decide +kernel
theorem dX6_setRows_63 : decode cX6_setRows 63 = .ok (.iload 4, 2) := by decide +kernel
theorem dX6_setRows_65 : decode cX6_setRows 65 = .ok (.iload_n 3, 1) := by decide +kernel
theorem dX6_setRows_66 : decode cX6_setRows 66 = .ok (.ineg, 1) := by decide +kernel
theorem dX6_setRows_67 : decode cX6_setRows 67 = .ok (.iconst 0, 1) := by decide +kernel
theorem dX6_setRows_68 : decode cX6_setRows 68 = .ok (.invokevirtual 95, 3) := by decide +kernel
theorem dX6_setRows_71 : decode cX6_setRows 71 = .ok (.aload_n 0, 1) := by decide +kernel
theorem dX6_setRows_72 : decode cX6_setRows 72 = .ok (.getfield 21, 3) := by decide +kernel
theorem dX6_setRows_75 : decode cX6_setRows 75 = .ok (.iload 6, 2) := by decide +kernel
theorem dX6_setRows_77 : decode cX6_setRows 77 = .ok (.iload_n 3, 1) := by decide +kernel
theorem dX6_setRows_78 : decode cX6_setRows 78 = .ok (.invokestatic 91, 3) := by decide +kernel
theorem dX6_setRows_81 : decode cX6_setRows 81 = .ok (.ineg, 1) := by decide +kernel
theorem dX6_setRows_82 : decode cX6_setRows 82 = .ok (.iload 6, 2) := by decide +kernel
theorem dX6_setRows_84 : decode cX6_setRows 84 = .ok (.iload 4, 2) := by decide +kernel
theorem dX6_setRows_86 : decode cX6_setRows 86 = .ok (.invokestatic 91, 3) := by decide +kernel
theorem dX6_setRows_89 : decode cX6_setRows 89 = .ok (.ineg, 1) := by decide +kernel
theorem dX6_setRows_90 : decode cX6_setRows 90 = .ok (.iload 5, 2) := by decide +kernel
theorem dX6_setRows_92 : decode cX6_setRows 92 = .ok (.invokevirtual 95, 3) := by decide +kernel
theorem dX6_setRows_95 : decode cX6_setRows 95 = .ok (.goto 85, 3) := by decide +kernel
theorem dX6_setRows_98 : decode cX6_setRows 98 = .ok (.aload_n 1, 1) := by decide +kernel
theorem dX6_setRows_99 : decode cX6_setRows 99 = .ok (.iconst 1, 1) := by decide +kernel
theorem dX6_setRows_100 : decode cX6_setRows 100 = .ok (.invokevirtual 66, 3) := by decide +kernel
theorem dX6_setRows_103 : decode cX6_setRows 103 = .ok (.ifCond .eq 41, 3) := by decide +kernel
theorem dX6_setRows_106 : decode cX6_setRows 106 = .ok (.aload_n 0, 1) := by decide +kernel
theorem dX6_setRows_107 : decode cX6_setRows 107 = .ok (.getfield 12, 3) := by decide +kernel
theorem dX6_setRows_110 : decode cX6_setRows 110 = .ok (.iload_n 3, 1) := by decide +kernel
theorem dX6_setRows_111 : decode cX6_setRows 111 = .ok (.iload 4, 2) := by decide +kernel
theorem dX6_setRows_113 : decode cX6_setRows 113 = .ok (.iconst 0, 1) := by decide +kernel
theorem dX6_setRows_114 : decode cX6_setRows 114 = .ok (.invokevirtual 95, 3) := by decide +kernel
theorem dX6_setRows_117 : decode cX6_setRows 117 = .ok (.aload_n 0, 1) := by decide +kernel
theorem dX6_setRows_118 : decode cX6_setRows 118 = .ok (.getfield 18, 3) := by decide +kernel
theorem dX6_setRows_121 : decode cX6_setRows 121 = .ok (.iload 4, 2) := by decide +kernel
theorem dX6_setRows_123 : decode cX6_setRows 123 = .ok (.iload_n 3, 1) := by decide +kernel
theorem dX6_setRows_124 : decode cX6_setRows 124 = .ok (.ineg, 1) := by decide +kernel
theorem dX6_setRows_125 : decode cX6_setRows 125 = .ok (.iconst 0, 1) := by decide +kernel
theorem dX6_setRows_126 : decode cX6_setRows 126 = .ok (.invokevirtual 95, 3) := by decide +kernel
theorem dX6_setRows_129 : decode cX6_setRows 129 = .ok (.aload_n 0, 1) := by decide +kernel
theorem dX6_setRows_130 : decode cX6_setRows 130 = .ok (.getfield 21, 3) := by decide +kernel
theorem dX6_setRows_133 : decode cX6_setRows 133 = .ok (.iconst 0, 1) := by decide +kernel
theorem dX6_setRows_134 : decode cX6_setRows 134 = .ok (.iconst 0, 1) := by decide +kernel
theorem dX6_setRows_135 : decode cX6_setRows 135 = .ok (.sipush 16384, 3) := by decide +kernel
theorem dX6_setRows_138 : decode cX6_setRows 138 = .ok (.invokevirtual 95, 3) := by decide +kernel
theorem dX6_setRows_141 : decode cX6_setRows 141 = .ok (.goto 39, 3) := by decide +kernel
theorem dX6_setRows_144 : decode cX6_setRows 144 = .ok (.aload_n 0, 1) := by decide +kernel
theorem dX6_setRows_145 : decode cX6_setRows 145 = .ok (.getfield 12, 3) := by decide +kernel
theorem dX6_setRows_148 : decode cX6_setRows 148 = .ok (.iconst 0, 1) := by decide +kernel
theorem dX6_setRows_149 : decode cX6_setRows 149 = .ok (.iconst 0, 1) := by decide +kernel
theorem dX6_setRows_150 : decode cX6_setRows 150 = .ok (.sipush 16384, 3) := by decide +kernel
theorem dX6_setRows_153 : decode cX6_setRows 153 = .ok (.invokevirtual 95, 3) := by decide +kernel
theorem dX6_setRows_156 : decode cX6_setRows 156 = .ok (.aload_n 0, 1) := by decide +kernel
theorem dX6_setRows_157 : decode cX6_setRows 157 = .ok (.getfield 18, 3) := by decide +kernel
theorem dX6_setRows_160 : decode cX6_setRows 160 = .ok (.sipush 16384, 3) := by decide +kernel
theorem dX6_setRows_163 : decode cX6_setRows 163 = .ok (.iconst 0, 1) := by decide +kernel
theorem dX6_setRows_164 : decode cX6_setRows 164 = .ok (.iconst 0, 1) := by decide +kernel
theorem dX6_setRows_165 : decode cX6_setRows 165 = .ok (.invokevirtual 95, 3) := by decide +kernel
theorem dX6_setRows_168 : decode cX6_setRows 168 = .ok (.aload_n 0, 1) := by decide +kernel
theorem dX6_setRows_169 : decode cX6_setRows 169 = .ok (.getfield 21, 3) := by decide +kernel
theorem dX6_setRows_172 : decode cX6_setRows 172 = .ok (.iconst 0, 1) := by decide +kernel
theorem dX6_setRows_173 : decode cX6_setRows 173 = .ok (.sipush 16384, 3) := by decide +kernel
theorem dX6_setRows_176 : decode cX6_setRows 176 = .ok (.iconst 0, 1) := by decide +kernel
theorem dX6_setRows_177 : decode cX6_setRows 177 = .ok (.invokevirtual 95, 3) := by decide +kernel
theorem dX6_setRows_180 : decode cX6_setRows 180 = .ok (.return_, 1) := by decide +kernel
set_option maxRecDepth 20000 in
theorem ggX6_cast_X6_findHider : GoodIn wsX6_cast wsX6_findHider := goodIn_r _ [5, 6, 7, 8, 9, 10, 11, 12, 13, 14, 15, 16, 17, 18, 19, 20, 21, 22, 70, 71, 72, 73, 74, 75, 76, 77, 78, 79, 80, 81, 82, 83, 84, 85, 86, 87, 88, 89, 90, 91, 92, 93, 94, 95, 96, 97, 98, 99, 100, 101, 102, 103] (by decide +kernel) (by decide +kernel)
set_option maxRecDepth 20000 in
theorem gX6_cast_X6_findHider : GoodIn wsX6_cast (wsV RX6 99 RX6 yX6_findHider wsX6_findHider) := goodIn_app (goodIn_of _ (by decide +kernel)) ggX6_cast_X6_findHider
set_option maxRecDepth 20000 in
theorem ggX6_cast_X6_settle : GoodIn wsX6_cast wsX6_settle := goodIn_r _ [26, 27, 7, 6, 28, 29, 30, 31, 32, 33, 34, 35, 36, 37, 38, 39, 40, 41, 42, 43, 44, 45, 46, 47, 48, 49, 50, 51, 52, 53, 54, 55, 56, 57, 58, 59, 60, 61, 62, 63, 64, 65, 66, 67, 68, 69, 83, 84, 85, 86, 87, 88, 89, 90, 91, 92, 93, 94, 95, 96, 97, 98, 70, 71, 72, 73, 74, 75, 76, 77, 78, 79, 80, 81, 82, 104, 105, 106] (by decide +kernel) (by decide +kernel)
set_option maxRecDepth 20000 in
theorem gX6_cast_X6_settle : GoodIn wsX6_cast (wsV RX6 103 RX6 yX6_settle wsX6_settle) := goodIn_app (goodIn_of _ (by decide +kernel)) ggX6_cast_X6_settle
theorem dX6_cast_0 : decode cX6_cast 0 = .ok (.aload_n 0, 1) := by decide +kernel
theorem dX6_cast_1 : decode cX6_cast 1 = .ok (.aload_n 1, 1) := by decide +kernel
theorem dX6_cast_2 : decode cX6_cast 2 = .ok (.invokevirtual 99, 3) := by decide +kernel
theorem dX6_cast_5 : decode cX6_cast 5 = .ok (.aload_n 0, 1) := by decide +kernel
theorem dX6_cast_6 : decode cX6_cast 6 = .ok (.aload_n 1, 1) := by decide +kernel
theorem dX6_cast_7 : decode cX6_cast 7 = .ok (.invokevirtual 103, 3) := by decide +kernel
theorem dX6_cast_10 : decode cX6_cast 10 = .ok (.ireturn, 1) := by decide +kernel
set_option maxRecDepth 20000 in
theorem ggX6_findHider_X2_hidesFrom : GoodIn wsX6_findHider wsX2_hidesFrom := goodIn_r _ [12, 13, 14, 15, 16, 17, 47, 48, 49, 50, 51, 31, 32, 33, 34, 35, 36, 37, 38, 39, 40, 41, 42, 43, 44, 45, 46] (by decide +kernel) (by decide +kernel)
set_option maxRecDepth 20000 in
theorem gX6_findHider_X2_hidesFrom : GoodIn wsX6_findHider (wsV RX6 112 RX2 yX2_hidesFrom wsX2_hidesFrom) := goodIn_app (goodIn_of _ (by decide +kernel)) ggX6_findHider_X2_hidesFrom
theorem dX6_findHider_0 : decode cX6_findHider 0 = .ok (.aload_n 0, 1) := by decide +kernel
theorem dX6_findHider_1 : decode cX6_findHider 1 = .ok (.ldc 51, 2) := by decide +kernel
theorem dX6_findHider_3 : decode cX6_findHider 3 = .ok (.putfield 52, 3) := by decide +kernel
theorem dX6_findHider_6 : decode cX6_findHider 6 = .ok (.aload_n 1, 1) := by decide +kernel
theorem dX6_findHider_7 : decode cX6_findHider 7 = .ok (.getfield 107, 3) := by decide +kernel
theorem dX6_findHider_10 : decode cX6_findHider 10 = .ok (.ifCond .gt 4, 3) := by decide +kernel
theorem dX6_findHider_13 : decode cX6_findHider 13 = .ok (.return_, 1) := by decide +kernel
theorem dX6_findHider_14 : decode cX6_findHider 14 = .ok (.iconst 0, 1) := by decide +kernel
theorem dX6_findHider_15 : decode cX6_findHider 15 = .ok (.istore_n 2, 1) := by decide +kernel
theorem dX6_findHider_16 : decode cX6_findHider 16 = .ok (.iload_n 2, 1) := by decide +kernel
theorem dX6_findHider_17 : decode cX6_findHider 17 = .ok (.aload_n 0, 1) := by decide +kernel
theorem dX6_findHider_18 : decode cX6_findHider 18 = .ok (.getfield 34, 3) := by decide +kernel
theorem dX6_findHider_21 : decode cX6_findHider 21 = .ok (.if_icmp .ge 55, 3) := by decide +kernel
theorem dX6_findHider_24 : decode cX6_findHider 24 = .ok (.aload_n 0, 1) := by decide +kernel
theorem dX6_findHider_25 : decode cX6_findHider 25 = .ok (.getfield 52, 3) := by decide +kernel
theorem dX6_findHider_28 : decode cX6_findHider 28 = .ok (.ldc 51, 2) := by decide +kernel
theorem dX6_findHider_30 : decode cX6_findHider 30 = .ok (.if_icmp .ne 46, 3) := by decide +kernel
theorem dX6_findHider_33 : decode cX6_findHider 33 = .ok (.aload_n 0, 1) := by decide +kernel
theorem dX6_findHider_34 : decode cX6_findHider 34 = .ok (.getfield 26, 3) := by decide +kernel
theorem dX6_findHider_37 : decode cX6_findHider 37 = .ok (.iload_n 2, 1) := by decide +kernel
theorem dX6_findHider_38 : decode cX6_findHider 38 = .ok (.aaload, 1) := by decide +kernel
theorem dX6_findHider_39 : decode cX6_findHider 39 = .ok (.astore_n 3, 1) := by decide +kernel
theorem dX6_findHider_40 : decode cX6_findHider 40 = .ok (.aload_n 3, 1) := by decide +kernel
theorem dX6_findHider_41 : decode cX6_findHider 41 = .ok (.ifnull 29, 3) := by decide +kernel
theorem dX6_findHider_44 : decode cX6_findHider 44 = .ok (.aload_n 3, 1) := by decide +kernel
theorem dX6_findHider_45 : decode cX6_findHider 45 = .ok (.aload_n 0, 1) := by decide +kernel
theorem dX6_findHider_46 : decode cX6_findHider 46 = .ok (.getfield 38, 3) := by decide +kernel
theorem dX6_findHider_49 : decode cX6_findHider 49 = .ok (.aload_n 0, 1) := by decide +kernel
theorem dX6_findHider_50 : decode cX6_findHider 50 = .ok (.getfield 41, 3) := by decide +kernel
theorem dX6_findHider_53 : decode cX6_findHider 53 = .ok (.aload_n 1, 1) := by decide +kernel
theorem dX6_findHider_54 : decode cX6_findHider 54 = .ok (.invokevirtual 112, 3) := by decide +kernel
theorem dX6_findHider_57 : decode cX6_findHider 57 = .ok (.ifCond .eq 13, 3) := by decide +kernel
theorem dX6_findHider_60 : decode cX6_findHider 60 = .ok (.aload_n 0, 1) := by decide +kernel
theorem dX6_findHider_61 : decode cX6_findHider 61 = .ok (.aload_n 0, 1) := by decide +kernel
theorem dX6_findHider_62 : decode cX6_findHider 62 = .ok (.getfield 30, 3) := by decide +kernel
theorem dX6_findHider_65 : decode cX6_findHider 65 = .ok (.iload_n 2, 1) := by decide +kernel
theorem dX6_findHider_66 : decode cX6_findHider 66 = .ok (.iaload, 1) := by decide +kernel
theorem dX6_findHider_67 : decode cX6_findHider 67 = .ok (.putfield 52, 3) := by decide +kernel
theorem dX6_findHider_70 : decode cX6_findHider 70 = .ok (.iinc 2 1, 3) := by decide +kernel
theorem dX6_findHider_73 : decode cX6_findHider 73 = .ok (.goto (-57), 3) := by decide +kernel
theorem dX6_findHider_76 : decode cX6_findHider 76 = .ok (.return_, 1) := by decide +kernel
set_option maxRecDepth 20000 in
theorem ggX6_settle_X5_sunBy : GoodIn wsX6_settle wsX5_sunBy := goodIn_r _ [14, 15, 16, 17, 46, 47, 48, 49, 50, 51, 52, 53, 54, 55, 56, 57, 58, 59, 60, 61, 75, 76, 77] (by decide +kernel) (by decide +kernel)
set_option maxRecDepth 20000 in
theorem gX6_settle_X5_sunBy : GoodIn wsX6_settle (wsV RX6 116 RX5 yX5_sunBy wsX5_sunBy) := goodIn_app (goodIn_of _ (by decide +kernel)) ggX6_settle_X5_sunBy
set_option maxRecDepth 20000 in
theorem ggX6_settle_X8_height : GoodIn wsX6_settle wsX8_height := goodIn_r _ [22, 23, 24, 25, 26, 27, 28, 29, 46, 47, 48, 49, 50, 51, 52, 53, 54, 55, 56, 57, 58, 59, 60, 61] (by decide +kernel) (by decide +kernel)
set_option maxRecDepth 20000 in
theorem gX6_settle_X8_height : GoodIn wsX6_settle (wsV RX6 120 RX8 yX8_height wsX8_height) := goodIn_app (goodIn_of _ (by decide +kernel)) ggX6_settle_X8_height
set_option maxRecDepth 20000 in
theorem ggX6_settle_J9_floorDiv_f86c9 : GoodIn wsX6_settle wsJ9_floorDiv_f86c9 := goodIn_r _ [33] (by decide +kernel) (by decide +kernel)
set_option maxRecDepth 20000 in
theorem gX6_settle_J9_floorDiv_f86c9 : GoodIn wsX6_settle (va_wsS RX6 124 yJ9_floorDiv_f86c9 wsJ9_floorDiv_f86c9) := goodIn_app (goodIn_of _ (by decide +kernel)) ggX6_settle_J9_floorDiv_f86c9
set_option maxRecDepth 20000 in
theorem ggX6_settle_X8_westSide : GoodIn wsX6_settle wsX8_westSide := goodIn_r _ [37, 38, 46, 47, 48, 49, 50, 51, 52, 53, 54, 55, 56, 57, 58, 59, 60, 61] (by decide +kernel) (by decide +kernel)
set_option maxRecDepth 20000 in
theorem gX6_settle_X8_westSide : GoodIn wsX6_settle (wsV RX6 130 RX8 yX8_westSide wsX8_westSide) := goodIn_app (goodIn_of _ (by decide +kernel)) ggX6_settle_X8_westSide
set_option maxRecDepth 20000 in
theorem ggX6_settle_X10_isNear : GoodIn wsX6_settle wsX10_isNear := goodIn_r _ [40, 41, 42, 43, 44, 25, 45] (by decide +kernel) (by decide +kernel)
set_option maxRecDepth 20000 in
theorem gX6_settle_X10_isNear_n133 : GoodIn wsX6_settle (wsX10_isNear) := ggX6_settle_X10_isNear
theorem dX6_settle_0 : decode cX6_settle 0 = .ok (.aload_n 1, 1) := by decide +kernel
theorem dX6_settle_1 : decode cX6_settle 1 = .ok (.getfield 107, 3) := by decide +kernel
theorem dX6_settle_4 : decode cX6_settle 4 = .ok (.ifCond .gt 5, 3) := by decide +kernel
theorem dX6_settle_7 : decode cX6_settle 7 = .ok (.iconst 1, 1) := by decide +kernel
theorem dX6_settle_8 : decode cX6_settle 8 = .ok (.ireturn, 1) := by decide +kernel
theorem dX6_settle_9 : decode cX6_settle 9 = .ok (.aload_n 0, 1) := by decide +kernel
theorem dX6_settle_10 : decode cX6_settle 10 = .ok (.getfield 12, 3) := by decide +kernel
theorem dX6_settle_13 : decode cX6_settle 13 = .ok (.aload_n 1, 1) := by decide +kernel
theorem dX6_settle_14 : decode cX6_settle 14 = .ok (.invokevirtual 116, 3) := by decide +kernel
theorem dX6_settle_17 : decode cX6_settle 17 = .ok (.lstore_n 2, 1) := by decide +kernel
theorem dX6_settle_18 : decode cX6_settle 18 = .ok (.lload_n 2, 1) := by decide +kernel
theorem dX6_settle_19 : decode cX6_settle 19 = .ok (.lconst 0, 1) := by decide +kernel
theorem dX6_settle_20 : decode cX6_settle 20 = .ok (.lcmp, 1) := by decide +kernel
theorem dX6_settle_21 : decode cX6_settle 21 = .ok (.ifCond .gt 5, 3) := by decide +kernel
theorem dX6_settle_24 : decode cX6_settle 24 = .ok (.iconst 2, 1) := by decide +kernel
theorem dX6_settle_25 : decode cX6_settle 25 = .ok (.ireturn, 1) := by decide +kernel
theorem dX6_settle_26 : decode cX6_settle 26 = .ok (.aload_n 0, 1) := by decide +kernel
theorem dX6_settle_27 : decode cX6_settle 27 = .ok (.getfield 52, 3) := by decide +kernel
theorem dX6_settle_30 : decode cX6_settle 30 = .ok (.ldc 51, 2) := by decide +kernel
theorem dX6_settle_32 : decode cX6_settle 32 = .ok (.if_icmp .eq 5, 3) := by decide +kernel
theorem dX6_settle_35 : decode cX6_settle 35 = .ok (.iconst 3, 1) := by decide +kernel
theorem dX6_settle_36 : decode cX6_settle 36 = .ok (.ireturn, 1) := by decide +kernel
theorem dX6_settle_37 : decode cX6_settle 37 = .ok (.aload_n 0, 1) := by decide +kernel
theorem dX6_settle_38 : decode cX6_settle 38 = .ok (.getfield 47, 3) := by decide +kernel
theorem dX6_settle_41 : decode cX6_settle 41 = .ok (.ifCond .eq 13, 3) := by decide +kernel
theorem dX6_settle_44 : decode cX6_settle 44 = .ok (.iconst 2, 1) := by decide +kernel
theorem dX6_settle_45 : decode cX6_settle 45 = .ok (.aload_n 1, 1) := by decide +kernel
theorem dX6_settle_46 : decode cX6_settle 46 = .ok (.invokevirtual 120, 3) := by decide +kernel
theorem dX6_settle_49 : decode cX6_settle 49 = .ok (.imul, 1) := by decide +kernel
theorem dX6_settle_50 : decode cX6_settle 50 = .ok (.i2l, 1) := by decide +kernel
theorem dX6_settle_51 : decode cX6_settle 51 = .ok (.goto 22, 3) := by decide +kernel
theorem dX6_settle_54 : decode cX6_settle 54 = .ok (.aload_n 0, 1) := by decide +kernel
theorem dX6_settle_55 : decode cX6_settle 55 = .ok (.getfield 44, 3) := by decide +kernel
theorem dX6_settle_58 : decode cX6_settle 58 = .ok (.ineg, 1) := by decide +kernel
theorem dX6_settle_59 : decode cX6_settle 59 = .ok (.i2l, 1) := by decide +kernel
theorem dX6_settle_60 : decode cX6_settle 60 = .ok (.aload_n 0, 1) := by decide +kernel
theorem dX6_settle_61 : decode cX6_settle 61 = .ok (.getfield 18, 3) := by decide +kernel
theorem dX6_settle_64 : decode cX6_settle 64 = .ok (.aload_n 1, 1) := by decide +kernel
theorem dX6_settle_65 : decode cX6_settle 65 = .ok (.invokevirtual 116, 3) := by decide +kernel
theorem dX6_settle_68 : decode cX6_settle 68 = .ok (.lmul, 1) := by decide +kernel
theorem dX6_settle_69 : decode cX6_settle 69 = .ok (.lload_n 2, 1) := by decide +kernel
theorem dX6_settle_70 : decode cX6_settle 70 = .ok (.invokestatic 124, 3) := by decide +kernel
theorem dX6_settle_73 : decode cX6_settle 73 = .ok (.lstore 4, 2) := by decide +kernel
theorem dX6_settle_75 : decode cX6_settle 75 = .ok (.aload_n 0, 1) := by decide +kernel
theorem dX6_settle_76 : decode cX6_settle 76 = .ok (.getfield 47, 3) := by decide +kernel
theorem dX6_settle_79 : decode cX6_settle 79 = .ok (.ifCond .eq 11, 3) := by decide +kernel
theorem dX6_settle_82 : decode cX6_settle 82 = .ok (.aload_n 1, 1) := by decide +kernel
theorem dX6_settle_83 : decode cX6_settle 83 = .ok (.invokevirtual 130, 3) := by decide +kernel
theorem dX6_settle_86 : decode cX6_settle 86 = .ok (.i2l, 1) := by decide +kernel
theorem dX6_settle_87 : decode cX6_settle 87 = .ok (.goto 22, 3) := by decide +kernel
theorem dX6_settle_90 : decode cX6_settle 90 = .ok (.aload_n 0, 1) := by decide +kernel
theorem dX6_settle_91 : decode cX6_settle 91 = .ok (.getfield 44, 3) := by decide +kernel
theorem dX6_settle_94 : decode cX6_settle 94 = .ok (.ineg, 1) := by decide +kernel
theorem dX6_settle_95 : decode cX6_settle 95 = .ok (.i2l, 1) := by decide +kernel
theorem dX6_settle_96 : decode cX6_settle 96 = .ok (.aload_n 0, 1) := by decide +kernel
theorem dX6_settle_97 : decode cX6_settle 97 = .ok (.getfield 21, 3) := by decide +kernel
theorem dX6_settle_100 : decode cX6_settle 100 = .ok (.aload_n 1, 1) := by decide +kernel
theorem dX6_settle_101 : decode cX6_settle 101 = .ok (.invokevirtual 116, 3) := by decide +kernel
theorem dX6_settle_104 : decode cX6_settle 104 = .ok (.lmul, 1) := by decide +kernel
theorem dX6_settle_105 : decode cX6_settle 105 = .ok (.lload_n 2, 1) := by decide +kernel
theorem dX6_settle_106 : decode cX6_settle 106 = .ok (.invokestatic 124, 3) := by decide +kernel
theorem dX6_settle_109 : decode cX6_settle 109 = .ok (.lstore 6, 2) := by decide +kernel
theorem dX6_settle_111 : decode cX6_settle 111 = .ok (.lload 4, 2) := by decide +kernel
theorem dX6_settle_113 : decode cX6_settle 113 = .ok (.invokestatic 133, 3) := by decide +kernel
theorem dX6_settle_116 : decode cX6_settle 116 = .ok (.ifCond .eq 11, 3) := by decide +kernel
theorem dX6_settle_119 : decode cX6_settle 119 = .ok (.lload 6, 2) := by decide +kernel
theorem dX6_settle_121 : decode cX6_settle 121 = .ok (.invokestatic 133, 3) := by decide +kernel
theorem dX6_settle_124 : decode cX6_settle 124 = .ok (.ifCond .ne 5, 3) := by decide +kernel
theorem dX6_settle_127 : decode cX6_settle 127 = .ok (.iconst 4, 1) := by decide +kernel
theorem dX6_settle_128 : decode cX6_settle 128 = .ok (.ireturn, 1) := by decide +kernel
theorem dX6_settle_129 : decode cX6_settle 129 = .ok (.aload_n 0, 1) := by decide +kernel
theorem dX6_settle_130 : decode cX6_settle 130 = .ok (.lload 4, 2) := by decide +kernel
theorem dX6_settle_132 : decode cX6_settle 132 = .ok (.l2i, 1) := by decide +kernel
theorem dX6_settle_133 : decode cX6_settle 133 = .ok (.putfield 55, 3) := by decide +kernel
theorem dX6_settle_136 : decode cX6_settle 136 = .ok (.aload_n 0, 1) := by decide +kernel
theorem dX6_settle_137 : decode cX6_settle 137 = .ok (.lload 6, 2) := by decide +kernel
theorem dX6_settle_139 : decode cX6_settle 139 = .ok (.l2i, 1) := by decide +kernel
theorem dX6_settle_140 : decode cX6_settle 140 = .ok (.putfield 58, 3) := by decide +kernel
theorem dX6_settle_143 : decode cX6_settle 143 = .ok (.iconst 0, 1) := by decide +kernel
theorem dX6_settle_144 : decode cX6_settle 144 = .ok (.ireturn, 1) := by decide +kernel
theorem dX7_init_0 : decode cX7_init 0 = .ok (.aload_n 0, 1) := by decide +kernel
theorem dX7_init_1 : decode cX7_init 1 = .ok (.invokespecial 3, 3) := by decide +kernel
theorem dX7_init_4 : decode cX7_init 4 = .ok (.aload_n 0, 1) := by decide +kernel
theorem dX7_init_5 : decode cX7_init 5 = .ok (.bipush 20, 2) := by decide +kernel
theorem dX7_init_7 : decode cX7_init 7 = .ok (.newarray .int, 2) := by decide +kernel
theorem dX7_init_9 : decode cX7_init 9 = .ok (.putfield 9, 3) := by decide +kernel
theorem dX7_init_12 : decode cX7_init 12 = .ok (.aload_n 0, 1) := by decide +kernel
theorem dX7_init_13 : decode cX7_init 13 = .ok (.bipush 20, 2) := by decide +kernel
theorem dX7_init_15 : decode cX7_init 15 = .ok (.newarray .int, 2) := by decide +kernel
theorem dX7_init_17 : decode cX7_init 17 = .ok (.putfield 15, 3) := by decide +kernel
theorem dX7_init_20 : decode cX7_init 20 = .ok (.aload_n 0, 1) := by decide +kernel
theorem dX7_init_21 : decode cX7_init 21 = .ok (.bipush 20, 2) := by decide +kernel
theorem dX7_init_23 : decode cX7_init 23 = .ok (.newarray .int, 2) := by decide +kernel
theorem dX7_init_25 : decode cX7_init 25 = .ok (.putfield 18, 3) := by decide +kernel
theorem dX7_init_28 : decode cX7_init 28 = .ok (.aload_n 0, 1) := by decide +kernel
theorem dX7_init_29 : decode cX7_init 29 = .ok (.bipush 20, 2) := by decide +kernel
theorem dX7_init_31 : decode cX7_init 31 = .ok (.newarray .int, 2) := by decide +kernel
theorem dX7_init_33 : decode cX7_init 33 = .ok (.putfield 21, 3) := by decide +kernel
theorem dX7_init_36 : decode cX7_init 36 = .ok (.aload_n 0, 1) := by decide +kernel
theorem dX7_init_37 : decode cX7_init 37 = .ok (.iconst 0, 1) := by decide +kernel
theorem dX7_init_38 : decode cX7_init 38 = .ok (.putfield 24, 3) := by decide +kernel
theorem dX7_init_41 : decode cX7_init 41 = .ok (.return_, 1) := by decide +kernel
theorem dX7_add_0 : decode cX7_add 0 = .ok (.aload_n 0, 1) := by decide +kernel
theorem dX7_add_1 : decode cX7_add 1 = .ok (.getfield 24, 3) := by decide +kernel
theorem dX7_add_4 : decode cX7_add 4 = .ok (.bipush 20, 2) := by decide +kernel
theorem dX7_add_6 : decode cX7_add 6 = .ok (.if_icmp .lt 4, 3) := by decide +kernel
theorem dX7_add_9 : decode cX7_add 9 = .ok (.return_, 1) := by decide +kernel
theorem dX7_add_10 : decode cX7_add 10 = .ok (.aload_n 0, 1) := by decide +kernel
theorem dX7_add_11 : decode cX7_add 11 = .ok (.getfield 9, 3) := by decide +kernel
theorem dX7_add_14 : decode cX7_add 14 = .ok (.aload_n 0, 1) := by decide +kernel
theorem dX7_add_15 : decode cX7_add 15 = .ok (.getfield 24, 3) := by decide +kernel
theorem dX7_add_18 : decode cX7_add 18 = .ok (.iload_n 1, 1) := by decide +kernel
theorem dX7_add_19 : decode cX7_add 19 = .ok (.iastore, 1) := by decide +kernel
theorem dX7_add_20 : decode cX7_add 20 = .ok (.aload_n 0, 1) := by decide +kernel
theorem dX7_add_21 : decode cX7_add 21 = .ok (.getfield 15, 3) := by decide +kernel
theorem dX7_add_24 : decode cX7_add 24 = .ok (.aload_n 0, 1) := by decide +kernel
theorem dX7_add_25 : decode cX7_add 25 = .ok (.getfield 24, 3) := by decide +kernel
theorem dX7_add_28 : decode cX7_add 28 = .ok (.iload_n 2, 1) := by decide +kernel
theorem dX7_add_29 : decode cX7_add 29 = .ok (.iastore, 1) := by decide +kernel
theorem dX7_add_30 : decode cX7_add 30 = .ok (.aload_n 0, 1) := by decide +kernel
theorem dX7_add_31 : decode cX7_add 31 = .ok (.getfield 18, 3) := by decide +kernel
theorem dX7_add_34 : decode cX7_add 34 = .ok (.aload_n 0, 1) := by decide +kernel
theorem dX7_add_35 : decode cX7_add 35 = .ok (.getfield 24, 3) := by decide +kernel
theorem dX7_add_38 : decode cX7_add 38 = .ok (.iload_n 3, 1) := by decide +kernel
theorem dX7_add_39 : decode cX7_add 39 = .ok (.iastore, 1) := by decide +kernel
theorem dX7_add_40 : decode cX7_add 40 = .ok (.aload_n 0, 1) := by decide +kernel
theorem dX7_add_41 : decode cX7_add 41 = .ok (.getfield 21, 3) := by decide +kernel
theorem dX7_add_44 : decode cX7_add 44 = .ok (.aload_n 0, 1) := by decide +kernel
theorem dX7_add_45 : decode cX7_add 45 = .ok (.getfield 24, 3) := by decide +kernel
theorem dX7_add_48 : decode cX7_add 48 = .ok (.iload 4, 2) := by decide +kernel
theorem dX7_add_50 : decode cX7_add 50 = .ok (.iastore, 1) := by decide +kernel
theorem dX7_add_51 : decode cX7_add 51 = .ok (.aload_n 0, 1) := by decide +kernel
theorem dX7_add_52 : decode cX7_add 52 = .ok (.dup, 1) := by decide +kernel
theorem dX7_add_53 : decode cX7_add 53 = .ok (.getfield 24, 3) := by decide +kernel
theorem dX7_add_56 : decode cX7_add 56 = .ok (.iconst 1, 1) := by decide +kernel
theorem dX7_add_57 : decode cX7_add 57 = .ok (.iadd, 1) := by decide +kernel
theorem dX7_add_58 : decode cX7_add 58 = .ok (.putfield 24, 3) := by decide +kernel
theorem dX7_add_61 : decode cX7_add 61 = .ok (.return_, 1) := by decide +kernel
set_option maxRecDepth 20000 in
theorem ggX7_isCloseTo_X10_within : GoodIn wsX7_isCloseTo wsX10_within := goodIn_r _ [10] (by decide +kernel) (by decide +kernel)
set_option maxRecDepth 20000 in
theorem gX7_isCloseTo_X10_within_n28 : GoodIn wsX7_isCloseTo (wsX10_within) := ggX7_isCloseTo_X10_within
theorem dX7_isCloseTo_0 : decode cX7_isCloseTo 0 = .ok (.iload_n 1, 1) := by decide +kernel
theorem dX7_isCloseTo_1 : decode cX7_isCloseTo 1 = .ok (.i2l, 1) := by decide +kernel
theorem dX7_isCloseTo_2 : decode cX7_isCloseTo 2 = .ok (.lconst 0, 1) := by decide +kernel
theorem dX7_isCloseTo_3 : decode cX7_isCloseTo 3 = .ok (.aload_n 0, 1) := by decide +kernel
theorem dX7_isCloseTo_4 : decode cX7_isCloseTo 4 = .ok (.getfield 24, 3) := by decide +kernel
theorem dX7_isCloseTo_7 : decode cX7_isCloseTo 7 = .ok (.iconst 1, 1) := by decide +kernel
theorem dX7_isCloseTo_8 : decode cX7_isCloseTo 8 = .ok (.isub, 1) := by decide +kernel
theorem dX7_isCloseTo_9 : decode cX7_isCloseTo 9 = .ok (.i2l, 1) := by decide +kernel
theorem dX7_isCloseTo_10 : decode cX7_isCloseTo 10 = .ok (.invokestatic 28, 3) := by decide +kernel
theorem dX7_isCloseTo_13 : decode cX7_isCloseTo 13 = .ok (.ifCond .eq 37, 3) := by decide +kernel
theorem dX7_isCloseTo_16 : decode cX7_isCloseTo 16 = .ok (.aload_n 0, 1) := by decide +kernel
theorem dX7_isCloseTo_17 : decode cX7_isCloseTo 17 = .ok (.getfield 18, 3) := by decide +kernel
theorem dX7_isCloseTo_20 : decode cX7_isCloseTo 20 = .ok (.iload_n 1, 1) := by decide +kernel
theorem dX7_isCloseTo_21 : decode cX7_isCloseTo 21 = .ok (.iaload, 1) := by decide +kernel
theorem dX7_isCloseTo_22 : decode cX7_isCloseTo 22 = .ok (.iload_n 2, 1) := by decide +kernel
theorem dX7_isCloseTo_23 : decode cX7_isCloseTo 23 = .ok (.isub, 1) := by decide +kernel
theorem dX7_isCloseTo_24 : decode cX7_isCloseTo 24 = .ok (.invokestatic 32, 3) := by decide +kernel
theorem dX7_isCloseTo_27 : decode cX7_isCloseTo 27 = .ok (.iconst 1, 1) := by decide +kernel
theorem dX7_isCloseTo_28 : decode cX7_isCloseTo 28 = .ok (.if_icmp .gt 22, 3) := by decide +kernel
theorem dX7_isCloseTo_31 : decode cX7_isCloseTo 31 = .ok (.aload_n 0, 1) := by decide +kernel
theorem dX7_isCloseTo_32 : decode cX7_isCloseTo 32 = .ok (.getfield 21, 3) := by decide +kernel
theorem dX7_isCloseTo_35 : decode cX7_isCloseTo 35 = .ok (.iload_n 1, 1) := by decide +kernel
theorem dX7_isCloseTo_36 : decode cX7_isCloseTo 36 = .ok (.iaload, 1) := by decide +kernel
theorem dX7_isCloseTo_37 : decode cX7_isCloseTo 37 = .ok (.iload_n 3, 1) := by decide +kernel
theorem dX7_isCloseTo_38 : decode cX7_isCloseTo 38 = .ok (.isub, 1) := by decide +kernel
theorem dX7_isCloseTo_39 : decode cX7_isCloseTo 39 = .ok (.invokestatic 32, 3) := by decide +kernel
theorem dX7_isCloseTo_42 : decode cX7_isCloseTo 42 = .ok (.iconst 1, 1) := by decide +kernel
theorem dX7_isCloseTo_43 : decode cX7_isCloseTo 43 = .ok (.if_icmp .gt 7, 3) := by decide +kernel
theorem dX7_isCloseTo_46 : decode cX7_isCloseTo 46 = .ok (.iconst 1, 1) := by decide +kernel
theorem dX7_isCloseTo_47 : decode cX7_isCloseTo 47 = .ok (.goto 4, 3) := by decide +kernel
theorem dX7_isCloseTo_50 : decode cX7_isCloseTo 50 = .ok (.iconst 0, 1) := by decide +kernel
theorem dX7_isCloseTo_51 : decode cX7_isCloseTo 51 = .ok (.ireturn, 1) := by decide +kernel
set_option maxRecDepth 20000 in
theorem ggX8_init_X8_setLatitude : GoodIn wsX8_init wsX8_setLatitude := goodIn_r _ [11, 12, 13, 14, 15, 16, 17, 18, 19, 20, 21, 22, 23, 24, 25, 26, 27, 28, 29, 30, 31, 32, 33, 34, 35, 36, 37, 38, 39] (by decide +kernel) (by decide +kernel)
set_option maxRecDepth 20000 in
theorem gX8_init_X8_setLatitude : GoodIn wsX8_init (wsV RX8 19 RX8 yX8_setLatitude wsX8_setLatitude) := goodIn_app (goodIn_of _ (by decide +kernel)) ggX8_init_X8_setLatitude
theorem dX8_init_0 : decode cX8_init 0 = .ok (.aload_n 0, 1) := by decide +kernel
theorem dX8_init_1 : decode cX8_init 1 = .ok (.invokespecial 3, 3) := by decide +kernel
theorem dX8_init_4 : decode cX8_init 4 = .ok (.aload_n 0, 1) := by decide +kernel
theorem dX8_init_5 : decode cX8_init 5 = .ok (.sipush 366, 3) := by decide +kernel
theorem dX8_init_8 : decode cX8_init 8 = .ok (.newarray .int, 2) := by decide +kernel
theorem dX8_init_10 : decode cX8_init 10 = .ok (.putfield 9, 3) := by decide +kernel
theorem dX8_init_13 : decode cX8_init 13 = .ok (.aload_n 0, 1) := by decide +kernel
theorem dX8_init_14 : decode cX8_init 14 = .ok (.iconst 0, 1) := by decide +kernel
theorem dX8_init_15 : decode cX8_init 15 = .ok (.putfield 15, 3) := by decide +kernel
theorem dX8_init_18 : decode cX8_init 18 = .ok (.aload_n 0, 1) := by decide +kernel
theorem dX8_init_19 : decode cX8_init 19 = .ok (.sipush 8192, 3) := by decide +kernel
theorem dX8_init_22 : decode cX8_init 22 = .ok (.invokevirtual 19, 3) := by decide +kernel
theorem dX8_init_25 : decode cX8_init 25 = .ok (.return_, 1) := by decide +kernel
set_option maxRecDepth 20000 in
theorem ggX8_setLatitude_X10_sineOf : GoodIn wsX8_setLatitude wsX10_sineOf := goodIn_r _ [6, 7, 8, 9] (by decide +kernel) (by decide +kernel)
set_option maxRecDepth 20000 in
theorem gX8_setLatitude_X10_sineOf_n26 : GoodIn wsX8_setLatitude (wsX10_sineOf) := ggX8_setLatitude_X10_sineOf
set_option maxRecDepth 20000 in
theorem ggX8_setLatitude_X10_cosineOf : GoodIn wsX8_setLatitude wsX10_cosineOf := goodIn_r _ [11, 12, 4, 5, 6, 7, 8, 9] (by decide +kernel) (by decide +kernel)
set_option maxRecDepth 20000 in
theorem gX8_setLatitude_X10_cosineOf_n33 : GoodIn wsX8_setLatitude (wsX10_cosineOf) := ggX8_setLatitude_X10_cosineOf
theorem dX8_setLatitude_0 : decode cX8_setLatitude 0 = .ok (.aload_n 0, 1) := by decide +kernel
theorem dX8_setLatitude_1 : decode cX8_setLatitude 1 = .ok (.iload_n 1, 1) := by decide +kernel
theorem dX8_setLatitude_2 : decode cX8_setLatitude 2 = .ok (.putfield 23, 3) := by decide +kernel
theorem dX8_setLatitude_5 : decode cX8_setLatitude 5 = .ok (.aload_n 0, 1) := by decide +kernel
theorem dX8_setLatitude_6 : decode cX8_setLatitude 6 = .ok (.iload_n 1, 1) := by decide +kernel
theorem dX8_setLatitude_7 : decode cX8_setLatitude 7 = .ok (.invokestatic 26, 3) := by decide +kernel
theorem dX8_setLatitude_10 : decode cX8_setLatitude 10 = .ok (.putfield 30, 3) := by decide +kernel
theorem dX8_setLatitude_13 : decode cX8_setLatitude 13 = .ok (.aload_n 0, 1) := by decide +kernel
theorem dX8_setLatitude_14 : decode cX8_setLatitude 14 = .ok (.iload_n 1, 1) := by decide +kernel
theorem dX8_setLatitude_15 : decode cX8_setLatitude 15 = .ok (.invokestatic 33, 3) := by decide +kernel
theorem dX8_setLatitude_18 : decode cX8_setLatitude 18 = .ok (.putfield 36, 3) := by decide +kernel
theorem dX8_setLatitude_21 : decode cX8_setLatitude 21 = .ok (.return_, 1) := by decide +kernel
set_option maxRecDepth 20000 in
theorem ggX8_clearCorrections_J7_fill_53178 : GoodIn wsX8_clearCorrections wsJ7_fill_53178 := goodIn_r _ [6] (by decide +kernel) (by decide +kernel)
set_option maxRecDepth 20000 in
theorem gX8_clearCorrections_J7_fill_53178 : GoodIn wsX8_clearCorrections (va_wsS RX8 39 yJ7_fill_53178 wsJ7_fill_53178) := goodIn_app (goodIn_of _ (by decide +kernel)) ggX8_clearCorrections_J7_fill_53178
theorem dX8_clearCorrections_0 : decode cX8_clearCorrections 0 = .ok (.aload_n 0, 1) := by decide +kernel
theorem dX8_clearCorrections_1 : decode cX8_clearCorrections 1 = .ok (.getfield 9, 3) := by decide +kernel
theorem dX8_clearCorrections_4 : decode cX8_clearCorrections 4 = .ok (.iconst 0, 1) := by decide +kernel
theorem dX8_clearCorrections_5 : decode cX8_clearCorrections 5 = .ok (.invokestatic 39, 3) := by decide +kernel
theorem dX8_clearCorrections_8 : decode cX8_clearCorrections 8 = .ok (.aload_n 0, 1) := by decide +kernel
theorem dX8_clearCorrections_9 : decode cX8_clearCorrections 9 = .ok (.iload_n 1, 1) := by decide +kernel
theorem dX8_clearCorrections_10 : decode cX8_clearCorrections 10 = .ok (.putfield 15, 3) := by decide +kernel
theorem dX8_clearCorrections_13 : decode cX8_clearCorrections 13 = .ok (.return_, 1) := by decide +kernel
set_option maxRecDepth 20000 in
theorem ggX8_setTime_X8_setDay : GoodIn wsX8_setTime wsX8_setDay := goodIn_r _ [5, 6, 7, 8, 9, 10, 11, 12, 13, 14, 15, 16, 17, 18, 19, 20, 21, 22, 23, 24, 25, 26, 27, 28, 29, 30, 31, 32, 33, 34, 43, 44, 45, 46, 47, 48, 49, 50, 51, 52, 53, 54, 55, 56, 57, 58] (by decide +kernel) (by decide +kernel)
set_option maxRecDepth 20000 in
theorem gX8_setTime_X8_setDay : GoodIn wsX8_setTime (wsV RX8 45 RX8 yX8_setDay wsX8_setDay) := goodIn_app (goodIn_of _ (by decide +kernel)) ggX8_setTime_X8_setDay
set_option maxRecDepth 20000 in
theorem ggX8_setTime_X8_setMinute : GoodIn wsX8_setTime wsX8_setMinute := goodIn_r _ [38, 8, 39, 11, 40, 13, 15, 41, 16, 17, 42, 21, 22, 23, 24, 32, 19, 33, 34, 25, 26, 27, 28, 29, 30, 31, 43, 44, 45, 46, 47, 48, 49, 50, 51, 52, 53, 54, 55, 56, 57, 58] (by decide +kernel) (by decide +kernel)
set_option maxRecDepth 20000 in
theorem gX8_setTime_X8_setMinute : GoodIn wsX8_setTime (wsV RX8 48 RX8 yX8_setMinute wsX8_setMinute) := goodIn_app (goodIn_of _ (by decide +kernel)) ggX8_setTime_X8_setMinute
theorem dX8_setTime_0 : decode cX8_setTime 0 = .ok (.aload_n 0, 1) := by decide +kernel
theorem dX8_setTime_1 : decode cX8_setTime 1 = .ok (.iload_n 1, 1) := by decide +kernel
theorem dX8_setTime_2 : decode cX8_setTime 2 = .ok (.invokevirtual 45, 3) := by decide +kernel
theorem dX8_setTime_5 : decode cX8_setTime 5 = .ok (.aload_n 0, 1) := by decide +kernel
theorem dX8_setTime_6 : decode cX8_setTime 6 = .ok (.iload_n 2, 1) := by decide +kernel
theorem dX8_setTime_7 : decode cX8_setTime 7 = .ok (.invokevirtual 48, 3) := by decide +kernel
theorem dX8_setTime_10 : decode cX8_setTime 10 = .ok (.return_, 1) := by decide +kernel
set_option maxRecDepth 20000 in
theorem ggX8_setDay_X10_within : GoodIn wsX8_setDay wsX10_within := goodIn_r _ [15] (by decide +kernel) (by decide +kernel)
set_option maxRecDepth 20000 in
theorem gX8_setDay_X10_within_n51 : GoodIn wsX8_setDay (wsX10_within) := ggX8_setDay_X10_within
set_option maxRecDepth 20000 in
theorem ggX8_setDay_J9_floorDiv_7cf53 : GoodIn wsX8_setDay wsJ9_floorDiv_7cf53 := goodIn_r _ [19] (by decide +kernel) (by decide +kernel)
set_option maxRecDepth 20000 in
theorem gX8_setDay_J9_floorDiv_7cf53 : GoodIn wsX8_setDay (va_wsS RX8 59 yJ9_floorDiv_7cf53 wsJ9_floorDiv_7cf53) := goodIn_app (goodIn_of _ (by decide +kernel)) ggX8_setDay_J9_floorDiv_7cf53
set_option maxRecDepth 20000 in
theorem ggX8_setDay_X10_sineOf : GoodIn wsX8_setDay wsX10_sineOf := goodIn_r _ [21, 22, 23, 24] (by decide +kernel) (by decide +kernel)
set_option maxRecDepth 20000 in
theorem gX8_setDay_X10_sineOf_n26 : GoodIn wsX8_setDay (wsX10_sineOf) := ggX8_setDay_X10_sineOf
set_option maxRecDepth 20000 in
theorem ggX8_setDay_X10_dot : GoodIn wsX8_setDay wsX10_dot := goodIn_r _ [26] (by decide +kernel) (by decide +kernel)
set_option maxRecDepth 20000 in
theorem gX8_setDay_X10_dot_n65 : GoodIn wsX8_setDay (wsX10_dot) := ggX8_setDay_X10_dot
set_option maxRecDepth 20000 in
theorem ggX8_setDay_X10_cosineOf : GoodIn wsX8_setDay wsX10_cosineOf := goodIn_r _ [28, 29, 20, 14, 21, 22, 23, 24] (by decide +kernel) (by decide +kernel)
set_option maxRecDepth 20000 in
theorem gX8_setDay_X10_cosineOf_n33 : GoodIn wsX8_setDay (wsX10_cosineOf) := ggX8_setDay_X10_cosineOf
theorem dX8_setDay_0 : decode cX8_setDay 0 = .ok (.aload_n 0, 1) := by decide +kernel
theorem dX8_setDay_1 : decode cX8_setDay 1 = .ok (.iload_n 1, 1) := by decide +kernel
theorem dX8_setDay_2 : decode cX8_setDay 2 = .ok (.i2l, 1) := by decide +kernel
theorem dX8_setDay_3 : decode cX8_setDay 3 = .ok (.lconst 0, 1) := by decide +kernel
theorem dX8_setDay_4 : decode cX8_setDay 4 = .ok (.aload_n 0, 1) := by decide +kernel
theorem dX8_setDay_5 : decode cX8_setDay 5 = .ok (.getfield 15, 3) := by decide +kernel
theorem dX8_setDay_8 : decode cX8_setDay 8 = .ok (.iconst 1, 1) := by decide +kernel
theorem dX8_setDay_9 : decode cX8_setDay 9 = .ok (.isub, 1) := by decide +kernel
theorem dX8_setDay_10 : decode cX8_setDay 10 = .ok (.i2l, 1) := by decide +kernel
theorem dX8_setDay_11 : decode cX8_setDay 11 = .ok (.invokestatic 51, 3) := by decide +kernel
theorem dX8_setDay_14 : decode cX8_setDay 14 = .ok (.ifCond .eq 12, 3) := by decide +kernel
theorem dX8_setDay_17 : decode cX8_setDay 17 = .ok (.aload_n 0, 1) := by decide +kernel
theorem dX8_setDay_18 : decode cX8_setDay 18 = .ok (.getfield 9, 3) := by decide +kernel
theorem dX8_setDay_21 : decode cX8_setDay 21 = .ok (.iload_n 1, 1) := by decide +kernel
theorem dX8_setDay_22 : decode cX8_setDay 22 = .ok (.iaload, 1) := by decide +kernel
theorem dX8_setDay_23 : decode cX8_setDay 23 = .ok (.goto 4, 3) := by decide +kernel
theorem dX8_setDay_26 : decode cX8_setDay 26 = .ok (.iconst 0, 1) := by decide +kernel
theorem dX8_setDay_27 : decode cX8_setDay 27 = .ok (.putfield 55, 3) := by decide +kernel
theorem dX8_setDay_30 : decode cX8_setDay 30 = .ok (.aload_n 0, 1) := by decide +kernel
theorem dX8_setDay_31 : decode cX8_setDay 31 = .ok (.sipush 4267, 3) := by decide +kernel
theorem dX8_setDay_34 : decode cX8_setDay 34 = .ok (.ldc 58, 2) := by decide +kernel
theorem dX8_setDay_36 : decode cX8_setDay 36 = .ok (.iload_n 1, 1) := by decide +kernel
theorem dX8_setDay_37 : decode cX8_setDay 37 = .ok (.bipush 80, 2) := by decide +kernel
theorem dX8_setDay_39 : decode cX8_setDay 39 = .ok (.isub, 1) := by decide +kernel
theorem dX8_setDay_40 : decode cX8_setDay 40 = .ok (.imul, 1) := by decide +kernel
theorem dX8_setDay_41 : decode cX8_setDay 41 = .ok (.sipush 366, 3) := by decide +kernel
theorem dX8_setDay_44 : decode cX8_setDay 44 = .ok (.invokestatic 59, 3) := by decide +kernel
theorem dX8_setDay_47 : decode cX8_setDay 47 = .ok (.invokestatic 26, 3) := by decide +kernel
theorem dX8_setDay_50 : decode cX8_setDay 50 = .ok (.invokestatic 65, 3) := by decide +kernel
theorem dX8_setDay_53 : decode cX8_setDay 53 = .ok (.putfield 68, 3) := by decide +kernel
theorem dX8_setDay_56 : decode cX8_setDay 56 = .ok (.aload_n 0, 1) := by decide +kernel
theorem dX8_setDay_57 : decode cX8_setDay 57 = .ok (.getfield 68, 3) := by decide +kernel
theorem dX8_setDay_60 : decode cX8_setDay 60 = .ok (.invokestatic 26, 3) := by decide +kernel
theorem dX8_setDay_63 : decode cX8_setDay 63 = .ok (.istore_n 2, 1) := by decide +kernel
theorem dX8_setDay_64 : decode cX8_setDay 64 = .ok (.aload_n 0, 1) := by decide +kernel
theorem dX8_setDay_65 : decode cX8_setDay 65 = .ok (.aload_n 0, 1) := by decide +kernel
theorem dX8_setDay_66 : decode cX8_setDay 66 = .ok (.getfield 68, 3) := by decide +kernel
theorem dX8_setDay_69 : decode cX8_setDay 69 = .ok (.invokestatic 33, 3) := by decide +kernel
theorem dX8_setDay_72 : decode cX8_setDay 72 = .ok (.putfield 71, 3) := by decide +kernel
theorem dX8_setDay_75 : decode cX8_setDay 75 = .ok (.aload_n 0, 1) := by decide +kernel
theorem dX8_setDay_76 : decode cX8_setDay 76 = .ok (.aload_n 0, 1) := by decide +kernel
theorem dX8_setDay_77 : decode cX8_setDay 77 = .ok (.getfield 36, 3) := by decide +kernel
theorem dX8_setDay_80 : decode cX8_setDay 80 = .ok (.iload_n 2, 1) := by decide +kernel
theorem dX8_setDay_81 : decode cX8_setDay 81 = .ok (.invokestatic 65, 3) := by decide +kernel
theorem dX8_setDay_84 : decode cX8_setDay 84 = .ok (.putfield 74, 3) := by decide +kernel
theorem dX8_setDay_87 : decode cX8_setDay 87 = .ok (.aload_n 0, 1) := by decide +kernel

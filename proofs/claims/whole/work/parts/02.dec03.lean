set_option maxRecDepth 20000 in
theorem gX11_isPlace_X11_isIn : GoodIn wsX11_isPlace (va_wsS RX11 69 yX11_isIn wsX11_isIn) := goodIn_app (goodIn_of _ (by decide +kernel)) ggX11_isPlace_X11_isIn
theorem dX11_isPlace_0 : decode cX11_isPlace 0 = .ok (.iload_n 0, 1) := by decide +kernel
theorem dX11_isPlace_1 : decode cX11_isPlace 1 = .ok (.i2l, 1) := by decide +kernel
theorem dX11_isPlace_2 : decode cX11_isPlace 2 = .ok (.lconst 0, 1) := by decide +kernel
theorem dX11_isPlace_3 : decode cX11_isPlace 3 = .ok (.ldc2_w 131, 3) := by decide +kernel
theorem dX11_isPlace_6 : decode cX11_isPlace 6 = .ok (.invokestatic 69, 3) := by decide +kernel
theorem dX11_isPlace_9 : decode cX11_isPlace 9 = .ok (.ireturn, 1) := by decide +kernel
set_option maxRecDepth 20000 in
theorem ggX11_isSpot_X11_isIn : GoodIn wsX11_isSpot wsX11_isIn := goodIn_r _ [6] (by decide +kernel) (by decide +kernel)
set_option maxRecDepth 20000 in
theorem gX11_isSpot_X11_isIn : GoodIn wsX11_isSpot (va_wsS RX11 69 yX11_isIn wsX11_isIn) := goodIn_app (goodIn_of _ (by decide +kernel)) ggX11_isSpot_X11_isIn
theorem dX11_isSpot_0 : decode cX11_isSpot 0 = .ok (.iload_n 0, 1) := by decide +kernel
theorem dX11_isSpot_1 : decode cX11_isSpot 1 = .ok (.i2l, 1) := by decide +kernel
theorem dX11_isSpot_2 : decode cX11_isSpot 2 = .ok (.ldc2_w 133, 3) := by decide +kernel
theorem dX11_isSpot_5 : decode cX11_isSpot 5 = .ok (.ldc2_w 135, 3) := by decide +kernel
theorem dX11_isSpot_8 : decode cX11_isSpot 8 = .ok (.invokestatic 69, 3) := by decide +kernel
theorem dX11_isSpot_11 : decode cX11_isSpot 11 = .ok (.ifCond .eq 21, 3) := by decide +kernel
theorem dX11_isSpot_14 : decode cX11_isSpot 14 = .ok (.iload_n 1, 1) := by decide +kernel
theorem dX11_isSpot_15 : decode cX11_isSpot 15 = .ok (.i2l, 1) := by decide +kernel
theorem dX11_isSpot_16 : decode cX11_isSpot 16 = .ok (.ldc2_w 133, 3) := by decide +kernel
theorem dX11_isSpot_19 : decode cX11_isSpot 19 = .ok (.ldc2_w 135, 3) := by decide +kernel
theorem dX11_isSpot_22 : decode cX11_isSpot 22 = .ok (.invokestatic 69, 3) := by decide +kernel
theorem dX11_isSpot_25 : decode cX11_isSpot 25 = .ok (.ifCond .eq 7, 3) := by decide +kernel
theorem dX11_isSpot_28 : decode cX11_isSpot 28 = .ok (.iconst 1, 1) := by decide +kernel
theorem dX11_isSpot_29 : decode cX11_isSpot 29 = .ok (.goto 4, 3) := by decide +kernel
theorem dX11_isSpot_32 : decode cX11_isSpot 32 = .ok (.iconst 0, 1) := by decide +kernel
theorem dX11_isSpot_33 : decode cX11_isSpot 33 = .ok (.ireturn, 1) := by decide +kernel
theorem dX11_get_0 : decode cX11_get 0 = .ok (.aload_n 0, 1) := by decide +kernel
theorem dX11_get_1 : decode cX11_get 1 = .ok (.getfield 7, 3) := by decide +kernel
theorem dX11_get_4 : decode cX11_get 4 = .ok (.bipush 7, 2) := by decide +kernel
theorem dX11_get_6 : decode cX11_get 6 = .ok (.iload_n 1, 1) := by decide +kernel
theorem dX11_get_7 : decode cX11_get 7 = .ok (.imul, 1) := by decide +kernel
theorem dX11_get_8 : decode cX11_get 8 = .ok (.iload_n 2, 1) := by decide +kernel
theorem dX11_get_9 : decode cX11_get 9 = .ok (.iadd, 1) := by decide +kernel
theorem dX11_get_10 : decode cX11_get 10 = .ok (.iaload, 1) := by decide +kernel
theorem dX11_get_11 : decode cX11_get 11 = .ok (.ireturn, 1) := by decide +kernel
theorem dX11_put_0 : decode cX11_put 0 = .ok (.aload_n 0, 1) := by decide +kernel
theorem dX11_put_1 : decode cX11_put 1 = .ok (.getfield 7, 3) := by decide +kernel
theorem dX11_put_4 : decode cX11_put 4 = .ok (.bipush 7, 2) := by decide +kernel
theorem dX11_put_6 : decode cX11_put 6 = .ok (.iload_n 1, 1) := by decide +kernel
theorem dX11_put_7 : decode cX11_put 7 = .ok (.imul, 1) := by decide +kernel
theorem dX11_put_8 : decode cX11_put 8 = .ok (.iload_n 2, 1) := by decide +kernel
theorem dX11_put_9 : decode cX11_put 9 = .ok (.iadd, 1) := by decide +kernel
theorem dX11_put_10 : decode cX11_put 10 = .ok (.iload_n 3, 1) := by decide +kernel
theorem dX11_put_11 : decode cX11_put 11 = .ok (.iastore, 1) := by decide +kernel
theorem dX11_put_12 : decode cX11_put 12 = .ok (.return_, 1) := by decide +kernel
set_option maxRecDepth 20000 in
theorem ggX11_isDial_X11_get : GoodIn wsX11_isDial wsX11_get := goodIn_r _ [5, 6, 7, 8, 9, 10, 11, 12, 13, 14, 15, 16, 17, 18, 19, 20, 21, 22, 23, 24, 25, 26, 27, 28, 29] (by decide +kernel) (by decide +kernel)
set_option maxRecDepth 20000 in
theorem gX11_isDial_X11_get : GoodIn wsX11_isDial (wsV RX11 137 RX11 yX11_get wsX11_get) := goodIn_app (goodIn_of _ (by decide +kernel)) ggX11_isDial_X11_get
theorem dX11_isDial_0 : decode cX11_isDial 0 = .ok (.aload_n 0, 1) := by decide +kernel
theorem dX11_isDial_1 : decode cX11_isDial 1 = .ok (.iload_n 1, 1) := by decide +kernel
theorem dX11_isDial_2 : decode cX11_isDial 2 = .ok (.iconst 0, 1) := by decide +kernel
theorem dX11_isDial_3 : decode cX11_isDial 3 = .ok (.invokevirtual 137, 3) := by decide +kernel
theorem dX11_isDial_6 : decode cX11_isDial 6 = .ok (.iconst 2, 1) := by decide +kernel
theorem dX11_isDial_7 : decode cX11_isDial 7 = .ok (.if_icmp .lt 7, 3) := by decide +kernel
theorem dX11_isDial_10 : decode cX11_isDial 10 = .ok (.iconst 1, 1) := by decide +kernel
theorem dX11_isDial_11 : decode cX11_isDial 11 = .ok (.goto 4, 3) := by decide +kernel
theorem dX11_isDial_14 : decode cX11_isDial 14 = .ok (.iconst 0, 1) := by decide +kernel
theorem dX11_isDial_15 : decode cX11_isDial 15 = .ok (.ireturn, 1) := by decide +kernel
set_option maxRecDepth 20000 in
theorem ggX11_isOfKind_X11_get : GoodIn wsX11_isOfKind wsX11_get := goodIn_r _ [5, 6, 7, 8, 9, 10, 11, 12, 13, 14, 15, 16, 17, 18, 19, 20, 21, 22, 23, 24, 25, 26, 27, 28, 29] (by decide +kernel) (by decide +kernel)
set_option maxRecDepth 20000 in
theorem gX11_isOfKind_X11_get : GoodIn wsX11_isOfKind (wsV RX11 137 RX11 yX11_get wsX11_get) := goodIn_app (goodIn_of _ (by decide +kernel)) ggX11_isOfKind_X11_get
theorem dX11_isOfKind_0 : decode cX11_isOfKind 0 = .ok (.aload_n 0, 1) := by decide +kernel
theorem dX11_isOfKind_1 : decode cX11_isOfKind 1 = .ok (.iload_n 1, 1) := by decide +kernel
theorem dX11_isOfKind_2 : decode cX11_isOfKind 2 = .ok (.iconst 0, 1) := by decide +kernel
theorem dX11_isOfKind_3 : decode cX11_isOfKind 3 = .ok (.invokevirtual 137, 3) := by decide +kernel
theorem dX11_isOfKind_6 : decode cX11_isOfKind 6 = .ok (.iconst 2, 1) := by decide +kernel
theorem dX11_isOfKind_7 : decode cX11_isOfKind 7 = .ok (.isub, 1) := by decide +kernel
theorem dX11_isOfKind_8 : decode cX11_isOfKind 8 = .ok (.istore_n 3, 1) := by decide +kernel
theorem dX11_isOfKind_9 : decode cX11_isOfKind 9 = .ok (.iload_n 3, 1) := by decide +kernel
theorem dX11_isOfKind_10 : decode cX11_isOfKind 10 = .ok (.ifCond .lt 41, 3) := by decide +kernel
theorem dX11_isOfKind_13 : decode cX11_isOfKind 13 = .ok (.iload_n 3, 1) := by decide +kernel
theorem dX11_isOfKind_14 : decode cX11_isOfKind 14 = .ok (.iload_n 2, 1) := by decide +kernel
theorem dX11_isOfKind_15 : decode cX11_isOfKind 15 = .ok (.if_icmp .eq 32, 3) := by decide +kernel
theorem dX11_isOfKind_18 : decode cX11_isOfKind 18 = .ok (.iload_n 2, 1) := by decide +kernel
theorem dX11_isOfKind_19 : decode cX11_isOfKind 19 = .ok (.ifCond .eq 28, 3) := by decide +kernel
theorem dX11_isOfKind_22 : decode cX11_isOfKind 22 = .ok (.iload_n 2, 1) := by decide +kernel
theorem dX11_isOfKind_23 : decode cX11_isOfKind 23 = .ok (.iconst 1, 1) := by decide +kernel
theorem dX11_isOfKind_24 : decode cX11_isOfKind 24 = .ok (.if_icmp .ne 13, 3) := by decide +kernel
theorem dX11_isOfKind_27 : decode cX11_isOfKind 27 = .ok (.iload_n 3, 1) := by decide +kernel
theorem dX11_isOfKind_28 : decode cX11_isOfKind 28 = .ok (.iconst 2, 1) := by decide +kernel
theorem dX11_isOfKind_29 : decode cX11_isOfKind 29 = .ok (.if_icmp .eq 18, 3) := by decide +kernel
theorem dX11_isOfKind_32 : decode cX11_isOfKind 32 = .ok (.iload_n 3, 1) := by decide +kernel
theorem dX11_isOfKind_33 : decode cX11_isOfKind 33 = .ok (.iconst 4, 1) := by decide +kernel
theorem dX11_isOfKind_34 : decode cX11_isOfKind 34 = .ok (.if_icmp .eq 13, 3) := by decide +kernel
theorem dX11_isOfKind_37 : decode cX11_isOfKind 37 = .ok (.iload_n 2, 1) := by decide +kernel
theorem dX11_isOfKind_38 : decode cX11_isOfKind 38 = .ok (.iconst 2, 1) := by decide +kernel
theorem dX11_isOfKind_39 : decode cX11_isOfKind 39 = .ok (.if_icmp .ne 12, 3) := by decide +kernel
theorem dX11_isOfKind_42 : decode cX11_isOfKind 42 = .ok (.iload_n 3, 1) := by decide +kernel
theorem dX11_isOfKind_43 : decode cX11_isOfKind 43 = .ok (.iconst 4, 1) := by decide +kernel
theorem dX11_isOfKind_44 : decode cX11_isOfKind 44 = .ok (.if_icmp .ne 7, 3) := by decide +kernel
theorem dX11_isOfKind_47 : decode cX11_isOfKind 47 = .ok (.iconst 1, 1) := by decide +kernel
theorem dX11_isOfKind_48 : decode cX11_isOfKind 48 = .ok (.goto 4, 3) := by decide +kernel
theorem dX11_isOfKind_51 : decode cX11_isOfKind 51 = .ok (.iconst 0, 1) := by decide +kernel
theorem dX11_isOfKind_52 : decode cX11_isOfKind 52 = .ok (.ireturn, 1) := by decide +kernel
theorem dX11_keep_0 : decode cX11_keep 0 = .ok (.aload_n 0, 1) := by decide +kernel
theorem dX11_keep_1 : decode cX11_keep 1 = .ok (.getfield 46, 3) := by decide +kernel
theorem dX11_keep_4 : decode cX11_keep 4 = .ok (.bipush 16, 2) := by decide +kernel
theorem dX11_keep_6 : decode cX11_keep 6 = .ok (.if_icmp .ne 79, 3) := by decide +kernel
theorem dX11_keep_9 : decode cX11_keep 9 = .ok (.iconst 1, 1) := by decide +kernel
theorem dX11_keep_10 : decode cX11_keep 10 = .ok (.istore_n 2, 1) := by decide +kernel
theorem dX11_keep_11 : decode cX11_keep 11 = .ok (.iload_n 2, 1) := by decide +kernel
theorem dX11_keep_12 : decode cX11_keep 12 = .ok (.bipush 16, 2) := by decide +kernel
theorem dX11_keep_14 : decode cX11_keep 14 = .ok (.if_icmp .ge 61, 3) := by decide +kernel
theorem dX11_keep_17 : decode cX11_keep 17 = .ok (.aload_n 0, 1) := by decide +kernel
theorem dX11_keep_18 : decode cX11_keep 18 = .ok (.getfield 13, 3) := by decide +kernel
theorem dX11_keep_21 : decode cX11_keep 21 = .ok (.iload_n 2, 1) := by decide +kernel
theorem dX11_keep_22 : decode cX11_keep 22 = .ok (.iconst 1, 1) := by decide +kernel
theorem dX11_keep_23 : decode cX11_keep 23 = .ok (.isub, 1) := by decide +kernel
theorem dX11_keep_24 : decode cX11_keep 24 = .ok (.aload_n 0, 1) := by decide +kernel
theorem dX11_keep_25 : decode cX11_keep 25 = .ok (.getfield 13, 3) := by decide +kernel
theorem dX11_keep_28 : decode cX11_keep 28 = .ok (.iload_n 2, 1) := by decide +kernel
theorem dX11_keep_29 : decode cX11_keep 29 = .ok (.iaload, 1) := by decide +kernel
theorem dX11_keep_30 : decode cX11_keep 30 = .ok (.iastore, 1) := by decide +kernel
theorem dX11_keep_31 : decode cX11_keep 31 = .ok (.iconst 0, 1) := by decide +kernel
theorem dX11_keep_32 : decode cX11_keep 32 = .ok (.istore_n 3, 1) := by decide +kernel
theorem dX11_keep_33 : decode cX11_keep 33 = .ok (.iload_n 3, 1) := by decide +kernel
theorem dX11_keep_34 : decode cX11_keep 34 = .ok (.bipush 7, 2) := by decide +kernel
theorem dX11_keep_36 : decode cX11_keep 36 = .ok (.if_icmp .ge 33, 3) := by decide +kernel
theorem dX11_keep_39 : decode cX11_keep 39 = .ok (.aload_n 0, 1) := by decide +kernel
theorem dX11_keep_40 : decode cX11_keep 40 = .ok (.getfield 16, 3) := by decide +kernel
theorem dX11_keep_43 : decode cX11_keep 43 = .ok (.bipush 7, 2) := by decide +kernel
theorem dX11_keep_45 : decode cX11_keep 45 = .ok (.iload_n 2, 1) := by decide +kernel
theorem dX11_keep_46 : decode cX11_keep 46 = .ok (.iconst 1, 1) := by decide +kernel
theorem dX11_keep_47 : decode cX11_keep 47 = .ok (.isub, 1) := by decide +kernel
theorem dX11_keep_48 : decode cX11_keep 48 = .ok (.imul, 1) := by decide +kernel
theorem dX11_keep_49 : decode cX11_keep 49 = .ok (.iload_n 3, 1) := by decide +kernel
theorem dX11_keep_50 : decode cX11_keep 50 = .ok (.iadd, 1) := by decide +kernel
theorem dX11_keep_51 : decode cX11_keep 51 = .ok (.aload_n 0, 1) := by decide +kernel
theorem dX11_keep_52 : decode cX11_keep 52 = .ok (.getfield 16, 3) := by decide +kernel
theorem dX11_keep_55 : decode cX11_keep 55 = .ok (.bipush 7, 2) := by decide +kernel
theorem dX11_keep_57 : decode cX11_keep 57 = .ok (.iload_n 2, 1) := by decide +kernel
theorem dX11_keep_58 : decode cX11_keep 58 = .ok (.imul, 1) := by decide +kernel
theorem dX11_keep_59 : decode cX11_keep 59 = .ok (.iload_n 3, 1) := by decide +kernel
theorem dX11_keep_60 : decode cX11_keep 60 = .ok (.iadd, 1) := by decide +kernel
theorem dX11_keep_61 : decode cX11_keep 61 = .ok (.iaload, 1) := by decide +kernel
theorem dX11_keep_62 : decode cX11_keep 62 = .ok (.iastore, 1) := by decide +kernel
theorem dX11_keep_63 : decode cX11_keep 63 = .ok (.iinc 3 1, 3) := by decide +kernel
theorem dX11_keep_66 : decode cX11_keep 66 = .ok (.goto (-33), 3) := by decide +kernel
theorem dX11_keep_69 : decode cX11_keep 69 = .ok (.iinc 2 1, 3) := by decide +kernel
theorem dX11_keep_72 : decode cX11_keep 72 = .ok (.goto (-61), 3) := by decide +kernel
theorem dX11_keep_75 : decode cX11_keep 75 = .ok (.aload_n 0, 1) := by decide +kernel
theorem dX11_keep_76 : decode cX11_keep 76 = .ok (.dup, 1) := by decide +kernel
theorem dX11_keep_77 : decode cX11_keep 77 = .ok (.getfield 46, 3) := by decide +kernel
theorem dX11_keep_80 : decode cX11_keep 80 = .ok (.iconst 1, 1) := by decide +kernel
theorem dX11_keep_81 : decode cX11_keep 81 = .ok (.isub, 1) := by decide +kernel
theorem dX11_keep_82 : decode cX11_keep 82 = .ok (.putfield 46, 3) := by decide +kernel
theorem dX11_keep_85 : decode cX11_keep 85 = .ok (.aload_n 0, 1) := by decide +kernel
theorem dX11_keep_86 : decode cX11_keep 86 = .ok (.getfield 13, 3) := by decide +kernel
theorem dX11_keep_89 : decode cX11_keep 89 = .ok (.aload_n 0, 1) := by decide +kernel
theorem dX11_keep_90 : decode cX11_keep 90 = .ok (.getfield 46, 3) := by decide +kernel
theorem dX11_keep_93 : decode cX11_keep 93 = .ok (.iload_n 1, 1) := by decide +kernel
theorem dX11_keep_94 : decode cX11_keep 94 = .ok (.iastore, 1) := by decide +kernel
theorem dX11_keep_95 : decode cX11_keep 95 = .ok (.iconst 0, 1) := by decide +kernel
theorem dX11_keep_96 : decode cX11_keep 96 = .ok (.istore_n 2, 1) := by decide +kernel
theorem dX11_keep_97 : decode cX11_keep 97 = .ok (.iload_n 2, 1) := by decide +kernel
theorem dX11_keep_98 : decode cX11_keep 98 = .ok (.bipush 7, 2) := by decide +kernel
theorem dX11_keep_100 : decode cX11_keep 100 = .ok (.if_icmp .ge 34, 3) := by decide +kernel
theorem dX11_keep_103 : decode cX11_keep 103 = .ok (.aload_n 0, 1) := by decide +kernel
theorem dX11_keep_104 : decode cX11_keep 104 = .ok (.getfield 16, 3) := by decide +kernel
theorem dX11_keep_107 : decode cX11_keep 107 = .ok (.bipush 7, 2) := by decide +kernel
theorem dX11_keep_109 : decode cX11_keep 109 = .ok (.aload_n 0, 1) := by decide +kernel
theorem dX11_keep_110 : decode cX11_keep 110 = .ok (.getfield 46, 3) := by decide +kernel
theorem dX11_keep_113 : decode cX11_keep 113 = .ok (.imul, 1) := by decide +kernel
theorem dX11_keep_114 : decode cX11_keep 114 = .ok (.iload_n 2, 1) := by decide +kernel
theorem dX11_keep_115 : decode cX11_keep 115 = .ok (.iadd, 1) := by decide +kernel
theorem dX11_keep_116 : decode cX11_keep 116 = .ok (.aload_n 0, 1) := by decide +kernel
theorem dX11_keep_117 : decode cX11_keep 117 = .ok (.getfield 7, 3) := by decide +kernel
theorem dX11_keep_120 : decode cX11_keep 120 = .ok (.bipush 7, 2) := by decide +kernel
theorem dX11_keep_122 : decode cX11_keep 122 = .ok (.iload_n 1, 1) := by decide +kernel
theorem dX11_keep_123 : decode cX11_keep 123 = .ok (.imul, 1) := by decide +kernel
theorem dX11_keep_124 : decode cX11_keep 124 = .ok (.iload_n 2, 1) := by decide +kernel
theorem dX11_keep_125 : decode cX11_keep 125 = .ok (.iadd, 1) := by decide +kernel
theorem dX11_keep_126 : decode cX11_keep 126 = .ok (.iaload, 1) := by decide +kernel
theorem dX11_keep_127 : decode cX11_keep 127 = .ok (.iastore, 1) := by decide +kernel
theorem dX11_keep_128 : decode cX11_keep 128 = .ok (.iinc 2 1, 3) := by decide +kernel
theorem dX11_keep_131 : decode cX11_keep 131 = .ok (.goto (-34), 3) := by decide +kernel
theorem dX11_keep_134 : decode cX11_keep 134 = .ok (.aload_n 0, 1) := by decide +kernel
theorem dX11_keep_135 : decode cX11_keep 135 = .ok (.dup, 1) := by decide +kernel
theorem dX11_keep_136 : decode cX11_keep 136 = .ok (.getfield 46, 3) := by decide +kernel
theorem dX11_keep_139 : decode cX11_keep 139 = .ok (.iconst 1, 1) := by decide +kernel
theorem dX11_keep_140 : decode cX11_keep 140 = .ok (.iadd, 1) := by decide +kernel
theorem dX11_keep_141 : decode cX11_keep 141 = .ok (.putfield 46, 3) := by decide +kernel
theorem dX11_keep_144 : decode cX11_keep 144 = .ok (.return_, 1) := by decide +kernel
theorem dX11_undo_0 : decode cX11_undo 0 = .ok (.aload_n 0, 1) := by decide +kernel
theorem dX11_undo_1 : decode cX11_undo 1 = .ok (.getfield 46, 3) := by decide +kernel
theorem dX11_undo_4 : decode cX11_undo 4 = .ok (.ifCond .ne 6, 3) := by decide +kernel
theorem dX11_undo_7 : decode cX11_undo 7 = .ok (.ldc 141, 2) := by decide +kernel
theorem dX11_undo_9 : decode cX11_undo 9 = .ok (.ireturn, 1) := by decide +kernel
theorem dX11_undo_10 : decode cX11_undo 10 = .ok (.aload_n 0, 1) := by decide +kernel
theorem dX11_undo_11 : decode cX11_undo 11 = .ok (.dup, 1) := by decide +kernel
theorem dX11_undo_12 : decode cX11_undo 12 = .ok (.getfield 46, 3) := by decide +kernel
theorem dX11_undo_15 : decode cX11_undo 15 = .ok (.iconst 1, 1) := by decide +kernel
theorem dX11_undo_16 : decode cX11_undo 16 = .ok (.isub, 1) := by decide +kernel
theorem dX11_undo_17 : decode cX11_undo 17 = .ok (.putfield 46, 3) := by decide +kernel
theorem dX11_undo_20 : decode cX11_undo 20 = .ok (.iconst 0, 1) := by decide +kernel
theorem dX11_undo_21 : decode cX11_undo 21 = .ok (.istore_n 1, 1) := by decide +kernel
theorem dX11_undo_22 : decode cX11_undo 22 = .ok (.iload_n 1, 1) := by decide +kernel
theorem dX11_undo_23 : decode cX11_undo 23 = .ok (.bipush 7, 2) := by decide +kernel
theorem dX11_undo_25 : decode cX11_undo 25 = .ok (.if_icmp .ge 42, 3) := by decide +kernel
theorem dX11_undo_28 : decode cX11_undo 28 = .ok (.aload_n 0, 1) := by decide +kernel
theorem dX11_undo_29 : decode cX11_undo 29 = .ok (.getfield 7, 3) := by decide +kernel
theorem dX11_undo_32 : decode cX11_undo 32 = .ok (.bipush 7, 2) := by decide +kernel
theorem dX11_undo_34 : decode cX11_undo 34 = .ok (.aload_n 0, 1) := by decide +kernel
theorem dX11_undo_35 : decode cX11_undo 35 = .ok (.getfield 13, 3) := by decide +kernel
theorem dX11_undo_38 : decode cX11_undo 38 = .ok (.aload_n 0, 1) := by decide +kernel
theorem dX11_undo_39 : decode cX11_undo 39 = .ok (.getfield 46, 3) := by decide +kernel
theorem dX11_undo_42 : decode cX11_undo 42 = .ok (.iaload, 1) := by decide +kernel
theorem dX11_undo_43 : decode cX11_undo 43 = .ok (.imul, 1) := by decide +kernel
theorem dX11_undo_44 : decode cX11_undo 44 = .ok (.iload_n 1, 1) := by decide +kernel
theorem dX11_undo_45 : decode cX11_undo 45 = .ok (.iadd, 1) := by decide +kernel
theorem dX11_undo_46 : decode cX11_undo 46 = .ok (.aload_n 0, 1) := by decide +kernel
theorem dX11_undo_47 : decode cX11_undo 47 = .ok (.getfield 16, 3) := by decide +kernel
theorem dX11_undo_50 : decode cX11_undo 50 = .ok (.bipush 7, 2) := by decide +kernel
theorem dX11_undo_52 : decode cX11_undo 52 = .ok (.aload_n 0, 1) := by decide +kernel
theorem dX11_undo_53 : decode cX11_undo 53 = .ok (.getfield 46, 3) := by decide +kernel
theorem dX11_undo_56 : decode cX11_undo 56 = .ok (.imul, 1) := by decide +kernel
theorem dX11_undo_57 : decode cX11_undo 57 = .ok (.iload_n 1, 1) := by decide +kernel
theorem dX11_undo_58 : decode cX11_undo 58 = .ok (.iadd, 1) := by decide +kernel
theorem dX11_undo_59 : decode cX11_undo 59 = .ok (.iaload, 1) := by decide +kernel
theorem dX11_undo_60 : decode cX11_undo 60 = .ok (.iastore, 1) := by decide +kernel
theorem dX11_undo_61 : decode cX11_undo 61 = .ok (.iinc 1 1, 3) := by decide +kernel
theorem dX11_undo_64 : decode cX11_undo 64 = .ok (.goto (-42), 3) := by decide +kernel
theorem dX11_undo_67 : decode cX11_undo 67 = .ok (.aload_n 0, 1) := by decide +kernel
theorem dX11_undo_68 : decode cX11_undo 68 = .ok (.getfield 13, 3) := by decide +kernel
theorem dX11_undo_71 : decode cX11_undo 71 = .ok (.aload_n 0, 1) := by decide +kernel
theorem dX11_undo_72 : decode cX11_undo 72 = .ok (.getfield 46, 3) := by decide +kernel
theorem dX11_undo_75 : decode cX11_undo 75 = .ok (.iaload, 1) := by decide +kernel
theorem dX11_undo_76 : decode cX11_undo 76 = .ok (.ireturn, 1) := by decide +kernel
set_option maxRecDepth 20000 in
theorem ggX11_dial_X11_isPlace : GoodIn wsX11_dial wsX11_isPlace := goodIn_r _ [8, 9, 10, 11, 7, 12] (by decide +kernel) (by decide +kernel)
set_option maxRecDepth 20000 in
theorem gX11_dial_X11_isPlace : GoodIn wsX11_dial (va_wsS RX11 142 yX11_isPlace wsX11_isPlace) := goodIn_app (goodIn_of _ (by decide +kernel)) ggX11_dial_X11_isPlace
set_option maxRecDepth 20000 in
theorem ggX11_dial_X11_isIn : GoodIn wsX11_dial wsX11_isIn := goodIn_r _ [12] (by decide +kernel) (by decide +kernel)
set_option maxRecDepth 20000 in
theorem gX11_dial_X11_isIn : GoodIn wsX11_dial (va_wsS RX11 69 yX11_isIn wsX11_isIn) := goodIn_app (goodIn_of _ (by decide +kernel)) ggX11_dial_X11_isIn
set_option maxRecDepth 20000 in
theorem ggX11_dial_X11_isSpot : GoodIn wsX11_dial wsX11_isSpot := goodIn_r _ [15, 16, 17, 10, 11, 7, 12] (by decide +kernel) (by decide +kernel)
set_option maxRecDepth 20000 in
theorem gX11_dial_X11_isSpot : GoodIn wsX11_dial (va_wsS RX11 148 yX11_isSpot wsX11_isSpot) := goodIn_app (goodIn_of _ (by decide +kernel)) ggX11_dial_X11_isSpot
set_option maxRecDepth 20000 in
theorem ggX11_dial_X11_keep : GoodIn wsX11_dial wsX11_keep := goodIn_r _ [21, 22, 23, 24, 25, 30, 31, 32, 33, 34, 35, 36, 37, 38, 39, 40, 41, 42, 43, 44, 45, 46, 47, 48, 49, 50, 51, 52] (by decide +kernel) (by decide +kernel)
set_option maxRecDepth 20000 in
theorem gX11_dial_X11_keep : GoodIn wsX11_dial (wsV RX11 153 RX11 yX11_keep wsX11_keep) := goodIn_app (goodIn_of _ (by decide +kernel)) ggX11_dial_X11_keep
set_option maxRecDepth 20000 in
theorem ggX11_dial_X11_put : GoodIn wsX11_dial wsX11_put := goodIn_r _ [29, 25, 30, 31, 32, 33, 34, 35, 36, 37, 38, 39, 40, 41, 42, 43, 44, 45, 46, 47, 48, 49, 50, 51, 52] (by decide +kernel) (by decide +kernel)
set_option maxRecDepth 20000 in
theorem gX11_dial_X11_put : GoodIn wsX11_dial (wsV RX11 157 RX11 yX11_put wsX11_put) := goodIn_app (goodIn_of _ (by decide +kernel)) ggX11_dial_X11_put
theorem dX11_dial_0 : decode cX11_dial 0 = .ok (.iload_n 1, 1) := by decide +kernel
theorem dX11_dial_1 : decode cX11_dial 1 = .ok (.invokestatic 142, 3) := by decide +kernel
theorem dX11_dial_4 : decode cX11_dial 4 = .ok (.ifCond .eq 37, 3) := by decide +kernel
theorem dX11_dial_7 : decode cX11_dial 7 = .ok (.iload_n 2, 1) := by decide +kernel
theorem dX11_dial_8 : decode cX11_dial 8 = .ok (.i2l, 1) := by decide +kernel
theorem dX11_dial_9 : decode cX11_dial 9 = .ok (.lconst 0, 1) := by decide +kernel
theorem dX11_dial_10 : decode cX11_dial 10 = .ok (.ldc2_w 146, 3) := by decide +kernel
theorem dX11_dial_13 : decode cX11_dial 13 = .ok (.invokestatic 69, 3) := by decide +kernel
theorem dX11_dial_16 : decode cX11_dial 16 = .ok (.ifCond .eq 25, 3) := by decide +kernel
theorem dX11_dial_19 : decode cX11_dial 19 = .ok (.iload_n 3, 1) := by decide +kernel
theorem dX11_dial_20 : decode cX11_dial 20 = .ok (.iload 4, 2) := by decide +kernel
theorem dX11_dial_22 : decode cX11_dial 22 = .ok (.invokestatic 148, 3) := by decide +kernel
theorem dX11_dial_25 : decode cX11_dial 25 = .ok (.ifCond .eq 16, 3) := by decide +kernel
theorem dX11_dial_28 : decode cX11_dial 28 = .ok (.iload 5, 2) := by decide +kernel
theorem dX11_dial_30 : decode cX11_dial 30 = .ok (.i2l, 1) := by decide +kernel
theorem dX11_dial_31 : decode cX11_dial 31 = .ok (.lconst 1, 1) := by decide +kernel
theorem dX11_dial_32 : decode cX11_dial 32 = .ok (.ldc2_w 151, 3) := by decide +kernel
theorem dX11_dial_35 : decode cX11_dial 35 = .ok (.invokestatic 69, 3) := by decide +kernel
theorem dX11_dial_38 : decode cX11_dial 38 = .ok (.ifCond .ne 6, 3) := by decide +kernel
theorem dX11_dial_41 : decode cX11_dial 41 = .ok (.ldc 73, 2) := by decide +kernel
theorem dX11_dial_43 : decode cX11_dial 43 = .ok (.ireturn, 1) := by decide +kernel
theorem dX11_dial_44 : decode cX11_dial 44 = .ok (.aload_n 0, 1) := by decide +kernel
theorem dX11_dial_45 : decode cX11_dial 45 = .ok (.iload_n 1, 1) := by decide +kernel
theorem dX11_dial_46 : decode cX11_dial 46 = .ok (.invokevirtual 153, 3) := by decide +kernel
theorem dX11_dial_49 : decode cX11_dial 49 = .ok (.aload_n 0, 1) := by decide +kernel
theorem dX11_dial_50 : decode cX11_dial 50 = .ok (.iload_n 1, 1) := by decide +kernel
theorem dX11_dial_51 : decode cX11_dial 51 = .ok (.iconst 0, 1) := by decide +kernel
theorem dX11_dial_52 : decode cX11_dial 52 = .ok (.iconst 2, 1) := by decide +kernel
theorem dX11_dial_53 : decode cX11_dial 53 = .ok (.iload_n 2, 1) := by decide +kernel
theorem dX11_dial_54 : decode cX11_dial 54 = .ok (.iadd, 1) := by decide +kernel
theorem dX11_dial_55 : decode cX11_dial 55 = .ok (.invokevirtual 157, 3) := by decide +kernel
theorem dX11_dial_58 : decode cX11_dial 58 = .ok (.aload_n 0, 1) := by decide +kernel
theorem dX11_dial_59 : decode cX11_dial 59 = .ok (.iload_n 1, 1) := by decide +kernel
theorem dX11_dial_60 : decode cX11_dial 60 = .ok (.iconst 1, 1) := by decide +kernel
theorem dX11_dial_61 : decode cX11_dial 61 = .ok (.iload_n 3, 1) := by decide +kernel
theorem dX11_dial_62 : decode cX11_dial 62 = .ok (.invokevirtual 157, 3) := by decide +kernel
theorem dX11_dial_65 : decode cX11_dial 65 = .ok (.aload_n 0, 1) := by decide +kernel
theorem dX11_dial_66 : decode cX11_dial 66 = .ok (.iload_n 1, 1) := by decide +kernel
theorem dX11_dial_67 : decode cX11_dial 67 = .ok (.iconst 2, 1) := by decide +kernel
theorem dX11_dial_68 : decode cX11_dial 68 = .ok (.iload 4, 2) := by decide +kernel
theorem dX11_dial_70 : decode cX11_dial 70 = .ok (.invokevirtual 157, 3) := by decide +kernel
theorem dX11_dial_73 : decode cX11_dial 73 = .ok (.aload_n 0, 1) := by decide +kernel
theorem dX11_dial_74 : decode cX11_dial 74 = .ok (.iload_n 1, 1) := by decide +kernel
theorem dX11_dial_75 : decode cX11_dial 75 = .ok (.iconst 3, 1) := by decide +kernel
theorem dX11_dial_76 : decode cX11_dial 76 = .ok (.iload 5, 2) := by decide +kernel
theorem dX11_dial_78 : decode cX11_dial 78 = .ok (.invokevirtual 157, 3) := by decide +kernel
theorem dX11_dial_81 : decode cX11_dial 81 = .ok (.aload_n 0, 1) := by decide +kernel
theorem dX11_dial_82 : decode cX11_dial 82 = .ok (.iload_n 1, 1) := by decide +kernel
theorem dX11_dial_83 : decode cX11_dial 83 = .ok (.iconst 4, 1) := by decide +kernel
theorem dX11_dial_84 : decode cX11_dial 84 = .ok (.iconst 0, 1) := by decide +kernel
theorem dX11_dial_85 : decode cX11_dial 85 = .ok (.invokevirtual 157, 3) := by decide +kernel
theorem dX11_dial_88 : decode cX11_dial 88 = .ok (.aload_n 0, 1) := by decide +kernel
theorem dX11_dial_89 : decode cX11_dial 89 = .ok (.iload_n 1, 1) := by decide +kernel
theorem dX11_dial_90 : decode cX11_dial 90 = .ok (.iconst 5, 1) := by decide +kernel
theorem dX11_dial_91 : decode cX11_dial 91 = .ok (.sipush 8192, 3) := by decide +kernel
theorem dX11_dial_94 : decode cX11_dial 94 = .ok (.invokevirtual 157, 3) := by decide +kernel
theorem dX11_dial_97 : decode cX11_dial 97 = .ok (.aload_n 0, 1) := by decide +kernel
theorem dX11_dial_98 : decode cX11_dial 98 = .ok (.iload_n 1, 1) := by decide +kernel
theorem dX11_dial_99 : decode cX11_dial 99 = .ok (.bipush 6, 2) := by decide +kernel
theorem dX11_dial_101 : decode cX11_dial 101 = .ok (.ldc 161, 2) := by decide +kernel
theorem dX11_dial_103 : decode cX11_dial 103 = .ok (.invokevirtual 157, 3) := by decide +kernel
theorem dX11_dial_106 : decode cX11_dial 106 = .ok (.iconst 0, 1) := by decide +kernel
theorem dX11_dial_107 : decode cX11_dial 107 = .ok (.ireturn, 1) := by decide +kernel
set_option maxRecDepth 20000 in
theorem ggX11_house_X11_isPlace : GoodIn wsX11_house wsX11_isPlace := goodIn_r _ [8, 9, 10, 11, 7, 12] (by decide +kernel) (by decide +kernel)
set_option maxRecDepth 20000 in
theorem gX11_house_X11_isPlace : GoodIn wsX11_house (va_wsS RX11 142 yX11_isPlace wsX11_isPlace) := goodIn_app (goodIn_of _ (by decide +kernel)) ggX11_house_X11_isPlace
set_option maxRecDepth 20000 in
theorem ggX11_house_X11_isSpot : GoodIn wsX11_house wsX11_isSpot := goodIn_r _ [15, 16, 2, 10, 11, 7, 12] (by decide +kernel) (by decide +kernel)
set_option maxRecDepth 20000 in
theorem gX11_house_X11_isSpot : GoodIn wsX11_house (va_wsS RX11 148 yX11_isSpot wsX11_isSpot) := goodIn_app (goodIn_of _ (by decide +kernel)) ggX11_house_X11_isSpot
set_option maxRecDepth 20000 in
theorem ggX11_house_X11_isIn : GoodIn wsX11_house wsX11_isIn := goodIn_r _ [12] (by decide +kernel) (by decide +kernel)
set_option maxRecDepth 20000 in
theorem gX11_house_X11_isIn : GoodIn wsX11_house (va_wsS RX11 69 yX11_isIn wsX11_isIn) := goodIn_app (goodIn_of _ (by decide +kernel)) ggX11_house_X11_isIn
set_option maxRecDepth 20000 in
theorem ggX11_house_X11_keep : GoodIn wsX11_house wsX11_keep := goodIn_r _ [20, 21, 22, 23, 24, 29, 30, 31, 32, 33, 34, 35, 36, 37, 38, 39, 40, 41, 42, 43, 44, 45, 46, 47, 48, 49, 50, 51] (by decide +kernel) (by decide +kernel)
set_option maxRecDepth 20000 in
theorem gX11_house_X11_keep : GoodIn wsX11_house (wsV RX11 153 RX11 yX11_keep wsX11_keep) := goodIn_app (goodIn_of _ (by decide +kernel)) ggX11_house_X11_keep
set_option maxRecDepth 20000 in
theorem ggX11_house_X11_put : GoodIn wsX11_house wsX11_put := goodIn_r _ [28, 24, 29, 30, 31, 32, 33, 34, 35, 36, 37, 38, 39, 40, 41, 42, 43, 44, 45, 46, 47, 48, 49, 50, 51] (by decide +kernel) (by decide +kernel)
set_option maxRecDepth 20000 in
theorem gX11_house_X11_put : GoodIn wsX11_house (wsV RX11 157 RX11 yX11_put wsX11_put) := goodIn_app (goodIn_of _ (by decide +kernel)) ggX11_house_X11_put
theorem dX11_house_0 : decode cX11_house 0 = .ok (.iload_n 1, 1) := by decide +kernel
theorem dX11_house_1 : decode cX11_house 1 = .ok (.invokestatic 142, 3) := by decide +kernel
theorem dX11_house_4 : decode cX11_house 4 = .ok (.ifCond .eq 36, 3) := by decide +kernel
theorem dX11_house_7 : decode cX11_house 7 = .ok (.iload_n 2, 1) := by decide +kernel
theorem dX11_house_8 : decode cX11_house 8 = .ok (.iload_n 3, 1) := by decide +kernel
theorem dX11_house_9 : decode cX11_house 9 = .ok (.invokestatic 148, 3) := by decide +kernel
theorem dX11_house_12 : decode cX11_house 12 = .ok (.ifCond .eq 28, 3) := by decide +kernel
theorem dX11_house_15 : decode cX11_house 15 = .ok (.lload 4, 2) := by decide +kernel
theorem dX11_house_17 : decode cX11_house 17 = .ok (.lconst 0, 1) := by decide +kernel
theorem dX11_house_18 : decode cX11_house 18 = .ok (.ldc2_w 162, 3) := by decide +kernel
theorem dX11_house_21 : decode cX11_house 21 = .ok (.invokestatic 69, 3) := by decide +kernel
theorem dX11_house_24 : decode cX11_house 24 = .ok (.ifCond .eq 16, 3) := by decide +kernel
theorem dX11_house_27 : decode cX11_house 27 = .ok (.iload 6, 2) := by decide +kernel
theorem dX11_house_29 : decode cX11_house 29 = .ok (.i2l, 1) := by decide +kernel
theorem dX11_house_30 : decode cX11_house 30 = .ok (.lconst 1, 1) := by decide +kernel
theorem dX11_house_31 : decode cX11_house 31 = .ok (.ldc2_w 135, 3) := by decide +kernel
theorem dX11_house_34 : decode cX11_house 34 = .ok (.invokestatic 69, 3) := by decide +kernel
theorem dX11_house_37 : decode cX11_house 37 = .ok (.ifCond .ne 6, 3) := by decide +kernel
theorem dX11_house_40 : decode cX11_house 40 = .ok (.ldc 73, 2) := by decide +kernel
theorem dX11_house_42 : decode cX11_house 42 = .ok (.ireturn, 1) := by decide +kernel
theorem dX11_house_43 : decode cX11_house 43 = .ok (.lload 4, 2) := by decide +kernel
theorem dX11_house_45 : decode cX11_house 45 = .ok (.ldc2_w 51, 3) := by decide +kernel
theorem dX11_house_48 : decode cX11_house 48 = .ok (.ldiv, 1) := by decide +kernel
theorem dX11_house_49 : decode cX11_house 49 = .ok (.l2i, 1) := by decide +kernel
theorem dX11_house_50 : decode cX11_house 50 = .ok (.sipush 16384, 3) := by decide +kernel
theorem dX11_house_53 : decode cX11_house 53 = .ok (.isub, 1) := by decide +kernel
theorem dX11_house_54 : decode cX11_house 54 = .ok (.istore 7, 2) := by decide +kernel
theorem dX11_house_56 : decode cX11_house 56 = .ok (.lload 4, 2) := by decide +kernel
theorem dX11_house_58 : decode cX11_house 58 = .ok (.ldc2_w 51, 3) := by decide +kernel
theorem dX11_house_61 : decode cX11_house 61 = .ok (.lrem, 1) := by decide +kernel
theorem dX11_house_62 : decode cX11_house 62 = .ok (.l2i, 1) := by decide +kernel
theorem dX11_house_63 : decode cX11_house 63 = .ok (.sipush 16384, 3) := by decide +kernel
theorem dX11_house_66 : decode cX11_house 66 = .ok (.isub, 1) := by decide +kernel
theorem dX11_house_67 : decode cX11_house 67 = .ok (.istore 8, 2) := by decide +kernel
theorem dX11_house_69 : decode cX11_house 69 = .ok (.iload 7, 2) := by decide +kernel
theorem dX11_house_71 : decode cX11_house 71 = .ok (.iload 8, 2) := by decide +kernel
theorem dX11_house_73 : decode cX11_house 73 = .ok (.invokestatic 148, 3) := by decide +kernel
theorem dX11_house_76 : decode cX11_house 76 = .ok (.ifCond .eq 15, 3) := by decide +kernel
theorem dX11_house_79 : decode cX11_house 79 = .ok (.iload_n 2, 1) := by decide +kernel
theorem dX11_house_80 : decode cX11_house 80 = .ok (.iload 7, 2) := by decide +kernel
theorem dX11_house_82 : decode cX11_house 82 = .ok (.if_icmp .ne 12, 3) := by decide +kernel
theorem dX11_house_85 : decode cX11_house 85 = .ok (.iload_n 3, 1) := by decide +kernel
theorem dX11_house_86 : decode cX11_house 86 = .ok (.iload 8, 2) := by decide +kernel
theorem dX11_house_88 : decode cX11_house 88 = .ok (.if_icmp .ne 6, 3) := by decide +kernel
theorem dX11_house_91 : decode cX11_house 91 = .ok (.ldc 73, 2) := by decide +kernel
theorem dX11_house_93 : decode cX11_house 93 = .ok (.ireturn, 1) := by decide +kernel
theorem dX11_house_94 : decode cX11_house 94 = .ok (.aload_n 0, 1) := by decide +kernel
theorem dX11_house_95 : decode cX11_house 95 = .ok (.iload_n 1, 1) := by decide +kernel
theorem dX11_house_96 : decode cX11_house 96 = .ok (.invokevirtual 153, 3) := by decide +kernel
theorem dX11_house_99 : decode cX11_house 99 = .ok (.aload_n 0, 1) := by decide +kernel
theorem dX11_house_100 : decode cX11_house 100 = .ok (.iload_n 1, 1) := by decide +kernel
theorem dX11_house_101 : decode cX11_house 101 = .ok (.iconst 0, 1) := by decide +kernel
theorem dX11_house_102 : decode cX11_house 102 = .ok (.iconst 1, 1) := by decide +kernel
theorem dX11_house_103 : decode cX11_house 103 = .ok (.invokevirtual 157, 3) := by decide +kernel
theorem dX11_house_106 : decode cX11_house 106 = .ok (.aload_n 0, 1) := by decide +kernel
theorem dX11_house_107 : decode cX11_house 107 = .ok (.iload_n 1, 1) := by decide +kernel
theorem dX11_house_108 : decode cX11_house 108 = .ok (.iconst 1, 1) := by decide +kernel
theorem dX11_house_109 : decode cX11_house 109 = .ok (.iload_n 2, 1) := by decide +kernel
theorem dX11_house_110 : decode cX11_house 110 = .ok (.invokevirtual 157, 3) := by decide +kernel
theorem dX11_house_113 : decode cX11_house 113 = .ok (.aload_n 0, 1) := by decide +kernel
theorem dX11_house_114 : decode cX11_house 114 = .ok (.iload_n 1, 1) := by decide +kernel
theorem dX11_house_115 : decode cX11_house 115 = .ok (.iconst 2, 1) := by decide +kernel
theorem dX11_house_116 : decode cX11_house 116 = .ok (.iload_n 3, 1) := by decide +kernel
theorem dX11_house_117 : decode cX11_house 117 = .ok (.invokevirtual 157, 3) := by decide +kernel
theorem dX11_house_120 : decode cX11_house 120 = .ok (.aload_n 0, 1) := by decide +kernel
theorem dX11_house_121 : decode cX11_house 121 = .ok (.iload_n 1, 1) := by decide +kernel
theorem dX11_house_122 : decode cX11_house 122 = .ok (.iconst 3, 1) := by decide +kernel
theorem dX11_house_123 : decode cX11_house 123 = .ok (.iload 7, 2) := by decide +kernel
theorem dX11_house_125 : decode cX11_house 125 = .ok (.invokevirtual 157, 3) := by decide +kernel
theorem dX11_house_128 : decode cX11_house 128 = .ok (.aload_n 0, 1) := by decide +kernel
theorem dX11_house_129 : decode cX11_house 129 = .ok (.iload_n 1, 1) := by decide +kernel
theorem dX11_house_130 : decode cX11_house 130 = .ok (.iconst 4, 1) := by decide +kernel
theorem dX11_house_131 : decode cX11_house 131 = .ok (.iload 8, 2) := by decide +kernel
theorem dX11_house_133 : decode cX11_house 133 = .ok (.invokevirtual 157, 3) := by decide +kernel
theorem dX11_house_136 : decode cX11_house 136 = .ok (.aload_n 0, 1) := by decide +kernel
theorem dX11_house_137 : decode cX11_house 137 = .ok (.iload_n 1, 1) := by decide +kernel
theorem dX11_house_138 : decode cX11_house 138 = .ok (.iconst 5, 1) := by decide +kernel
theorem dX11_house_139 : decode cX11_house 139 = .ok (.iload 6, 2) := by decide +kernel
theorem dX11_house_141 : decode cX11_house 141 = .ok (.invokevirtual 157, 3) := by decide +kernel
theorem dX11_house_144 : decode cX11_house 144 = .ok (.iconst 0, 1) := by decide +kernel
theorem dX11_house_145 : decode cX11_house 145 = .ok (.ireturn, 1) := by decide +kernel
set_option maxRecDepth 20000 in
theorem ggX11_drop_X11_isPlace : GoodIn wsX11_drop wsX11_isPlace := goodIn_r _ [6, 7, 8, 9, 5, 10] (by decide +kernel) (by decide +kernel)
set_option maxRecDepth 20000 in
theorem gX11_drop_X11_isPlace : GoodIn wsX11_drop (va_wsS RX11 142 yX11_isPlace wsX11_isPlace) := goodIn_app (goodIn_of _ (by decide +kernel)) ggX11_drop_X11_isPlace
set_option maxRecDepth 20000 in
theorem ggX11_drop_X11_get : GoodIn wsX11_drop wsX11_get := goodIn_r _ [14, 15, 27, 28, 29, 30, 31, 32, 33, 34, 35, 36, 37, 38, 39, 40, 41, 42, 43, 44, 45, 46, 47, 48, 49] (by decide +kernel) (by decide +kernel)
set_option maxRecDepth 20000 in
theorem gX11_drop_X11_get : GoodIn wsX11_drop (wsV RX11 137 RX11 yX11_get wsX11_get) := goodIn_app (goodIn_of _ (by decide +kernel)) ggX11_drop_X11_get
set_option maxRecDepth 20000 in
theorem ggX11_drop_X11_keep : GoodIn wsX11_drop wsX11_keep := goodIn_r _ [19, 20, 21, 22, 15, 27, 28, 29, 30, 31, 32, 33, 34, 35, 36, 37, 38, 39, 40, 41, 42, 43, 44, 45, 46, 47, 48, 49] (by decide +kernel) (by decide +kernel)
set_option maxRecDepth 20000 in
theorem gX11_drop_X11_keep : GoodIn wsX11_drop (wsV RX11 153 RX11 yX11_keep wsX11_keep) := goodIn_app (goodIn_of _ (by decide +kernel)) ggX11_drop_X11_keep
set_option maxRecDepth 20000 in
theorem ggX11_drop_X11_put : GoodIn wsX11_drop wsX11_put := goodIn_r _ [26, 15, 27, 28, 29, 30, 31, 32, 33, 34, 35, 36, 37, 38, 39, 40, 41, 42, 43, 44, 45, 46, 47, 48, 49] (by decide +kernel) (by decide +kernel)
set_option maxRecDepth 20000 in
theorem gX11_drop_X11_put : GoodIn wsX11_drop (wsV RX11 157 RX11 yX11_put wsX11_put) := goodIn_app (goodIn_of _ (by decide +kernel)) ggX11_drop_X11_put
theorem dX11_drop_0 : decode cX11_drop 0 = .ok (.iload_n 1, 1) := by decide +kernel
theorem dX11_drop_1 : decode cX11_drop 1 = .ok (.invokestatic 142, 3) := by decide +kernel
theorem dX11_drop_4 : decode cX11_drop 4 = .ok (.ifCond .ne 6, 3) := by decide +kernel
theorem dX11_drop_7 : decode cX11_drop 7 = .ok (.ldc 73, 2) := by decide +kernel
theorem dX11_drop_9 : decode cX11_drop 9 = .ok (.ireturn, 1) := by decide +kernel
theorem dX11_drop_10 : decode cX11_drop 10 = .ok (.aload_n 0, 1) := by decide +kernel
theorem dX11_drop_11 : decode cX11_drop 11 = .ok (.iload_n 1, 1) := by decide +kernel
theorem dX11_drop_12 : decode cX11_drop 12 = .ok (.iconst 0, 1) := by decide +kernel
theorem dX11_drop_13 : decode cX11_drop 13 = .ok (.invokevirtual 137, 3) := by decide +kernel
theorem dX11_drop_16 : decode cX11_drop 16 = .ok (.ifCond .ne 6, 3) := by decide +kernel
theorem dX11_drop_19 : decode cX11_drop 19 = .ok (.ldc 141, 2) := by decide +kernel
theorem dX11_drop_21 : decode cX11_drop 21 = .ok (.ireturn, 1) := by decide +kernel
theorem dX11_drop_22 : decode cX11_drop 22 = .ok (.aload_n 0, 1) := by decide +kernel
theorem dX11_drop_23 : decode cX11_drop 23 = .ok (.iload_n 1, 1) := by decide +kernel
theorem dX11_drop_24 : decode cX11_drop 24 = .ok (.invokevirtual 153, 3) := by decide +kernel
theorem dX11_drop_27 : decode cX11_drop 27 = .ok (.aload_n 0, 1) := by decide +kernel
theorem dX11_drop_28 : decode cX11_drop 28 = .ok (.iload_n 1, 1) := by decide +kernel
theorem dX11_drop_29 : decode cX11_drop 29 = .ok (.iconst 0, 1) := by decide +kernel
theorem dX11_drop_30 : decode cX11_drop 30 = .ok (.iconst 0, 1) := by decide +kernel
theorem dX11_drop_31 : decode cX11_drop 31 = .ok (.invokevirtual 157, 3) := by decide +kernel
theorem dX11_drop_34 : decode cX11_drop 34 = .ok (.iconst 0, 1) := by decide +kernel
theorem dX11_drop_35 : decode cX11_drop 35 = .ok (.ireturn, 1) := by decide +kernel
set_option maxRecDepth 20000 in
theorem ggX11_move_X11_isPlace : GoodIn wsX11_move wsX11_isPlace := goodIn_r _ [6, 7, 8, 9, 5, 10] (by decide +kernel) (by decide +kernel)
set_option maxRecDepth 20000 in
theorem gX11_move_X11_isPlace : GoodIn wsX11_move (va_wsS RX11 142 yX11_isPlace wsX11_isPlace) := goodIn_app (goodIn_of _ (by decide +kernel)) ggX11_move_X11_isPlace
set_option maxRecDepth 20000 in
theorem ggX11_move_X11_isSpot : GoodIn wsX11_move wsX11_isSpot := goodIn_r _ [13, 14, 15, 8, 9, 5, 10] (by decide +kernel) (by decide +kernel)
set_option maxRecDepth 20000 in
theorem gX11_move_X11_isSpot : GoodIn wsX11_move (va_wsS RX11 148 yX11_isSpot wsX11_isSpot) := goodIn_app (goodIn_of _ (by decide +kernel)) ggX11_move_X11_isSpot
set_option maxRecDepth 20000 in
theorem ggX11_move_X11_isDial : GoodIn wsX11_move wsX11_isDial := goodIn_r _ [19, 20, 21, 22, 5, 23, 24, 36, 37, 38, 39, 40, 41, 42, 43, 44, 45, 46, 47, 48, 49, 50, 51, 52, 53, 54, 55, 56, 57, 58] (by decide +kernel) (by decide +kernel)
set_option maxRecDepth 20000 in
theorem gX11_move_X11_isDial : GoodIn wsX11_move (wsV RX11 164 RX11 yX11_isDial wsX11_isDial) := goodIn_app (goodIn_of _ (by decide +kernel)) ggX11_move_X11_isDial
set_option maxRecDepth 20000 in
theorem ggX11_move_X11_keep : GoodIn wsX11_move wsX11_keep := goodIn_r _ [28, 29, 30, 31, 24, 36, 37, 38, 39, 40, 41, 42, 43, 44, 45, 46, 47, 48, 49, 50, 51, 52, 53, 54, 55, 56, 57, 58] (by decide +kernel) (by decide +kernel)
set_option maxRecDepth 20000 in
theorem gX11_move_X11_keep : GoodIn wsX11_move (wsV RX11 153 RX11 yX11_keep wsX11_keep) := goodIn_app (goodIn_of _ (by decide +kernel)) ggX11_move_X11_keep
set_option maxRecDepth 20000 in
theorem ggX11_move_X11_put : GoodIn wsX11_move wsX11_put := goodIn_r _ [35, 24, 36, 37, 38, 39, 40, 41, 42, 43, 44, 45, 46, 47, 48, 49, 50, 51, 52, 53, 54, 55, 56, 57, 58] (by decide +kernel) (by decide +kernel)
set_option maxRecDepth 20000 in
theorem gX11_move_X11_put : GoodIn wsX11_move (wsV RX11 157 RX11 yX11_put wsX11_put) := goodIn_app (goodIn_of _ (by decide +kernel)) ggX11_move_X11_put
theorem dX11_move_0 : decode cX11_move 0 = .ok (.iload_n 1, 1) := by decide +kernel
theorem dX11_move_1 : decode cX11_move 1 = .ok (.invokestatic 142, 3) := by decide +kernel
theorem dX11_move_4 : decode cX11_move 4 = .ok (.ifCond .eq 11, 3) := by decide +kernel
theorem dX11_move_7 : decode cX11_move 7 = .ok (.iload_n 2, 1) := by decide +kernel
theorem dX11_move_8 : decode cX11_move 8 = .ok (.iload_n 3, 1) := by decide +kernel
theorem dX11_move_9 : decode cX11_move 9 = .ok (.invokestatic 148, 3) := by decide +kernel
theorem dX11_move_12 : decode cX11_move 12 = .ok (.ifCond .ne 6, 3) := by decide +kernel
theorem dX11_move_15 : decode cX11_move 15 = .ok (.ldc 73, 2) := by decide +kernel
theorem dX11_move_17 : decode cX11_move 17 = .ok (.ireturn, 1) := by decide +kernel
theorem dX11_move_18 : decode cX11_move 18 = .ok (.aload_n 0, 1) := by decide +kernel
theorem dX11_move_19 : decode cX11_move 19 = .ok (.iload_n 1, 1) := by decide +kernel
theorem dX11_move_20 : decode cX11_move 20 = .ok (.invokevirtual 164, 3) := by decide +kernel
theorem dX11_move_23 : decode cX11_move 23 = .ok (.ifCond .ne 6, 3) := by decide +kernel
theorem dX11_move_26 : decode cX11_move 26 = .ok (.ldc 141, 2) := by decide +kernel
theorem dX11_move_28 : decode cX11_move 28 = .ok (.ireturn, 1) := by decide +kernel
theorem dX11_move_29 : decode cX11_move 29 = .ok (.aload_n 0, 1) := by decide +kernel
theorem dX11_move_30 : decode cX11_move 30 = .ok (.iload_n 1, 1) := by decide +kernel
theorem dX11_move_31 : decode cX11_move 31 = .ok (.invokevirtual 153, 3) := by decide +kernel
theorem dX11_move_34 : decode cX11_move 34 = .ok (.aload_n 0, 1) := by decide +kernel
theorem dX11_move_35 : decode cX11_move 35 = .ok (.iload_n 1, 1) := by decide +kernel
theorem dX11_move_36 : decode cX11_move 36 = .ok (.iconst 1, 1) := by decide +kernel
theorem dX11_move_37 : decode cX11_move 37 = .ok (.iload_n 2, 1) := by decide +kernel
theorem dX11_move_38 : decode cX11_move 38 = .ok (.invokevirtual 157, 3) := by decide +kernel
theorem dX11_move_41 : decode cX11_move 41 = .ok (.aload_n 0, 1) := by decide +kernel
theorem dX11_move_42 : decode cX11_move 42 = .ok (.iload_n 1, 1) := by decide +kernel
theorem dX11_move_43 : decode cX11_move 43 = .ok (.iconst 2, 1) := by decide +kernel
theorem dX11_move_44 : decode cX11_move 44 = .ok (.iload_n 3, 1) := by decide +kernel
theorem dX11_move_45 : decode cX11_move 45 = .ok (.invokevirtual 157, 3) := by decide +kernel
theorem dX11_move_48 : decode cX11_move 48 = .ok (.iconst 0, 1) := by decide +kernel
theorem dX11_move_49 : decode cX11_move 49 = .ok (.ireturn, 1) := by decide +kernel
set_option maxRecDepth 20000 in
theorem ggX11_face_X11_isPlace : GoodIn wsX11_face wsX11_isPlace := goodIn_r _ [7, 8, 9, 10, 6, 11] (by decide +kernel) (by decide +kernel)
set_option maxRecDepth 20000 in
theorem gX11_face_X11_isPlace : GoodIn wsX11_face (va_wsS RX11 142 yX11_isPlace wsX11_isPlace) := goodIn_app (goodIn_of _ (by decide +kernel)) ggX11_face_X11_isPlace
set_option maxRecDepth 20000 in
theorem ggX11_face_X11_isIn : GoodIn wsX11_face wsX11_isIn := goodIn_r _ [11] (by decide +kernel) (by decide +kernel)
set_option maxRecDepth 20000 in
theorem gX11_face_X11_isIn : GoodIn wsX11_face (va_wsS RX11 69 yX11_isIn wsX11_isIn) := goodIn_app (goodIn_of _ (by decide +kernel)) ggX11_face_X11_isIn
set_option maxRecDepth 20000 in
theorem ggX11_face_X11_isOfKind : GoodIn wsX11_face wsX11_isOfKind := goodIn_r _ [15, 16, 17, 18, 6, 19, 20, 32, 33, 34, 35, 36, 37, 38, 39, 40, 41, 42, 43, 44, 45, 46, 47, 48, 49, 50, 51, 52, 53, 54] (by decide +kernel) (by decide +kernel)
set_option maxRecDepth 20000 in
theorem gX11_face_X11_isOfKind : GoodIn wsX11_face (wsV RX11 167 RX11 yX11_isOfKind wsX11_isOfKind) := goodIn_app (goodIn_of _ (by decide +kernel)) ggX11_face_X11_isOfKind
set_option maxRecDepth 20000 in
theorem ggX11_face_X11_get : GoodIn wsX11_face wsX11_get := goodIn_r _ [19, 20, 32, 33, 34, 35, 36, 37, 38, 39, 40, 41, 42, 43, 44, 45, 46, 47, 48, 49, 50, 51, 52, 53, 54] (by decide +kernel) (by decide +kernel)
set_option maxRecDepth 20000 in
theorem gX11_face_X11_get : GoodIn wsX11_face (wsV RX11 137 RX11 yX11_get wsX11_get) := goodIn_app (goodIn_of _ (by decide +kernel)) ggX11_face_X11_get
set_option maxRecDepth 20000 in
theorem ggX11_face_X11_keep : GoodIn wsX11_face wsX11_keep := goodIn_r _ [24, 25, 26, 27, 20, 32, 33, 34, 35, 36, 37, 38, 39, 40, 41, 42, 43, 44, 45, 46, 47, 48, 49, 50, 51, 52, 53, 54] (by decide +kernel) (by decide +kernel)
set_option maxRecDepth 20000 in
theorem gX11_face_X11_keep : GoodIn wsX11_face (wsV RX11 153 RX11 yX11_keep wsX11_keep) := goodIn_app (goodIn_of _ (by decide +kernel)) ggX11_face_X11_keep
set_option maxRecDepth 20000 in
theorem ggX11_face_X11_put : GoodIn wsX11_face wsX11_put := goodIn_r _ [31, 20, 32, 33, 34, 35, 36, 37, 38, 39, 40, 41, 42, 43, 44, 45, 46, 47, 48, 49, 50, 51, 52, 53, 54] (by decide +kernel) (by decide +kernel)
set_option maxRecDepth 20000 in
theorem gX11_face_X11_put : GoodIn wsX11_face (wsV RX11 157 RX11 yX11_put wsX11_put) := goodIn_app (goodIn_of _ (by decide +kernel)) ggX11_face_X11_put
theorem dX11_face_0 : decode cX11_face 0 = .ok (.iload_n 1, 1) := by decide +kernel
theorem dX11_face_1 : decode cX11_face 1 = .ok (.invokestatic 142, 3) := by decide +kernel
theorem dX11_face_4 : decode cX11_face 4 = .ok (.ifCond .eq 15, 3) := by decide +kernel
theorem dX11_face_7 : decode cX11_face 7 = .ok (.iload_n 2, 1) := by decide +kernel
theorem dX11_face_8 : decode cX11_face 8 = .ok (.i2l, 1) := by decide +kernel
theorem dX11_face_9 : decode cX11_face 9 = .ok (.lconst 0, 1) := by decide +kernel
theorem dX11_face_10 : decode cX11_face 10 = .ok (.ldc2_w 49, 3) := by decide +kernel
theorem dX11_face_13 : decode cX11_face 13 = .ok (.invokestatic 69, 3) := by decide +kernel
theorem dX11_face_16 : decode cX11_face 16 = .ok (.ifCond .ne 6, 3) := by decide +kernel
theorem dX11_face_19 : decode cX11_face 19 = .ok (.ldc 73, 2) := by decide +kernel
theorem dX11_face_21 : decode cX11_face 21 = .ok (.ireturn, 1) := by decide +kernel
theorem dX11_face_22 : decode cX11_face 22 = .ok (.aload_n 0, 1) := by decide +kernel
theorem dX11_face_23 : decode cX11_face 23 = .ok (.iload_n 1, 1) := by decide +kernel
theorem dX11_face_24 : decode cX11_face 24 = .ok (.iconst 1, 1) := by decide +kernel
theorem dX11_face_25 : decode cX11_face 25 = .ok (.invokevirtual 167, 3) := by decide +kernel
theorem dX11_face_28 : decode cX11_face 28 = .ok (.ifCond .ne 6, 3) := by decide +kernel
theorem dX11_face_31 : decode cX11_face 31 = .ok (.ldc 141, 2) := by decide +kernel
theorem dX11_face_33 : decode cX11_face 33 = .ok (.ireturn, 1) := by decide +kernel
theorem dX11_face_34 : decode cX11_face 34 = .ok (.aload_n 0, 1) := by decide +kernel
theorem dX11_face_35 : decode cX11_face 35 = .ok (.iload_n 1, 1) := by decide +kernel
theorem dX11_face_36 : decode cX11_face 36 = .ok (.iconst 4, 1) := by decide +kernel
theorem dX11_face_37 : decode cX11_face 37 = .ok (.invokevirtual 137, 3) := by decide +kernel
theorem dX11_face_40 : decode cX11_face 40 = .ok (.istore_n 3, 1) := by decide +kernel
theorem dX11_face_41 : decode cX11_face 41 = .ok (.aload_n 0, 1) := by decide +kernel
theorem dX11_face_42 : decode cX11_face 42 = .ok (.iload_n 1, 1) := by decide +kernel
theorem dX11_face_43 : decode cX11_face 43 = .ok (.invokevirtual 153, 3) := by decide +kernel
theorem dX11_face_46 : decode cX11_face 46 = .ok (.aload_n 0, 1) := by decide +kernel
theorem dX11_face_47 : decode cX11_face 47 = .ok (.iload_n 1, 1) := by decide +kernel
theorem dX11_face_48 : decode cX11_face 48 = .ok (.iconst 4, 1) := by decide +kernel
theorem dX11_face_49 : decode cX11_face 49 = .ok (.iload_n 2, 1) := by decide +kernel
theorem dX11_face_50 : decode cX11_face 50 = .ok (.invokevirtual 157, 3) := by decide +kernel
theorem dX11_face_53 : decode cX11_face 53 = .ok (.iload_n 3, 1) := by decide +kernel
theorem dX11_face_54 : decode cX11_face 54 = .ok (.ireturn, 1) := by decide +kernel
set_option maxRecDepth 20000 in
theorem ggX11_tilt_X11_isPlace : GoodIn wsX11_tilt wsX11_isPlace := goodIn_r _ [7, 8, 9, 10, 6, 11] (by decide +kernel) (by decide +kernel)
set_option maxRecDepth 20000 in
theorem gX11_tilt_X11_isPlace : GoodIn wsX11_tilt (va_wsS RX11 142 yX11_isPlace wsX11_isPlace) := goodIn_app (goodIn_of _ (by decide +kernel)) ggX11_tilt_X11_isPlace
set_option maxRecDepth 20000 in
theorem ggX11_tilt_X11_isIn : GoodIn wsX11_tilt wsX11_isIn := goodIn_r _ [11] (by decide +kernel) (by decide +kernel)
set_option maxRecDepth 20000 in
theorem gX11_tilt_X11_isIn : GoodIn wsX11_tilt (va_wsS RX11 69 yX11_isIn wsX11_isIn) := goodIn_app (goodIn_of _ (by decide +kernel)) ggX11_tilt_X11_isIn
set_option maxRecDepth 20000 in
theorem ggX11_tilt_X11_isOfKind : GoodIn wsX11_tilt wsX11_isOfKind := goodIn_r _ [15, 16, 17, 18, 6, 19, 20, 32, 33, 34, 35, 36, 37, 38, 39, 40, 41, 42, 43, 44, 45, 46, 47, 48, 49, 50, 51, 52, 53, 54] (by decide +kernel) (by decide +kernel)
set_option maxRecDepth 20000 in
theorem gX11_tilt_X11_isOfKind : GoodIn wsX11_tilt (wsV RX11 167 RX11 yX11_isOfKind wsX11_isOfKind) := goodIn_app (goodIn_of _ (by decide +kernel)) ggX11_tilt_X11_isOfKind
set_option maxRecDepth 20000 in
theorem ggX11_tilt_X11_get : GoodIn wsX11_tilt wsX11_get := goodIn_r _ [19, 20, 32, 33, 34, 35, 36, 37, 38, 39, 40, 41, 42, 43, 44, 45, 46, 47, 48, 49, 50, 51, 52, 53, 54] (by decide +kernel) (by decide +kernel)
set_option maxRecDepth 20000 in
theorem gX11_tilt_X11_get : GoodIn wsX11_tilt (wsV RX11 137 RX11 yX11_get wsX11_get) := goodIn_app (goodIn_of _ (by decide +kernel)) ggX11_tilt_X11_get
set_option maxRecDepth 20000 in
theorem ggX11_tilt_X11_keep : GoodIn wsX11_tilt wsX11_keep := goodIn_r _ [24, 25, 26, 27, 20, 32, 33, 34, 35, 36, 37, 38, 39, 40, 41, 42, 43, 44, 45, 46, 47, 48, 49, 50, 51, 52, 53, 54] (by decide +kernel) (by decide +kernel)
set_option maxRecDepth 20000 in
theorem gX11_tilt_X11_keep : GoodIn wsX11_tilt (wsV RX11 153 RX11 yX11_keep wsX11_keep) := goodIn_app (goodIn_of _ (by decide +kernel)) ggX11_tilt_X11_keep
set_option maxRecDepth 20000 in
theorem ggX11_tilt_X11_put : GoodIn wsX11_tilt wsX11_put := goodIn_r _ [31, 20, 32, 33, 34, 35, 36, 37, 38, 39, 40, 41, 42, 43, 44, 45, 46, 47, 48, 49, 50, 51, 52, 53, 54] (by decide +kernel) (by decide +kernel)
set_option maxRecDepth 20000 in
theorem gX11_tilt_X11_put : GoodIn wsX11_tilt (wsV RX11 157 RX11 yX11_put wsX11_put) := goodIn_app (goodIn_of _ (by decide +kernel)) ggX11_tilt_X11_put
theorem dX11_tilt_0 : decode cX11_tilt 0 = .ok (.iload_n 1, 1) := by decide +kernel
theorem dX11_tilt_1 : decode cX11_tilt 1 = .ok (.invokestatic 142, 3) := by decide +kernel
theorem dX11_tilt_4 : decode cX11_tilt 4 = .ok (.ifCond .eq 15, 3) := by decide +kernel
theorem dX11_tilt_7 : decode cX11_tilt 7 = .ok (.iload_n 2, 1) := by decide +kernel
theorem dX11_tilt_8 : decode cX11_tilt 8 = .ok (.i2l, 1) := by decide +kernel
theorem dX11_tilt_9 : decode cX11_tilt 9 = .ok (.lconst 0, 1) := by decide +kernel
theorem dX11_tilt_10 : decode cX11_tilt 10 = .ok (.ldc2_w 57, 3) := by decide +kernel
theorem dX11_tilt_13 : decode cX11_tilt 13 = .ok (.invokestatic 69, 3) := by decide +kernel
theorem dX11_tilt_16 : decode cX11_tilt 16 = .ok (.ifCond .ne 6, 3) := by decide +kernel
theorem dX11_tilt_19 : decode cX11_tilt 19 = .ok (.ldc 73, 2) := by decide +kernel
theorem dX11_tilt_21 : decode cX11_tilt 21 = .ok (.ireturn, 1) := by decide +kernel
theorem dX11_tilt_22 : decode cX11_tilt 22 = .ok (.aload_n 0, 1) := by decide +kernel
theorem dX11_tilt_23 : decode cX11_tilt 23 = .ok (.iload_n 1, 1) := by decide +kernel
theorem dX11_tilt_24 : decode cX11_tilt 24 = .ok (.iconst 2, 1) := by decide +kernel
theorem dX11_tilt_25 : decode cX11_tilt 25 = .ok (.invokevirtual 167, 3) := by decide +kernel
theorem dX11_tilt_28 : decode cX11_tilt 28 = .ok (.ifCond .ne 6, 3) := by decide +kernel
theorem dX11_tilt_31 : decode cX11_tilt 31 = .ok (.ldc 141, 2) := by decide +kernel
theorem dX11_tilt_33 : decode cX11_tilt 33 = .ok (.ireturn, 1) := by decide +kernel
theorem dX11_tilt_34 : decode cX11_tilt 34 = .ok (.aload_n 0, 1) := by decide +kernel
theorem dX11_tilt_35 : decode cX11_tilt 35 = .ok (.iload_n 1, 1) := by decide +kernel
theorem dX11_tilt_36 : decode cX11_tilt 36 = .ok (.iconst 5, 1) := by decide +kernel
theorem dX11_tilt_37 : decode cX11_tilt 37 = .ok (.invokevirtual 137, 3) := by decide +kernel
theorem dX11_tilt_40 : decode cX11_tilt 40 = .ok (.istore_n 3, 1) := by decide +kernel
theorem dX11_tilt_41 : decode cX11_tilt 41 = .ok (.aload_n 0, 1) := by decide +kernel
theorem dX11_tilt_42 : decode cX11_tilt 42 = .ok (.iload_n 1, 1) := by decide +kernel
theorem dX11_tilt_43 : decode cX11_tilt 43 = .ok (.invokevirtual 153, 3) := by decide +kernel
theorem dX11_tilt_46 : decode cX11_tilt 46 = .ok (.aload_n 0, 1) := by decide +kernel
theorem dX11_tilt_47 : decode cX11_tilt 47 = .ok (.iload_n 1, 1) := by decide +kernel
theorem dX11_tilt_48 : decode cX11_tilt 48 = .ok (.iconst 5, 1) := by decide +kernel
theorem dX11_tilt_49 : decode cX11_tilt 49 = .ok (.iload_n 2, 1) := by decide +kernel
theorem dX11_tilt_50 : decode cX11_tilt 50 = .ok (.invokevirtual 157, 3) := by decide +kernel
theorem dX11_tilt_53 : decode cX11_tilt 53 = .ok (.iload_n 3, 1) := by decide +kernel
theorem dX11_tilt_54 : decode cX11_tilt 54 = .ok (.ireturn, 1) := by decide +kernel
set_option maxRecDepth 20000 in
theorem ggX11_left_X11_isPlace : GoodIn wsX11_left wsX11_isPlace := goodIn_r _ [7, 8, 9, 10, 6, 11] (by decide +kernel) (by decide +kernel)
set_option maxRecDepth 20000 in
theorem gX11_left_X11_isPlace : GoodIn wsX11_left (va_wsS RX11 142 yX11_isPlace wsX11_isPlace) := goodIn_app (goodIn_of _ (by decide +kernel)) ggX11_left_X11_isPlace
set_option maxRecDepth 20000 in
theorem ggX11_left_X11_isIn : GoodIn wsX11_left wsX11_isIn := goodIn_r _ [11] (by decide +kernel) (by decide +kernel)
set_option maxRecDepth 20000 in
theorem gX11_left_X11_isIn : GoodIn wsX11_left (va_wsS RX11 69 yX11_isIn wsX11_isIn) := goodIn_app (goodIn_of _ (by decide +kernel)) ggX11_left_X11_isIn
set_option maxRecDepth 20000 in
theorem ggX11_left_X11_isOfKind : GoodIn wsX11_left wsX11_isOfKind := goodIn_r _ [15, 16, 17, 18, 6, 19, 20, 32, 33, 34, 35, 36, 37, 38, 39, 40, 41, 42, 43, 44, 45, 46, 47, 48, 49, 50, 51, 52, 53, 54] (by decide +kernel) (by decide +kernel)
set_option maxRecDepth 20000 in
theorem gX11_left_X11_isOfKind : GoodIn wsX11_left (wsV RX11 167 RX11 yX11_isOfKind wsX11_isOfKind) := goodIn_app (goodIn_of _ (by decide +kernel)) ggX11_left_X11_isOfKind
set_option maxRecDepth 20000 in
theorem ggX11_left_X11_get : GoodIn wsX11_left wsX11_get := goodIn_r _ [19, 20, 32, 33, 34, 35, 36, 37, 38, 39, 40, 41, 42, 43, 44, 45, 46, 47, 48, 49, 50, 51, 52, 53, 54] (by decide +kernel) (by decide +kernel)
set_option maxRecDepth 20000 in
theorem gX11_left_X11_get : GoodIn wsX11_left (wsV RX11 137 RX11 yX11_get wsX11_get) := goodIn_app (goodIn_of _ (by decide +kernel)) ggX11_left_X11_get
set_option maxRecDepth 20000 in
theorem ggX11_left_X11_keep : GoodIn wsX11_left wsX11_keep := goodIn_r _ [24, 25, 26, 27, 20, 32, 33, 34, 35, 36, 37, 38, 39, 40, 41, 42, 43, 44, 45, 46, 47, 48, 49, 50, 51, 52, 53, 54] (by decide +kernel) (by decide +kernel)
set_option maxRecDepth 20000 in
theorem gX11_left_X11_keep : GoodIn wsX11_left (wsV RX11 153 RX11 yX11_keep wsX11_keep) := goodIn_app (goodIn_of _ (by decide +kernel)) ggX11_left_X11_keep
set_option maxRecDepth 20000 in
theorem ggX11_left_X11_put : GoodIn wsX11_left wsX11_put := goodIn_r _ [31, 20, 32, 33, 34, 35, 36, 37, 38, 39, 40, 41, 42, 43, 44, 45, 46, 47, 48, 49, 50, 51, 52, 53, 54] (by decide +kernel) (by decide +kernel)
set_option maxRecDepth 20000 in
theorem gX11_left_X11_put : GoodIn wsX11_left (wsV RX11 157 RX11 yX11_put wsX11_put) := goodIn_app (goodIn_of _ (by decide +kernel)) ggX11_left_X11_put
theorem dX11_left_0 : decode cX11_left 0 = .ok (.iload_n 1, 1) := by decide +kernel
theorem dX11_left_1 : decode cX11_left 1 = .ok (.invokestatic 142, 3) := by decide +kernel
theorem dX11_left_4 : decode cX11_left 4 = .ok (.ifCond .eq 25, 3) := by decide +kernel
theorem dX11_left_7 : decode cX11_left 7 = .ok (.iload_n 2, 1) := by decide +kernel
theorem dX11_left_8 : decode cX11_left 8 = .ok (.i2l, 1) := by decide +kernel
theorem dX11_left_9 : decode cX11_left 9 = .ok (.lconst 0, 1) := by decide +kernel
theorem dX11_left_10 : decode cX11_left 10 = .ok (.ldc2_w 170, 3) := by decide +kernel
theorem dX11_left_13 : decode cX11_left 13 = .ok (.invokestatic 69, 3) := by decide +kernel
theorem dX11_left_16 : decode cX11_left 16 = .ok (.ifCond .eq 13, 3) := by decide +kernel
theorem dX11_left_19 : decode cX11_left 19 = .ok (.iload_n 3, 1) := by decide +kernel
theorem dX11_left_20 : decode cX11_left 20 = .ok (.i2l, 1) := by decide +kernel
theorem dX11_left_21 : decode cX11_left 21 = .ok (.lconst 0, 1) := by decide +kernel
theorem dX11_left_22 : decode cX11_left 22 = .ok (.lconst 1, 1) := by decide +kernel
theorem dX11_left_23 : decode cX11_left 23 = .ok (.invokestatic 69, 3) := by decide +kernel
theorem dX11_left_26 : decode cX11_left 26 = .ok (.ifCond .ne 6, 3) := by decide +kernel
theorem dX11_left_29 : decode cX11_left 29 = .ok (.ldc 73, 2) := by decide +kernel
theorem dX11_left_31 : decode cX11_left 31 = .ok (.ireturn, 1) := by decide +kernel
theorem dX11_left_32 : decode cX11_left 32 = .ok (.aload_n 0, 1) := by decide +kernel
theorem dX11_left_33 : decode cX11_left 33 = .ok (.iload_n 1, 1) := by decide +kernel
theorem dX11_left_34 : decode cX11_left 34 = .ok (.iconst 4, 1) := by decide +kernel
theorem dX11_left_35 : decode cX11_left 35 = .ok (.invokevirtual 167, 3) := by decide +kernel
theorem dX11_left_38 : decode cX11_left 38 = .ok (.ifCond .ne 6, 3) := by decide +kernel
theorem dX11_left_41 : decode cX11_left 41 = .ok (.ldc 141, 2) := by decide +kernel
theorem dX11_left_43 : decode cX11_left 43 = .ok (.ireturn, 1) := by decide +kernel
theorem dX11_left_44 : decode cX11_left 44 = .ok (.aload_n 0, 1) := by decide +kernel
theorem dX11_left_45 : decode cX11_left 45 = .ok (.iload_n 1, 1) := by decide +kernel
theorem dX11_left_46 : decode cX11_left 46 = .ok (.bipush 6, 2) := by decide +kernel
theorem dX11_left_48 : decode cX11_left 48 = .ok (.invokevirtual 137, 3) := by decide +kernel
theorem dX11_left_51 : decode cX11_left 51 = .ok (.iload_n 2, 1) := by decide +kernel
theorem dX11_left_52 : decode cX11_left 52 = .ok (.ishr, 1) := by decide +kernel
theorem dX11_left_53 : decode cX11_left 53 = .ok (.iconst 1, 1) := by decide +kernel
theorem dX11_left_54 : decode cX11_left 54 = .ok (.iand, 1) := by decide +kernel
theorem dX11_left_55 : decode cX11_left 55 = .ok (.istore 4, 2) := by decide +kernel
theorem dX11_left_57 : decode cX11_left 57 = .ok (.aload_n 0, 1) := by decide +kernel
theorem dX11_left_58 : decode cX11_left 58 = .ok (.iload_n 1, 1) := by decide +kernel
theorem dX11_left_59 : decode cX11_left 59 = .ok (.invokevirtual 153, 3) := by decide +kernel
theorem dX11_left_62 : decode cX11_left 62 = .ok (.aload_n 0, 1) := by decide +kernel
theorem dX11_left_63 : decode cX11_left 63 = .ok (.iload_n 1, 1) := by decide +kernel
theorem dX11_left_64 : decode cX11_left 64 = .ok (.bipush 6, 2) := by decide +kernel
theorem dX11_left_66 : decode cX11_left 66 = .ok (.aload_n 0, 1) := by decide +kernel
theorem dX11_left_67 : decode cX11_left 67 = .ok (.iload_n 1, 1) := by decide +kernel
theorem dX11_left_68 : decode cX11_left 68 = .ok (.bipush 6, 2) := by decide +kernel
theorem dX11_left_70 : decode cX11_left 70 = .ok (.invokevirtual 137, 3) := by decide +kernel
theorem dX11_left_73 : decode cX11_left 73 = .ok (.iconst 1, 1) := by decide +kernel
theorem dX11_left_74 : decode cX11_left 74 = .ok (.iload_n 2, 1) := by decide +kernel
theorem dX11_left_75 : decode cX11_left 75 = .ok (.ishl, 1) := by decide +kernel
theorem dX11_left_76 : decode cX11_left 76 = .ok (.iconst (-1), 1) := by decide +kernel
theorem dX11_left_77 : decode cX11_left 77 = .ok (.ixor, 1) := by decide +kernel
theorem dX11_left_78 : decode cX11_left 78 = .ok (.iand, 1) := by decide +kernel
theorem dX11_left_79 : decode cX11_left 79 = .ok (.iload_n 3, 1) := by decide +kernel
theorem dX11_left_80 : decode cX11_left 80 = .ok (.iload_n 2, 1) := by decide +kernel
theorem dX11_left_81 : decode cX11_left 81 = .ok (.ishl, 1) := by decide +kernel
theorem dX11_left_82 : decode cX11_left 82 = .ok (.ior, 1) := by decide +kernel
theorem dX11_left_83 : decode cX11_left 83 = .ok (.invokevirtual 157, 3) := by decide +kernel
theorem dX11_left_86 : decode cX11_left 86 = .ok (.iload 4, 2) := by decide +kernel
theorem dX11_left_88 : decode cX11_left 88 = .ok (.ireturn, 1) := by decide +kernel
set_option maxRecDepth 20000 in
theorem ggX11_holds_X11_isPlace : GoodIn wsX11_holds wsX11_isPlace := goodIn_r _ [5, 6, 7, 8, 4, 9] (by decide +kernel) (by decide +kernel)
set_option maxRecDepth 20000 in
theorem gX11_holds_X11_isPlace : GoodIn wsX11_holds (va_wsS RX11 142 yX11_isPlace wsX11_isPlace) := goodIn_app (goodIn_of _ (by decide +kernel)) ggX11_holds_X11_isPlace
set_option maxRecDepth 20000 in
theorem ggX11_holds_X11_get : GoodIn wsX11_holds wsX11_get := goodIn_r _ [13, 14, 15, 16, 17, 18, 19, 20, 21, 22, 23, 24, 25, 26, 27, 28, 29, 30, 31, 32, 33, 34, 35, 36, 37] (by decide +kernel) (by decide +kernel)
set_option maxRecDepth 20000 in
theorem gX11_holds_X11_get : GoodIn wsX11_holds (wsV RX11 137 RX11 yX11_get wsX11_get) := goodIn_app (goodIn_of _ (by decide +kernel)) ggX11_holds_X11_get
theorem dX11_holds_0 : decode cX11_holds 0 = .ok (.iload_n 1, 1) := by decide +kernel
theorem dX11_holds_1 : decode cX11_holds 1 = .ok (.invokestatic 142, 3) := by decide +kernel
theorem dX11_holds_4 : decode cX11_holds 4 = .ok (.ifCond .eq 12, 3) := by decide +kernel
theorem dX11_holds_7 : decode cX11_holds 7 = .ok (.aload_n 0, 1) := by decide +kernel
theorem dX11_holds_8 : decode cX11_holds 8 = .ok (.iload_n 1, 1) := by decide +kernel
theorem dX11_holds_9 : decode cX11_holds 9 = .ok (.iconst 0, 1) := by decide +kernel
theorem dX11_holds_10 : decode cX11_holds 10 = .ok (.invokevirtual 137, 3) := by decide +kernel
theorem dX11_holds_13 : decode cX11_holds 13 = .ok (.goto 5, 3) := by decide +kernel
theorem dX11_holds_16 : decode cX11_holds 16 = .ok (.ldc 73, 2) := by decide +kernel
theorem dX11_holds_18 : decode cX11_holds 18 = .ok (.ireturn, 1) := by decide +kernel
set_option maxRecDepth 20000 in
theorem ggX11_isOf_X11_isPlace : GoodIn wsX11_isOf wsX11_isPlace := goodIn_r _ [6, 7, 8, 9, 5, 10] (by decide +kernel) (by decide +kernel)
set_option maxRecDepth 20000 in
theorem gX11_isOf_X11_isPlace : GoodIn wsX11_isOf (va_wsS RX11 142 yX11_isPlace wsX11_isPlace) := goodIn_app (goodIn_of _ (by decide +kernel)) ggX11_isOf_X11_isPlace
set_option maxRecDepth 20000 in
theorem ggX11_isOf_X11_isIn : GoodIn wsX11_isOf wsX11_isIn := goodIn_r _ [10] (by decide +kernel) (by decide +kernel)
set_option maxRecDepth 20000 in
theorem gX11_isOf_X11_isIn : GoodIn wsX11_isOf (va_wsS RX11 69 yX11_isIn wsX11_isIn) := goodIn_app (goodIn_of _ (by decide +kernel)) ggX11_isOf_X11_isIn
set_option maxRecDepth 20000 in
theorem ggX11_isOf_X11_isOfKind : GoodIn wsX11_isOf wsX11_isOfKind := goodIn_r _ [14, 15, 16, 17, 5, 18, 19, 20, 21, 22, 23, 24, 25, 26, 27, 28, 29, 30, 31, 32, 33, 34, 35, 36, 37, 38, 39, 40, 41, 42] (by decide +kernel) (by decide +kernel)
set_option maxRecDepth 20000 in
theorem gX11_isOf_X11_isOfKind : GoodIn wsX11_isOf (wsV RX11 167 RX11 yX11_isOfKind wsX11_isOfKind) := goodIn_app (goodIn_of _ (by decide +kernel)) ggX11_isOf_X11_isOfKind
theorem dX11_isOf_0 : decode cX11_isOf 0 = .ok (.iload_n 1, 1) := by decide +kernel
theorem dX11_isOf_1 : decode cX11_isOf 1 = .ok (.invokestatic 142, 3) := by decide +kernel
theorem dX11_isOf_4 : decode cX11_isOf 4 = .ok (.ifCond .eq 15, 3) := by decide +kernel
theorem dX11_isOf_7 : decode cX11_isOf 7 = .ok (.iload_n 2, 1) := by decide +kernel
theorem dX11_isOf_8 : decode cX11_isOf 8 = .ok (.i2l, 1) := by decide +kernel
theorem dX11_isOf_9 : decode cX11_isOf 9 = .ok (.lconst 0, 1) := by decide +kernel
theorem dX11_isOf_10 : decode cX11_isOf 10 = .ok (.ldc2_w 146, 3) := by decide +kernel
theorem dX11_isOf_13 : decode cX11_isOf 13 = .ok (.invokestatic 69, 3) := by decide +kernel
theorem dX11_isOf_16 : decode cX11_isOf 16 = .ok (.ifCond .ne 6, 3) := by decide +kernel
theorem dX11_isOf_19 : decode cX11_isOf 19 = .ok (.ldc 73, 2) := by decide +kernel
theorem dX11_isOf_21 : decode cX11_isOf 21 = .ok (.ireturn, 1) := by decide +kernel
theorem dX11_isOf_22 : decode cX11_isOf 22 = .ok (.aload_n 0, 1) := by decide +kernel
theorem dX11_isOf_23 : decode cX11_isOf 23 = .ok (.iload_n 1, 1) := by decide +kernel
theorem dX11_isOf_24 : decode cX11_isOf 24 = .ok (.iload_n 2, 1) := by decide +kernel
theorem dX11_isOf_25 : decode cX11_isOf 25 = .ok (.invokevirtual 167, 3) := by decide +kernel
theorem dX11_isOf_28 : decode cX11_isOf 28 = .ok (.ifCond .eq 7, 3) := by decide +kernel
theorem dX11_isOf_31 : decode cX11_isOf 31 = .ok (.iconst 1, 1) := by decide +kernel
theorem dX11_isOf_32 : decode cX11_isOf 32 = .ok (.goto 4, 3) := by decide +kernel
theorem dX11_isOf_35 : decode cX11_isOf 35 = .ok (.iconst 0, 1) := by decide +kernel
theorem dX11_isOf_36 : decode cX11_isOf 36 = .ok (.ireturn, 1) := by decide +kernel
set_option maxRecDepth 20000 in
theorem ggX11_leftMany_X11_get : GoodIn wsX11_leftMany wsX11_get := goodIn_r _ [5, 6, 7, 8, 9, 10, 11, 12, 13, 14, 15, 16, 17, 18, 19, 20, 21, 22, 23, 24, 25, 26, 27, 28, 29] (by decide +kernel) (by decide +kernel)
set_option maxRecDepth 20000 in
theorem gX11_leftMany_X11_get : GoodIn wsX11_leftMany (wsV RX11 137 RX11 yX11_get wsX11_get) := goodIn_app (goodIn_of _ (by decide +kernel)) ggX11_leftMany_X11_get
theorem dX11_leftMany_0 : decode cX11_leftMany 0 = .ok (.iconst 0, 1) := by decide +kernel
theorem dX11_leftMany_1 : decode cX11_leftMany 1 = .ok (.istore_n 2, 1) := by decide +kernel
theorem dX11_leftMany_2 : decode cX11_leftMany 2 = .ok (.iconst 0, 1) := by decide +kernel
theorem dX11_leftMany_3 : decode cX11_leftMany 3 = .ok (.istore_n 3, 1) := by decide +kernel
theorem dX11_leftMany_4 : decode cX11_leftMany 4 = .ok (.iload_n 3, 1) := by decide +kernel
theorem dX11_leftMany_5 : decode cX11_leftMany 5 = .ok (.bipush 24, 2) := by decide +kernel
theorem dX11_leftMany_7 : decode cX11_leftMany 7 = .ok (.if_icmp .ge 23, 3) := by decide +kernel
theorem dX11_leftMany_10 : decode cX11_leftMany 10 = .ok (.iload_n 2, 1) := by decide +kernel
theorem dX11_leftMany_11 : decode cX11_leftMany 11 = .ok (.aload_n 0, 1) := by decide +kernel
theorem dX11_leftMany_12 : decode cX11_leftMany 12 = .ok (.iload_n 1, 1) := by decide +kernel
theorem dX11_leftMany_13 : decode cX11_leftMany 13 = .ok (.bipush 6, 2) := by decide +kernel
theorem dX11_leftMany_15 : decode cX11_leftMany 15 = .ok (.invokevirtual 137, 3) := by decide +kernel
theorem dX11_leftMany_18 : decode cX11_leftMany 18 = .ok (.iload_n 3, 1) := by decide +kernel
theorem dX11_leftMany_19 : decode cX11_leftMany 19 = .ok (.ishr, 1) := by decide +kernel
theorem dX11_leftMany_20 : decode cX11_leftMany 20 = .ok (.iconst 1, 1) := by decide +kernel
theorem dX11_leftMany_21 : decode cX11_leftMany 21 = .ok (.iand, 1) := by decide +kernel
theorem dX11_leftMany_22 : decode cX11_leftMany 22 = .ok (.iadd, 1) := by decide +kernel
theorem dX11_leftMany_23 : decode cX11_leftMany 23 = .ok (.istore_n 2, 1) := by decide +kernel
theorem dX11_leftMany_24 : decode cX11_leftMany 24 = .ok (.iinc 3 1, 3) := by decide +kernel
theorem dX11_leftMany_27 : decode cX11_leftMany 27 = .ok (.goto (-23), 3) := by decide +kernel
theorem dX11_leftMany_30 : decode cX11_leftMany 30 = .ok (.iload_n 2, 1) := by decide +kernel
theorem dX11_leftMany_31 : decode cX11_leftMany 31 = .ok (.ireturn, 1) := by decide +kernel
set_option maxRecDepth 20000 in
theorem ggX11_about_X11_isPlace : GoodIn wsX11_about wsX11_isPlace := goodIn_r _ [8, 9, 10, 11, 7, 12] (by decide +kernel) (by decide +kernel)
set_option maxRecDepth 20000 in
theorem gX11_about_X11_isPlace : GoodIn wsX11_about (va_wsS RX11 142 yX11_isPlace wsX11_isPlace) := goodIn_app (goodIn_of _ (by decide +kernel)) ggX11_about_X11_isPlace
set_option maxRecDepth 20000 in
theorem ggX11_about_X11_isIn : GoodIn wsX11_about wsX11_isIn := goodIn_r _ [12] (by decide +kernel) (by decide +kernel)
set_option maxRecDepth 20000 in
theorem gX11_about_X11_isIn : GoodIn wsX11_about (va_wsS RX11 69 yX11_isIn wsX11_isIn) := goodIn_app (goodIn_of _ (by decide +kernel)) ggX11_about_X11_isIn
set_option maxRecDepth 20000 in
theorem ggX11_about_X11_get : GoodIn wsX11_about wsX11_get := goodIn_r _ [16, 17, 30, 31, 32, 33, 34, 35, 36, 37, 38, 39, 40, 41, 42, 43, 44, 45, 46, 47, 48, 49, 50, 51, 52] (by decide +kernel) (by decide +kernel)
set_option maxRecDepth 20000 in
theorem gX11_about_X11_get : GoodIn wsX11_about (wsV RX11 137 RX11 yX11_get wsX11_get) := goodIn_app (goodIn_of _ (by decide +kernel)) ggX11_about_X11_get
set_option maxRecDepth 20000 in
theorem ggX11_about_X11_isDial : GoodIn wsX11_about wsX11_isDial := goodIn_r _ [21, 13, 14, 15, 7, 16, 17, 30, 31, 32, 33, 34, 35, 36, 37, 38, 39, 40, 41, 42, 43, 44, 45, 46, 47, 48, 49, 50, 51, 52] (by decide +kernel) (by decide +kernel)
set_option maxRecDepth 20000 in
theorem gX11_about_X11_isDial : GoodIn wsX11_about (wsV RX11 164 RX11 yX11_isDial wsX11_isDial) := goodIn_app (goodIn_of _ (by decide +kernel)) ggX11_about_X11_isDial
set_option maxRecDepth 20000 in
theorem ggX11_about_X11_isOfKind : GoodIn wsX11_about wsX11_isOfKind := goodIn_r _ [25, 13, 14, 15, 7, 16, 17, 30, 31, 32, 33, 34, 35, 36, 37, 38, 39, 40, 41, 42, 43, 44, 45, 46, 47, 48, 49, 50, 51, 52] (by decide +kernel) (by decide +kernel)
set_option maxRecDepth 20000 in
theorem gX11_about_X11_isOfKind : GoodIn wsX11_about (wsV RX11 167 RX11 yX11_isOfKind wsX11_isOfKind) := goodIn_app (goodIn_of _ (by decide +kernel)) ggX11_about_X11_isOfKind
set_option maxRecDepth 20000 in
theorem ggX11_about_X11_leftMany : GoodIn wsX11_about wsX11_leftMany := goodIn_r _ [29, 13, 14, 15, 7, 16, 17, 30, 31, 32, 33, 34, 35, 36, 37, 38, 39, 40, 41, 42, 43, 44, 45, 46, 47, 48, 49, 50, 51, 52] (by decide +kernel) (by decide +kernel)
set_option maxRecDepth 20000 in
theorem gX11_about_X11_leftMany : GoodIn wsX11_about (wsV RX11 173 RX11 yX11_leftMany wsX11_leftMany) := goodIn_app (goodIn_of _ (by decide +kernel)) ggX11_about_X11_leftMany
theorem dX11_about_0 : decode cX11_about 0 = .ok (.iload_n 1, 1) := by decide +kernel
theorem dX11_about_1 : decode cX11_about 1 = .ok (.invokestatic 142, 3) := by decide +kernel
theorem dX11_about_4 : decode cX11_about 4 = .ok (.ifCond .eq 15, 3) := by decide +kernel
theorem dX11_about_7 : decode cX11_about 7 = .ok (.iload_n 2, 1) := by decide +kernel
theorem dX11_about_8 : decode cX11_about 8 = .ok (.i2l, 1) := by decide +kernel
theorem dX11_about_9 : decode cX11_about 9 = .ok (.lconst 0, 1) := by decide +kernel
theorem dX11_about_10 : decode cX11_about 10 = .ok (.ldc2_w 125, 3) := by decide +kernel
theorem dX11_about_13 : decode cX11_about 13 = .ok (.invokestatic 69, 3) := by decide +kernel
theorem dX11_about_16 : decode cX11_about 16 = .ok (.ifCond .ne 6, 3) := by decide +kernel
theorem dX11_about_19 : decode cX11_about 19 = .ok (.ldc 73, 2) := by decide +kernel
theorem dX11_about_21 : decode cX11_about 21 = .ok (.ireturn, 1) := by decide +kernel
theorem dX11_about_22 : decode cX11_about 22 = .ok (.aload_n 0, 1) := by decide +kernel
theorem dX11_about_23 : decode cX11_about 23 = .ok (.iload_n 1, 1) := by decide +kernel
theorem dX11_about_24 : decode cX11_about 24 = .ok (.iconst 0, 1) := by decide +kernel
theorem dX11_about_25 : decode cX11_about 25 = .ok (.invokevirtual 137, 3) := by decide +kernel
theorem dX11_about_28 : decode cX11_about 28 = .ok (.ifCond .ne 6, 3) := by decide +kernel
theorem dX11_about_31 : decode cX11_about 31 = .ok (.ldc 141, 2) := by decide +kernel
theorem dX11_about_33 : decode cX11_about 33 = .ok (.ireturn, 1) := by decide +kernel
theorem dX11_about_34 : decode cX11_about 34 = .ok (.aload_n 0, 1) := by decide +kernel
theorem dX11_about_35 : decode cX11_about 35 = .ok (.iload_n 1, 1) := by decide +kernel
theorem dX11_about_36 : decode cX11_about 36 = .ok (.invokevirtual 164, 3) := by decide +kernel
theorem dX11_about_39 : decode cX11_about 39 = .ok (.ifCond .ne 22, 3) := by decide +kernel
theorem dX11_about_42 : decode cX11_about 42 = .ok (.iload_n 2, 1) := by decide +kernel
theorem dX11_about_43 : decode cX11_about 43 = .ok (.iconst 5, 1) := by decide +kernel
theorem dX11_about_44 : decode cX11_about 44 = .ok (.if_icmp .ne 8, 3) := by decide +kernel
theorem dX11_about_47 : decode cX11_about 47 = .ok (.ldc 172, 2) := by decide +kernel
theorem dX11_about_49 : decode cX11_about 49 = .ok (.goto 11, 3) := by decide +kernel
theorem dX11_about_52 : decode cX11_about 52 = .ok (.aload_n 0, 1) := by decide +kernel
theorem dX11_about_53 : decode cX11_about 53 = .ok (.iload_n 1, 1) := by decide +kernel
theorem dX11_about_54 : decode cX11_about 54 = .ok (.iconst 1, 1) := by decide +kernel
theorem dX11_about_55 : decode cX11_about 55 = .ok (.iload_n 2, 1) := by decide +kernel
theorem dX11_about_56 : decode cX11_about 56 = .ok (.iadd, 1) := by decide +kernel
theorem dX11_about_57 : decode cX11_about 57 = .ok (.invokevirtual 137, 3) := by decide +kernel
theorem dX11_about_60 : decode cX11_about 60 = .ok (.ireturn, 1) := by decide +kernel
theorem dX11_about_61 : decode cX11_about 61 = .ok (.iload_n 2, 1) := by decide +kernel
theorem dX11_about_62 : decode cX11_about 62 = .ok (.iconst 3, 1) := by decide +kernel
theorem dX11_about_63 : decode cX11_about 63 = .ok (.if_icmp .ge 12, 3) := by decide +kernel
theorem dX11_about_66 : decode cX11_about 66 = .ok (.aload_n 0, 1) := by decide +kernel
theorem dX11_about_67 : decode cX11_about 67 = .ok (.iload_n 1, 1) := by decide +kernel
theorem dX11_about_68 : decode cX11_about 68 = .ok (.iconst 1, 1) := by decide +kernel
theorem dX11_about_69 : decode cX11_about 69 = .ok (.iload_n 2, 1) := by decide +kernel
theorem dX11_about_70 : decode cX11_about 70 = .ok (.iadd, 1) := by decide +kernel
theorem dX11_about_71 : decode cX11_about 71 = .ok (.invokevirtual 137, 3) := by decide +kernel
theorem dX11_about_74 : decode cX11_about 74 = .ok (.ireturn, 1) := by decide +kernel
theorem dX11_about_75 : decode cX11_about 75 = .ok (.iload_n 2, 1) := by decide +kernel
theorem dX11_about_76 : decode cX11_about 76 = .ok (.iconst 3, 1) := by decide +kernel
theorem dX11_about_77 : decode cX11_about 77 = .ok (.if_icmp .ne 24, 3) := by decide +kernel
theorem dX11_about_80 : decode cX11_about 80 = .ok (.aload_n 0, 1) := by decide +kernel
theorem dX11_about_81 : decode cX11_about 81 = .ok (.iload_n 1, 1) := by decide +kernel
theorem dX11_about_82 : decode cX11_about 82 = .ok (.iconst 1, 1) := by decide +kernel
theorem dX11_about_83 : decode cX11_about 83 = .ok (.invokevirtual 167, 3) := by decide +kernel
theorem dX11_about_86 : decode cX11_about 86 = .ok (.ifCond .eq 12, 3) := by decide +kernel
theorem dX11_about_89 : decode cX11_about 89 = .ok (.aload_n 0, 1) := by decide +kernel
theorem dX11_about_90 : decode cX11_about 90 = .ok (.iload_n 1, 1) := by decide +kernel
theorem dX11_about_91 : decode cX11_about 91 = .ok (.iconst 4, 1) := by decide +kernel
theorem dX11_about_92 : decode cX11_about 92 = .ok (.invokevirtual 137, 3) := by decide +kernel
theorem dX11_about_95 : decode cX11_about 95 = .ok (.goto 5, 3) := by decide +kernel
theorem dX11_about_98 : decode cX11_about 98 = .ok (.ldc 172, 2) := by decide +kernel
theorem dX11_about_100 : decode cX11_about 100 = .ok (.ireturn, 1) := by decide +kernel
theorem dX11_about_101 : decode cX11_about 101 = .ok (.iload_n 2, 1) := by decide +kernel
theorem dX11_about_102 : decode cX11_about 102 = .ok (.iconst 4, 1) := by decide +kernel
theorem dX11_about_103 : decode cX11_about 103 = .ok (.if_icmp .ne 24, 3) := by decide +kernel
theorem dX11_about_106 : decode cX11_about 106 = .ok (.aload_n 0, 1) := by decide +kernel
theorem dX11_about_107 : decode cX11_about 107 = .ok (.iload_n 1, 1) := by decide +kernel
theorem dX11_about_108 : decode cX11_about 108 = .ok (.iconst 2, 1) := by decide +kernel
theorem dX11_about_109 : decode cX11_about 109 = .ok (.invokevirtual 167, 3) := by decide +kernel
theorem dX11_about_112 : decode cX11_about 112 = .ok (.ifCond .eq 12, 3) := by decide +kernel
theorem dX11_about_115 : decode cX11_about 115 = .ok (.aload_n 0, 1) := by decide +kernel
theorem dX11_about_116 : decode cX11_about 116 = .ok (.iload_n 1, 1) := by decide +kernel
theorem dX11_about_117 : decode cX11_about 117 = .ok (.iconst 5, 1) := by decide +kernel
theorem dX11_about_118 : decode cX11_about 118 = .ok (.invokevirtual 137, 3) := by decide +kernel
theorem dX11_about_121 : decode cX11_about 121 = .ok (.goto 5, 3) := by decide +kernel
theorem dX11_about_124 : decode cX11_about 124 = .ok (.ldc 172, 2) := by decide +kernel
theorem dX11_about_126 : decode cX11_about 126 = .ok (.ireturn, 1) := by decide +kernel
theorem dX11_about_127 : decode cX11_about 127 = .ok (.aload_n 0, 1) := by decide +kernel
theorem dX11_about_128 : decode cX11_about 128 = .ok (.iload_n 1, 1) := by decide +kernel
theorem dX11_about_129 : decode cX11_about 129 = .ok (.iconst 4, 1) := by decide +kernel
theorem dX11_about_130 : decode cX11_about 130 = .ok (.invokevirtual 167, 3) := by decide +kernel
theorem dX11_about_133 : decode cX11_about 133 = .ok (.ifCond .eq 11, 3) := by decide +kernel
theorem dX11_about_136 : decode cX11_about 136 = .ok (.aload_n 0, 1) := by decide +kernel
theorem dX11_about_137 : decode cX11_about 137 = .ok (.iload_n 1, 1) := by decide +kernel
theorem dX11_about_138 : decode cX11_about 138 = .ok (.invokevirtual 173, 3) := by decide +kernel
theorem dX11_about_141 : decode cX11_about 141 = .ok (.goto 5, 3) := by decide +kernel
theorem dX11_about_144 : decode cX11_about 144 = .ok (.ldc 172, 2) := by decide +kernel
theorem dX11_about_146 : decode cX11_about 146 = .ok (.ireturn, 1) := by decide +kernel
theorem dX11_by_0 : decode cX11_by 0 = .ok (.aload_n 0, 1) := by decide +kernel
theorem dX11_by_1 : decode cX11_by 1 = .ok (.getfield 111, 3) := by decide +kernel
theorem dX11_by_4 : decode cX11_by 4 = .ok (.lload_n 1, 1) := by decide +kernel
theorem dX11_by_5 : decode cX11_by 5 = .ok (.lmul, 1) := by decide +kernel
theorem dX11_by_6 : decode cX11_by 6 = .ok (.aload_n 0, 1) := by decide +kernel
theorem dX11_by_7 : decode cX11_by 7 = .ok (.getfield 115, 3) := by decide +kernel
theorem dX11_by_10 : decode cX11_by 10 = .ok (.lload_n 3, 1) := by decide +kernel
theorem dX11_by_11 : decode cX11_by 11 = .ok (.lmul, 1) := by decide +kernel
theorem dX11_by_12 : decode cX11_by 12 = .ok (.ladd, 1) := by decide +kernel
theorem dX11_by_13 : decode cX11_by 13 = .ok (.aload_n 0, 1) := by decide +kernel
theorem dX11_by_14 : decode cX11_by 14 = .ok (.getfield 118, 3) := by decide +kernel
theorem dX11_by_17 : decode cX11_by 17 = .ok (.lload 5, 2) := by decide +kernel
theorem dX11_by_19 : decode cX11_by 19 = .ok (.lmul, 1) := by decide +kernel
theorem dX11_by_20 : decode cX11_by 20 = .ok (.ladd, 1) := by decide +kernel
theorem dX11_by_21 : decode cX11_by 21 = .ok (.lreturn, 1) := by decide +kernel
set_option maxRecDepth 20000 in
theorem ggX11_sunBy_X11_isOfKind : GoodIn wsX11_sunBy wsX11_isOfKind := goodIn_r _ [6, 7, 8, 9, 5, 10, 11, 35, 36, 37, 38, 39, 40, 41, 42, 43, 44, 45, 46, 47, 48, 49, 50, 51, 52, 53, 54, 55, 56, 57] (by decide +kernel) (by decide +kernel)
set_option maxRecDepth 20000 in
theorem gX11_sunBy_X11_isOfKind : GoodIn wsX11_sunBy (wsV RX11 167 RX11 yX11_isOfKind wsX11_isOfKind) := goodIn_app (goodIn_of _ (by decide +kernel)) ggX11_sunBy_X11_isOfKind
set_option maxRecDepth 20000 in
theorem ggX11_sunBy_X11_by : GoodIn wsX11_sunBy wsX11_by := goodIn_r _ [15, 16, 17, 18, 35, 36, 37, 38, 39, 40, 41, 42, 43, 44, 45, 46, 47, 48, 49, 50, 51, 52, 53, 54, 55, 56, 57] (by decide +kernel) (by decide +kernel)
set_option maxRecDepth 20000 in
theorem gX11_sunBy_X11_by : GoodIn wsX11_sunBy (wsV RX11 176 RX11 yX11_by wsX11_by) := goodIn_app (goodIn_of _ (by decide +kernel)) ggX11_sunBy_X11_by
set_option maxRecDepth 20000 in
theorem ggX11_sunBy_X11_sineOf : GoodIn wsX11_sunBy wsX11_sineOf := goodIn_r _ [21, 22, 23, 24, 25] (by decide +kernel) (by decide +kernel)
set_option maxRecDepth 20000 in
theorem gX11_sunBy_X11_sineOf : GoodIn wsX11_sunBy (va_wsS RX11 59 yX11_sineOf wsX11_sineOf) := goodIn_app (goodIn_of _ (by decide +kernel)) ggX11_sunBy_X11_sineOf
set_option maxRecDepth 20000 in
theorem ggX11_sunBy_X11_cosineOf : GoodIn wsX11_sunBy wsX11_cosineOf := goodIn_r _ [28, 1, 19, 20, 5, 21, 22, 23, 24, 25] (by decide +kernel) (by decide +kernel)
set_option maxRecDepth 20000 in
theorem gX11_sunBy_X11_cosineOf : GoodIn wsX11_sunBy (va_wsS RX11 108 yX11_cosineOf wsX11_cosineOf) := goodIn_app (goodIn_of _ (by decide +kernel)) ggX11_sunBy_X11_cosineOf
set_option maxRecDepth 20000 in
theorem ggX11_sunBy_X11_get : GoodIn wsX11_sunBy wsX11_get := goodIn_r _ [10, 11, 35, 36, 37, 38, 39, 40, 41, 42, 43, 44, 45, 46, 47, 48, 49, 50, 51, 52, 53, 54, 55, 56, 57] (by decide +kernel) (by decide +kernel)
set_option maxRecDepth 20000 in
theorem gX11_sunBy_X11_get : GoodIn wsX11_sunBy (wsV RX11 137 RX11 yX11_get wsX11_get) := goodIn_app (goodIn_of _ (by decide +kernel)) ggX11_sunBy_X11_get
set_option maxRecDepth 20000 in
theorem ggX11_sunBy_X11_times : GoodIn wsX11_sunBy wsX11_times := goodIn_r _ [31, 1, 32, 33, 5, 34] (by decide +kernel) (by decide +kernel)
set_option maxRecDepth 20000 in
theorem gX11_sunBy_X11_times : GoodIn wsX11_sunBy (va_wsS RX11 89 yX11_times wsX11_times) := goodIn_app (goodIn_of _ (by decide +kernel)) ggX11_sunBy_X11_times
theorem dX11_sunBy_0 : decode cX11_sunBy 0 = .ok (.aload_n 0, 1) := by decide +kernel
theorem dX11_sunBy_1 : decode cX11_sunBy 1 = .ok (.iload_n 1, 1) := by decide +kernel
theorem dX11_sunBy_2 : decode cX11_sunBy 2 = .ok (.iconst 1, 1) := by decide +kernel
theorem dX11_sunBy_3 : decode cX11_sunBy 3 = .ok (.invokevirtual 167, 3) := by decide +kernel
theorem dX11_sunBy_6 : decode cX11_sunBy 6 = .ok (.ifCond .ne 48, 3) := by decide +kernel
theorem dX11_sunBy_9 : decode cX11_sunBy 9 = .ok (.iload 4, 2) := by decide +kernel
theorem dX11_sunBy_11 : decode cX11_sunBy 11 = .ok (.ifCond .ne 15, 3) := by decide +kernel
theorem dX11_sunBy_14 : decode cX11_sunBy 14 = .ok (.aload_n 0, 1) := by decide +kernel
theorem dX11_sunBy_15 : decode cX11_sunBy 15 = .ok (.lconst 0, 1) := by decide +kernel
theorem dX11_sunBy_16 : decode cX11_sunBy 16 = .ok (.lconst 0, 1) := by decide +kernel
theorem dX11_sunBy_17 : decode cX11_sunBy 17 = .ok (.ldc2_w 57, 3) := by decide +kernel
theorem dX11_sunBy_20 : decode cX11_sunBy 20 = .ok (.invokevirtual 176, 3) := by decide +kernel
theorem dX11_sunBy_23 : decode cX11_sunBy 23 = .ok (.goto 30, 3) := by decide +kernel
theorem dX11_sunBy_26 : decode cX11_sunBy 26 = .ok (.iload 4, 2) := by decide +kernel
theorem dX11_sunBy_28 : decode cX11_sunBy 28 = .ok (.iconst 1, 1) := by decide +kernel
theorem dX11_sunBy_29 : decode cX11_sunBy 29 = .ok (.if_icmp .ne 15, 3) := by decide +kernel
theorem dX11_sunBy_32 : decode cX11_sunBy 32 = .ok (.aload_n 0, 1) := by decide +kernel
theorem dX11_sunBy_33 : decode cX11_sunBy 33 = .ok (.ldc2_w 57, 3) := by decide +kernel
theorem dX11_sunBy_36 : decode cX11_sunBy 36 = .ok (.lconst 0, 1) := by decide +kernel
theorem dX11_sunBy_37 : decode cX11_sunBy 37 = .ok (.lconst 0, 1) := by decide +kernel
theorem dX11_sunBy_38 : decode cX11_sunBy 38 = .ok (.invokevirtual 176, 3) := by decide +kernel
theorem dX11_sunBy_41 : decode cX11_sunBy 41 = .ok (.goto 12, 3) := by decide +kernel
theorem dX11_sunBy_44 : decode cX11_sunBy 44 = .ok (.aload_n 0, 1) := by decide +kernel
theorem dX11_sunBy_45 : decode cX11_sunBy 45 = .ok (.lconst 0, 1) := by decide +kernel
theorem dX11_sunBy_46 : decode cX11_sunBy 46 = .ok (.ldc2_w 57, 3) := by decide +kernel
theorem dX11_sunBy_49 : decode cX11_sunBy 49 = .ok (.lconst 0, 1) := by decide +kernel
theorem dX11_sunBy_50 : decode cX11_sunBy 50 = .ok (.invokevirtual 176, 3) := by decide +kernel
theorem dX11_sunBy_53 : decode cX11_sunBy 53 = .ok (.lreturn, 1) := by decide +kernel
theorem dX11_sunBy_54 : decode cX11_sunBy 54 = .ok (.lload_n 2, 1) := by decide +kernel
theorem dX11_sunBy_55 : decode cX11_sunBy 55 = .ok (.invokestatic 59, 3) := by decide +kernel
theorem dX11_sunBy_58 : decode cX11_sunBy 58 = .ok (.lstore 5, 2) := by decide +kernel
theorem dX11_sunBy_60 : decode cX11_sunBy 60 = .ok (.lload_n 2, 1) := by decide +kernel
theorem dX11_sunBy_61 : decode cX11_sunBy 61 = .ok (.invokestatic 108, 3) := by decide +kernel
theorem dX11_sunBy_64 : decode cX11_sunBy 64 = .ok (.lstore 7, 2) := by decide +kernel
theorem dX11_sunBy_66 : decode cX11_sunBy 66 = .ok (.iload 4, 2) := by decide +kernel
theorem dX11_sunBy_68 : decode cX11_sunBy 68 = .ok (.iconst 1, 1) := by decide +kernel
theorem dX11_sunBy_69 : decode cX11_sunBy 69 = .ok (.if_icmp .ne 14, 3) := by decide +kernel
theorem dX11_sunBy_72 : decode cX11_sunBy 72 = .ok (.aload_n 0, 1) := by decide +kernel
theorem dX11_sunBy_73 : decode cX11_sunBy 73 = .ok (.lload 7, 2) := by decide +kernel
theorem dX11_sunBy_75 : decode cX11_sunBy 75 = .ok (.lload 5, 2) := by decide +kernel
theorem dX11_sunBy_77 : decode cX11_sunBy 77 = .ok (.lneg, 1) := by decide +kernel
theorem dX11_sunBy_78 : decode cX11_sunBy 78 = .ok (.lconst 0, 1) := by decide +kernel
theorem dX11_sunBy_79 : decode cX11_sunBy 79 = .ok (.invokevirtual 176, 3) := by decide +kernel
theorem dX11_sunBy_82 : decode cX11_sunBy 82 = .ok (.lreturn, 1) := by decide +kernel
theorem dX11_sunBy_83 : decode cX11_sunBy 83 = .ok (.aload_n 0, 1) := by decide +kernel
theorem dX11_sunBy_84 : decode cX11_sunBy 84 = .ok (.iload_n 1, 1) := by decide +kernel
theorem dX11_sunBy_85 : decode cX11_sunBy 85 = .ok (.iconst 2, 1) := by decide +kernel
theorem dX11_sunBy_86 : decode cX11_sunBy 86 = .ok (.invokevirtual 167, 3) := by decide +kernel
theorem dX11_sunBy_89 : decode cX11_sunBy 89 = .ok (.ifCond .ne 30, 3) := by decide +kernel
theorem dX11_sunBy_92 : decode cX11_sunBy 92 = .ok (.iload 4, 2) := by decide +kernel
theorem dX11_sunBy_94 : decode cX11_sunBy 94 = .ok (.ifCond .ne 15, 3) := by decide +kernel
theorem dX11_sunBy_97 : decode cX11_sunBy 97 = .ok (.aload_n 0, 1) := by decide +kernel
theorem dX11_sunBy_98 : decode cX11_sunBy 98 = .ok (.lload 5, 2) := by decide +kernel
theorem dX11_sunBy_100 : decode cX11_sunBy 100 = .ok (.lload 7, 2) := by decide +kernel
theorem dX11_sunBy_102 : decode cX11_sunBy 102 = .ok (.lconst 0, 1) := by decide +kernel
theorem dX11_sunBy_103 : decode cX11_sunBy 103 = .ok (.invokevirtual 176, 3) := by decide +kernel
theorem dX11_sunBy_106 : decode cX11_sunBy 106 = .ok (.goto 12, 3) := by decide +kernel
theorem dX11_sunBy_109 : decode cX11_sunBy 109 = .ok (.aload_n 0, 1) := by decide +kernel
theorem dX11_sunBy_110 : decode cX11_sunBy 110 = .ok (.lconst 0, 1) := by decide +kernel
theorem dX11_sunBy_111 : decode cX11_sunBy 111 = .ok (.lconst 0, 1) := by decide +kernel
theorem dX11_sunBy_112 : decode cX11_sunBy 112 = .ok (.ldc2_w 57, 3) := by decide +kernel
theorem dX11_sunBy_115 : decode cX11_sunBy 115 = .ok (.invokevirtual 176, 3) := by decide +kernel
theorem dX11_sunBy_118 : decode cX11_sunBy 118 = .ok (.lreturn, 1) := by decide +kernel
theorem dX11_sunBy_119 : decode cX11_sunBy 119 = .ok (.aload_n 0, 1) := by decide +kernel
theorem dX11_sunBy_120 : decode cX11_sunBy 120 = .ok (.iload_n 1, 1) := by decide +kernel
theorem dX11_sunBy_121 : decode cX11_sunBy 121 = .ok (.iconst 5, 1) := by decide +kernel
theorem dX11_sunBy_122 : decode cX11_sunBy 122 = .ok (.invokevirtual 137, 3) := by decide +kernel
theorem dX11_sunBy_125 : decode cX11_sunBy 125 = .ok (.i2l, 1) := by decide +kernel
theorem dX11_sunBy_126 : decode cX11_sunBy 126 = .ok (.invokestatic 59, 3) := by decide +kernel
theorem dX11_sunBy_129 : decode cX11_sunBy 129 = .ok (.lstore 9, 2) := by decide +kernel
theorem dX11_sunBy_131 : decode cX11_sunBy 131 = .ok (.aload_n 0, 1) := by decide +kernel
theorem dX11_sunBy_132 : decode cX11_sunBy 132 = .ok (.iload_n 1, 1) := by decide +kernel
theorem dX11_sunBy_133 : decode cX11_sunBy 133 = .ok (.iconst 5, 1) := by decide +kernel
theorem dX11_sunBy_134 : decode cX11_sunBy 134 = .ok (.invokevirtual 137, 3) := by decide +kernel
theorem dX11_sunBy_137 : decode cX11_sunBy 137 = .ok (.i2l, 1) := by decide +kernel
theorem dX11_sunBy_138 : decode cX11_sunBy 138 = .ok (.invokestatic 108, 3) := by decide +kernel
theorem dX11_sunBy_141 : decode cX11_sunBy 141 = .ok (.lstore 11, 2) := by decide +kernel
theorem dX11_sunBy_143 : decode cX11_sunBy 143 = .ok (.iload 4, 2) := by decide +kernel
theorem dX11_sunBy_145 : decode cX11_sunBy 145 = .ok (.ifCond .ne 26, 3) := by decide +kernel
theorem dX11_sunBy_148 : decode cX11_sunBy 148 = .ok (.aload_n 0, 1) := by decide +kernel
theorem dX11_sunBy_149 : decode cX11_sunBy 149 = .ok (.lload 9, 2) := by decide +kernel
theorem dX11_sunBy_151 : decode cX11_sunBy 151 = .ok (.lload 5, 2) := by decide +kernel
theorem dX11_sunBy_153 : decode cX11_sunBy 153 = .ok (.invokestatic 89, 3) := by decide +kernel
theorem dX11_sunBy_156 : decode cX11_sunBy 156 = .ok (.lload 9, 2) := by decide +kernel
theorem dX11_sunBy_158 : decode cX11_sunBy 158 = .ok (.lload 7, 2) := by decide +kernel
theorem dX11_sunBy_160 : decode cX11_sunBy 160 = .ok (.invokestatic 89, 3) := by decide +kernel
theorem dX11_sunBy_163 : decode cX11_sunBy 163 = .ok (.lload 11, 2) := by decide +kernel
theorem dX11_sunBy_165 : decode cX11_sunBy 165 = .ok (.invokevirtual 176, 3) := by decide +kernel
theorem dX11_sunBy_168 : decode cX11_sunBy 168 = .ok (.goto 25, 3) := by decide +kernel
theorem dX11_sunBy_171 : decode cX11_sunBy 171 = .ok (.aload_n 0, 1) := by decide +kernel
theorem dX11_sunBy_172 : decode cX11_sunBy 172 = .ok (.lload 11, 2) := by decide +kernel
theorem dX11_sunBy_174 : decode cX11_sunBy 174 = .ok (.lload 5, 2) := by decide +kernel
theorem dX11_sunBy_176 : decode cX11_sunBy 176 = .ok (.invokestatic 89, 3) := by decide +kernel
theorem dX11_sunBy_179 : decode cX11_sunBy 179 = .ok (.lneg, 1) := by decide +kernel
theorem dX11_sunBy_180 : decode cX11_sunBy 180 = .ok (.lload 11, 2) := by decide +kernel
theorem dX11_sunBy_182 : decode cX11_sunBy 182 = .ok (.lload 7, 2) := by decide +kernel
theorem dX11_sunBy_184 : decode cX11_sunBy 184 = .ok (.invokestatic 89, 3) := by decide +kernel
theorem dX11_sunBy_187 : decode cX11_sunBy 187 = .ok (.lneg, 1) := by decide +kernel
theorem dX11_sunBy_188 : decode cX11_sunBy 188 = .ok (.lload 9, 2) := by decide +kernel
theorem dX11_sunBy_190 : decode cX11_sunBy 190 = .ok (.invokevirtual 176, 3) := by decide +kernel
theorem dX11_sunBy_193 : decode cX11_sunBy 193 = .ok (.lreturn, 1) := by decide +kernel
set_option maxRecDepth 20000 in
theorem ggX11_isHiding_X11_get : GoodIn wsX11_isHiding wsX11_get := goodIn_r _ [8, 9, 10, 11, 12, 13, 14, 15, 16, 17, 18, 19, 20, 21, 22, 23, 24, 25, 26, 27, 28, 29, 30, 31, 32] (by decide +kernel) (by decide +kernel)
set_option maxRecDepth 20000 in
theorem gX11_isHiding_X11_get : GoodIn wsX11_isHiding (wsV RX11 137 RX11 yX11_get wsX11_get) := goodIn_app (goodIn_of _ (by decide +kernel)) ggX11_isHiding_X11_get
theorem dX11_isHiding_0 : decode cX11_isHiding 0 = .ok (.aload_n 0, 1) := by decide +kernel
theorem dX11_isHiding_1 : decode cX11_isHiding 1 = .ok (.iload_n 1, 1) := by decide +kernel
theorem dX11_isHiding_2 : decode cX11_isHiding 2 = .ok (.iconst 1, 1) := by decide +kernel
theorem dX11_isHiding_3 : decode cX11_isHiding 3 = .ok (.invokevirtual 137, 3) := by decide +kernel
theorem dX11_isHiding_6 : decode cX11_isHiding 6 = .ok (.iload_n 2, 1) := by decide +kernel
theorem dX11_isHiding_7 : decode cX11_isHiding 7 = .ok (.isub, 1) := by decide +kernel
theorem dX11_isHiding_8 : decode cX11_isHiding 8 = .ok (.i2l, 1) := by decide +kernel
theorem dX11_isHiding_9 : decode cX11_isHiding 9 = .ok (.lstore 4, 2) := by decide +kernel
theorem dX11_isHiding_11 : decode cX11_isHiding 11 = .ok (.aload_n 0, 1) := by decide +kernel
theorem dX11_isHiding_12 : decode cX11_isHiding 12 = .ok (.iload_n 1, 1) := by decide +kernel
theorem dX11_isHiding_13 : decode cX11_isHiding 13 = .ok (.iconst 2, 1) := by decide +kernel
theorem dX11_isHiding_14 : decode cX11_isHiding 14 = .ok (.invokevirtual 137, 3) := by decide +kernel
theorem dX11_isHiding_17 : decode cX11_isHiding 17 = .ok (.iload_n 3, 1) := by decide +kernel
theorem dX11_isHiding_18 : decode cX11_isHiding 18 = .ok (.isub, 1) := by decide +kernel
theorem dX11_isHiding_19 : decode cX11_isHiding 19 = .ok (.i2l, 1) := by decide +kernel
theorem dX11_isHiding_20 : decode cX11_isHiding 20 = .ok (.lstore 6, 2) := by decide +kernel
theorem dX11_isHiding_22 : decode cX11_isHiding 22 = .ok (.aload_n 0, 1) := by decide +kernel
theorem dX11_isHiding_23 : decode cX11_isHiding 23 = .ok (.iload_n 1, 1) := by decide +kernel
theorem dX11_isHiding_24 : decode cX11_isHiding 24 = .ok (.iconst 3, 1) := by decide +kernel
theorem dX11_isHiding_25 : decode cX11_isHiding 25 = .ok (.invokevirtual 137, 3) := by decide +kernel
theorem dX11_isHiding_28 : decode cX11_isHiding 28 = .ok (.iload_n 2, 1) := by decide +kernel
theorem dX11_isHiding_29 : decode cX11_isHiding 29 = .ok (.isub, 1) := by decide +kernel
theorem dX11_isHiding_30 : decode cX11_isHiding 30 = .ok (.i2l, 1) := by decide +kernel
theorem dX11_isHiding_31 : decode cX11_isHiding 31 = .ok (.lstore 8, 2) := by decide +kernel
theorem dX11_isHiding_33 : decode cX11_isHiding 33 = .ok (.aload_n 0, 1) := by decide +kernel
theorem dX11_isHiding_34 : decode cX11_isHiding 34 = .ok (.iload_n 1, 1) := by decide +kernel
theorem dX11_isHiding_35 : decode cX11_isHiding 35 = .ok (.iconst 4, 1) := by decide +kernel
theorem dX11_isHiding_36 : decode cX11_isHiding 36 = .ok (.invokevirtual 137, 3) := by decide +kernel
theorem dX11_isHiding_39 : decode cX11_isHiding 39 = .ok (.iload_n 3, 1) := by decide +kernel
theorem dX11_isHiding_40 : decode cX11_isHiding 40 = .ok (.isub, 1) := by decide +kernel
theorem dX11_isHiding_41 : decode cX11_isHiding 41 = .ok (.i2l, 1) := by decide +kernel
theorem dX11_isHiding_42 : decode cX11_isHiding 42 = .ok (.lstore 10, 2) := by decide +kernel
theorem dX11_isHiding_44 : decode cX11_isHiding 44 = .ok (.aload_n 0, 1) := by decide +kernel
theorem dX11_isHiding_45 : decode cX11_isHiding 45 = .ok (.getfield 111, 3) := by decide +kernel
theorem dX11_isHiding_48 : decode cX11_isHiding 48 = .ok (.lload 6, 2) := by decide +kernel
theorem dX11_isHiding_50 : decode cX11_isHiding 50 = .ok (.lmul, 1) := by decide +kernel
theorem dX11_isHiding_51 : decode cX11_isHiding 51 = .ok (.aload_n 0, 1) := by decide +kernel
theorem dX11_isHiding_52 : decode cX11_isHiding 52 = .ok (.getfield 115, 3) := by decide +kernel
theorem dX11_isHiding_55 : decode cX11_isHiding 55 = .ok (.lload 4, 2) := by decide +kernel
theorem dX11_isHiding_57 : decode cX11_isHiding 57 = .ok (.lmul, 1) := by decide +kernel
theorem dX11_isHiding_58 : decode cX11_isHiding 58 = .ok (.lsub, 1) := by decide +kernel
theorem dX11_isHiding_59 : decode cX11_isHiding 59 = .ok (.lstore 12, 2) := by decide +kernel
theorem dX11_isHiding_61 : decode cX11_isHiding 61 = .ok (.aload_n 0, 1) := by decide +kernel
theorem dX11_isHiding_62 : decode cX11_isHiding 62 = .ok (.getfield 111, 3) := by decide +kernel
theorem dX11_isHiding_65 : decode cX11_isHiding 65 = .ok (.lload 10, 2) := by decide +kernel
theorem dX11_isHiding_67 : decode cX11_isHiding 67 = .ok (.lmul, 1) := by decide +kernel
theorem dX11_isHiding_68 : decode cX11_isHiding 68 = .ok (.aload_n 0, 1) := by decide +kernel
theorem dX11_isHiding_69 : decode cX11_isHiding 69 = .ok (.getfield 115, 3) := by decide +kernel
theorem dX11_isHiding_72 : decode cX11_isHiding 72 = .ok (.lload 8, 2) := by decide +kernel
theorem dX11_isHiding_74 : decode cX11_isHiding 74 = .ok (.lmul, 1) := by decide +kernel
theorem dX11_isHiding_75 : decode cX11_isHiding 75 = .ok (.lsub, 1) := by decide +kernel
theorem dX11_isHiding_76 : decode cX11_isHiding 76 = .ok (.lstore 14, 2) := by decide +kernel
theorem dX11_isHiding_78 : decode cX11_isHiding 78 = .ok (.lload 14, 2) := by decide +kernel
theorem dX11_isHiding_80 : decode cX11_isHiding 80 = .ok (.lload 12, 2) := by decide +kernel
theorem dX11_isHiding_82 : decode cX11_isHiding 82 = .ok (.lsub, 1) := by decide +kernel
theorem dX11_isHiding_83 : decode cX11_isHiding 83 = .ok (.lstore 16, 2) := by decide +kernel
theorem dX11_isHiding_85 : decode cX11_isHiding 85 = .ok (.lload 4, 2) := by decide +kernel
theorem dX11_isHiding_87 : decode cX11_isHiding 87 = .ok (.lload 10, 2) := by decide +kernel
theorem dX11_isHiding_89 : decode cX11_isHiding 89 = .ok (.lmul, 1) := by decide +kernel
theorem dX11_isHiding_90 : decode cX11_isHiding 90 = .ok (.lload 6, 2) := by decide +kernel
theorem dX11_isHiding_92 : decode cX11_isHiding 92 = .ok (.lload 8, 2) := by decide +kernel
theorem dX11_isHiding_94 : decode cX11_isHiding 94 = .ok (.lmul, 1) := by decide +kernel
theorem dX11_isHiding_95 : decode cX11_isHiding 95 = .ok (.lsub, 1) := by decide +kernel
theorem dX11_isHiding_96 : decode cX11_isHiding 96 = .ok (.lstore 18, 2) := by decide +kernel
theorem dX11_isHiding_98 : decode cX11_isHiding 98 = .ok (.lload 16, 2) := by decide +kernel
theorem dX11_isHiding_100 : decode cX11_isHiding 100 = .ok (.lconst 0, 1) := by decide +kernel
theorem dX11_isHiding_101 : decode cX11_isHiding 101 = .ok (.lcmp, 1) := by decide +kernel
theorem dX11_isHiding_102 : decode cX11_isHiding 102 = .ok (.ifCond .ge 13, 3) := by decide +kernel
theorem dX11_isHiding_105 : decode cX11_isHiding 105 = .ok (.lload 16, 2) := by decide +kernel
theorem dX11_isHiding_107 : decode cX11_isHiding 107 = .ok (.lneg, 1) := by decide +kernel
theorem dX11_isHiding_108 : decode cX11_isHiding 108 = .ok (.lstore 16, 2) := by decide +kernel
theorem dX11_isHiding_110 : decode cX11_isHiding 110 = .ok (.lload 18, 2) := by decide +kernel
theorem dX11_isHiding_112 : decode cX11_isHiding 112 = .ok (.lneg, 1) := by decide +kernel
theorem dX11_isHiding_113 : decode cX11_isHiding 113 = .ok (.lstore 18, 2) := by decide +kernel
theorem dX11_isHiding_115 : decode cX11_isHiding 115 = .ok (.lload 16, 2) := by decide +kernel
theorem dX11_isHiding_117 : decode cX11_isHiding 117 = .ok (.lconst 0, 1) := by decide +kernel
theorem dX11_isHiding_118 : decode cX11_isHiding 118 = .ok (.lcmp, 1) := by decide +kernel
theorem dX11_isHiding_119 : decode cX11_isHiding 119 = .ok (.ifCond .eq 63, 3) := by decide +kernel
theorem dX11_isHiding_122 : decode cX11_isHiding 122 = .ok (.lload 12, 2) := by decide +kernel
theorem dX11_isHiding_124 : decode cX11_isHiding 124 = .ok (.lconst 0, 1) := by decide +kernel
theorem dX11_isHiding_125 : decode cX11_isHiding 125 = .ok (.lcmp, 1) := by decide +kernel
theorem dX11_isHiding_126 : decode cX11_isHiding 126 = .ok (.ifCond .le 10, 3) := by decide +kernel
theorem dX11_isHiding_129 : decode cX11_isHiding 129 = .ok (.lload 14, 2) := by decide +kernel
theorem dX11_isHiding_131 : decode cX11_isHiding 131 = .ok (.lconst 0, 1) := by decide +kernel
theorem dX11_isHiding_132 : decode cX11_isHiding 132 = .ok (.lcmp, 1) := by decide +kernel
theorem dX11_isHiding_133 : decode cX11_isHiding 133 = .ok (.ifCond .gt 49, 3) := by decide +kernel
theorem dX11_isHiding_136 : decode cX11_isHiding 136 = .ok (.lload 12, 2) := by decide +kernel
theorem dX11_isHiding_138 : decode cX11_isHiding 138 = .ok (.lconst 0, 1) := by decide +kernel
theorem dX11_isHiding_139 : decode cX11_isHiding 139 = .ok (.lcmp, 1) := by decide +kernel
theorem dX11_isHiding_140 : decode cX11_isHiding 140 = .ok (.ifCond .ge 10, 3) := by decide +kernel
theorem dX11_isHiding_143 : decode cX11_isHiding 143 = .ok (.lload 14, 2) := by decide +kernel
theorem dX11_isHiding_145 : decode cX11_isHiding 145 = .ok (.lconst 0, 1) := by decide +kernel
theorem dX11_isHiding_146 : decode cX11_isHiding 146 = .ok (.lcmp, 1) := by decide +kernel
theorem dX11_isHiding_147 : decode cX11_isHiding 147 = .ok (.ifCond .lt 35, 3) := by decide +kernel
theorem dX11_isHiding_150 : decode cX11_isHiding 150 = .ok (.lload 18, 2) := by decide +kernel
theorem dX11_isHiding_152 : decode cX11_isHiding 152 = .ok (.lconst 0, 1) := by decide +kernel
theorem dX11_isHiding_153 : decode cX11_isHiding 153 = .ok (.lcmp, 1) := by decide +kernel
theorem dX11_isHiding_154 : decode cX11_isHiding 154 = .ok (.ifCond .le 28, 3) := by decide +kernel
theorem dX11_isHiding_157 : decode cX11_isHiding 157 = .ok (.aload_n 0, 1) := by decide +kernel
theorem dX11_isHiding_158 : decode cX11_isHiding 158 = .ok (.getfield 118, 3) := by decide +kernel
theorem dX11_isHiding_161 : decode cX11_isHiding 161 = .ok (.lload 18, 2) := by decide +kernel
theorem dX11_isHiding_163 : decode cX11_isHiding 163 = .ok (.lmul, 1) := by decide +kernel
theorem dX11_isHiding_164 : decode cX11_isHiding 164 = .ok (.aload_n 0, 1) := by decide +kernel
theorem dX11_isHiding_165 : decode cX11_isHiding 165 = .ok (.iload_n 1, 1) := by decide +kernel
theorem dX11_isHiding_166 : decode cX11_isHiding 166 = .ok (.iconst 5, 1) := by decide +kernel
theorem dX11_isHiding_167 : decode cX11_isHiding 167 = .ok (.invokevirtual 137, 3) := by decide +kernel
theorem dX11_isHiding_170 : decode cX11_isHiding 170 = .ok (.i2l, 1) := by decide +kernel
theorem dX11_isHiding_171 : decode cX11_isHiding 171 = .ok (.lload 16, 2) := by decide +kernel
theorem dX11_isHiding_173 : decode cX11_isHiding 173 = .ok (.lmul, 1) := by decide +kernel
theorem dX11_isHiding_174 : decode cX11_isHiding 174 = .ok (.lcmp, 1) := by decide +kernel
theorem dX11_isHiding_175 : decode cX11_isHiding 175 = .ok (.ifCond .ge 7, 3) := by decide +kernel
theorem dX11_isHiding_178 : decode cX11_isHiding 178 = .ok (.iconst 1, 1) := by decide +kernel
theorem dX11_isHiding_179 : decode cX11_isHiding 179 = .ok (.goto 4, 3) := by decide +kernel
theorem dX11_isHiding_182 : decode cX11_isHiding 182 = .ok (.iconst 0, 1) := by decide +kernel
theorem dX11_isHiding_183 : decode cX11_isHiding 183 = .ok (.ireturn, 1) := by decide +kernel
set_option maxRecDepth 20000 in
theorem ggX11_hider_X11_get : GoodIn wsX11_hider wsX11_get := goodIn_r _ [6, 7, 15, 16, 17, 18, 19, 20, 21, 22, 23, 24, 25, 26, 27, 28, 29, 30, 31, 32, 33, 34, 35, 36, 37] (by decide +kernel) (by decide +kernel)
set_option maxRecDepth 20000 in
theorem gX11_hider_X11_get : GoodIn wsX11_hider (wsV RX11 137 RX11 yX11_get wsX11_get) := goodIn_app (goodIn_of _ (by decide +kernel)) ggX11_hider_X11_get
set_option maxRecDepth 20000 in
theorem ggX11_hider_X11_isHiding : GoodIn wsX11_hider wsX11_isHiding := goodIn_r _ [11, 12, 13, 14, 2, 3, 4, 5, 6, 7, 15, 16, 17, 18, 19, 20, 21, 22, 23, 24, 25, 26, 27, 28, 29, 30, 31, 32, 33, 34, 35, 36, 37] (by decide +kernel) (by decide +kernel)
set_option maxRecDepth 20000 in
theorem gX11_hider_X11_isHiding : GoodIn wsX11_hider (wsV RX11 180 RX11 yX11_isHiding wsX11_isHiding) := goodIn_app (goodIn_of _ (by decide +kernel)) ggX11_hider_X11_isHiding
theorem dX11_hider_0 : decode cX11_hider 0 = .ok (.iconst 0, 1) := by decide +kernel
theorem dX11_hider_1 : decode cX11_hider 1 = .ok (.istore_n 2, 1) := by decide +kernel
theorem dX11_hider_2 : decode cX11_hider 2 = .ok (.iload_n 2, 1) := by decide +kernel
theorem dX11_hider_3 : decode cX11_hider 3 = .ok (.bipush 40, 2) := by decide +kernel
theorem dX11_hider_5 : decode cX11_hider 5 = .ok (.if_icmp .ge 41, 3) := by decide +kernel
theorem dX11_hider_8 : decode cX11_hider 8 = .ok (.aload_n 0, 1) := by decide +kernel
theorem dX11_hider_9 : decode cX11_hider 9 = .ok (.iload_n 2, 1) := by decide +kernel
theorem dX11_hider_10 : decode cX11_hider 10 = .ok (.iconst 0, 1) := by decide +kernel
theorem dX11_hider_11 : decode cX11_hider 11 = .ok (.invokevirtual 137, 3) := by decide +kernel
theorem dX11_hider_14 : decode cX11_hider 14 = .ok (.iconst 1, 1) := by decide +kernel
theorem dX11_hider_15 : decode cX11_hider 15 = .ok (.if_icmp .ne 25, 3) := by decide +kernel
theorem dX11_hider_18 : decode cX11_hider 18 = .ok (.aload_n 0, 1) := by decide +kernel
theorem dX11_hider_19 : decode cX11_hider 19 = .ok (.iload_n 2, 1) := by decide +kernel
theorem dX11_hider_20 : decode cX11_hider 20 = .ok (.aload_n 0, 1) := by decide +kernel
theorem dX11_hider_21 : decode cX11_hider 21 = .ok (.iload_n 1, 1) := by decide +kernel
theorem dX11_hider_22 : decode cX11_hider 22 = .ok (.iconst 1, 1) := by decide +kernel
theorem dX11_hider_23 : decode cX11_hider 23 = .ok (.invokevirtual 137, 3) := by decide +kernel
theorem dX11_hider_26 : decode cX11_hider 26 = .ok (.aload_n 0, 1) := by decide +kernel
theorem dX11_hider_27 : decode cX11_hider 27 = .ok (.iload_n 1, 1) := by decide +kernel
theorem dX11_hider_28 : decode cX11_hider 28 = .ok (.iconst 2, 1) := by decide +kernel
theorem dX11_hider_29 : decode cX11_hider 29 = .ok (.invokevirtual 137, 3) := by decide +kernel
theorem dX11_hider_32 : decode cX11_hider 32 = .ok (.invokevirtual 180, 3) := by decide +kernel
theorem dX11_hider_35 : decode cX11_hider 35 = .ok (.ifCond .eq 5, 3) := by decide +kernel
theorem dX11_hider_38 : decode cX11_hider 38 = .ok (.iload_n 2, 1) := by decide +kernel
theorem dX11_hider_39 : decode cX11_hider 39 = .ok (.ireturn, 1) := by decide +kernel
theorem dX11_hider_40 : decode cX11_hider 40 = .ok (.iinc 2 1, 3) := by decide +kernel
theorem dX11_hider_43 : decode cX11_hider 43 = .ok (.goto (-41), 3) := by decide +kernel
theorem dX11_hider_46 : decode cX11_hider 46 = .ok (.ldc 172, 2) := by decide +kernel
theorem dX11_hider_48 : decode cX11_hider 48 = .ok (.ireturn, 1) := by decide +kernel
set_option maxRecDepth 20000 in
theorem ggX11_heightOf_X11_sineOf : GoodIn wsX11_heightOf wsX11_sineOf := goodIn_r _ [6, 7, 8, 9, 10] (by decide +kernel) (by decide +kernel)
set_option maxRecDepth 20000 in
theorem gX11_heightOf_X11_sineOf : GoodIn wsX11_heightOf (va_wsS RX11 59 yX11_sineOf wsX11_sineOf) := goodIn_app (goodIn_of _ (by decide +kernel)) ggX11_heightOf_X11_sineOf
theorem dX11_heightOf_0 : decode cX11_heightOf 0 = .ok (.lconst 0, 1) := by decide +kernel
theorem dX11_heightOf_1 : decode cX11_heightOf 1 = .ok (.lstore_n 2, 1) := by decide +kernel
theorem dX11_heightOf_2 : decode cX11_heightOf 2 = .ok (.ldc2_w 57, 3) := by decide +kernel
theorem dX11_heightOf_5 : decode cX11_heightOf 5 = .ok (.lstore 4, 2) := by decide +kernel
theorem dX11_heightOf_7 : decode cX11_heightOf 7 = .ok (.lload 4, 2) := by decide +kernel
theorem dX11_heightOf_9 : decode cX11_heightOf 9 = .ok (.lconst 0, 1) := by decide +kernel
theorem dX11_heightOf_10 : decode cX11_heightOf 10 = .ok (.lcmp, 1) := by decide +kernel
theorem dX11_heightOf_11 : decode cX11_heightOf 11 = .ok (.ifCond .le 42, 3) := by decide +kernel
theorem dX11_heightOf_14 : decode cX11_heightOf 14 = .ok (.lload_n 2, 1) := by decide +kernel
theorem dX11_heightOf_15 : decode cX11_heightOf 15 = .ok (.lload 4, 2) := by decide +kernel
theorem dX11_heightOf_17 : decode cX11_heightOf 17 = .ok (.ladd, 1) := by decide +kernel
theorem dX11_heightOf_18 : decode cX11_heightOf 18 = .ok (.ldc2_w 57, 3) := by decide +kernel
theorem dX11_heightOf_21 : decode cX11_heightOf 21 = .ok (.lcmp, 1) := by decide +kernel
theorem dX11_heightOf_22 : decode cX11_heightOf 22 = .ok (.ifCond .gt 20, 3) := by decide +kernel
theorem dX11_heightOf_25 : decode cX11_heightOf 25 = .ok (.lload_n 2, 1) := by decide +kernel
theorem dX11_heightOf_26 : decode cX11_heightOf 26 = .ok (.lload 4, 2) := by decide +kernel
theorem dX11_heightOf_28 : decode cX11_heightOf 28 = .ok (.ladd, 1) := by decide +kernel
theorem dX11_heightOf_29 : decode cX11_heightOf 29 = .ok (.invokestatic 59, 3) := by decide +kernel
theorem dX11_heightOf_32 : decode cX11_heightOf 32 = .ok (.lload_n 0, 1) := by decide +kernel
theorem dX11_heightOf_33 : decode cX11_heightOf 33 = .ok (.lcmp, 1) := by decide +kernel
theorem dX11_heightOf_34 : decode cX11_heightOf 34 = .ok (.ifCond .gt 8, 3) := by decide +kernel
theorem dX11_heightOf_37 : decode cX11_heightOf 37 = .ok (.lload_n 2, 1) := by decide +kernel
theorem dX11_heightOf_38 : decode cX11_heightOf 38 = .ok (.lload 4, 2) := by decide +kernel
theorem dX11_heightOf_40 : decode cX11_heightOf 40 = .ok (.ladd, 1) := by decide +kernel
theorem dX11_heightOf_41 : decode cX11_heightOf 41 = .ok (.lstore_n 2, 1) := by decide +kernel
theorem dX11_heightOf_42 : decode cX11_heightOf 42 = .ok (.lload 4, 2) := by decide +kernel
theorem dX11_heightOf_44 : decode cX11_heightOf 44 = .ok (.ldc2_w 184, 3) := by decide +kernel
theorem dX11_heightOf_47 : decode cX11_heightOf 47 = .ok (.ldiv, 1) := by decide +kernel
theorem dX11_heightOf_48 : decode cX11_heightOf 48 = .ok (.lstore 4, 2) := by decide +kernel
theorem dX11_heightOf_50 : decode cX11_heightOf 50 = .ok (.goto (-43), 3) := by decide +kernel
theorem dX11_heightOf_53 : decode cX11_heightOf 53 = .ok (.lload_n 2, 1) := by decide +kernel
theorem dX11_heightOf_54 : decode cX11_heightOf 54 = .ok (.lreturn, 1) := by decide +kernel
set_option maxRecDepth 20000 in
theorem ggX11_findEnd_X11_get : GoodIn wsX11_findEnd wsX11_get := goodIn_r _ [10, 11, 45, 46, 47, 48, 49, 50, 51, 52, 53, 54, 55, 56, 57, 58, 59, 60, 61, 62, 63, 64, 65, 66, 67] (by decide +kernel) (by decide +kernel)
set_option maxRecDepth 20000 in
theorem gX11_findEnd_X11_get : GoodIn wsX11_findEnd (wsV RX11 137 RX11 yX11_get wsX11_get) := goodIn_app (goodIn_of _ (by decide +kernel)) ggX11_findEnd_X11_get
set_option maxRecDepth 20000 in
theorem ggX11_findEnd_X11_heightOf : GoodIn wsX11_findEnd wsX11_heightOf := goodIn_r _ [14, 15, 1, 16, 17, 9, 18, 19, 20, 21, 22] (by decide +kernel) (by decide +kernel)
set_option maxRecDepth 20000 in
theorem gX11_findEnd_X11_heightOf : GoodIn wsX11_findEnd (va_wsS RX11 186 yX11_heightOf wsX11_heightOf) := goodIn_app (goodIn_of _ (by decide +kernel)) ggX11_findEnd_X11_heightOf
set_option maxRecDepth 20000 in
theorem ggX11_findEnd_X11_sunBy : GoodIn wsX11_findEnd wsX11_sunBy := goodIn_r _ [26, 15, 27, 28, 29, 9, 30, 6, 7, 8, 10, 11, 31, 32, 33, 34, 4, 35, 2, 16, 17, 18, 19, 20, 21, 22, 36, 37, 38, 39, 40, 41, 42, 43, 44, 45, 46, 47, 48, 49, 50, 51, 52, 53, 54, 55, 56, 57, 58, 59, 60, 61, 62, 63, 64, 65, 66, 67] (by decide +kernel) (by decide +kernel)
set_option maxRecDepth 20000 in
theorem gX11_findEnd_X11_sunBy : GoodIn wsX11_findEnd (wsV RX11 195 RX11 yX11_sunBy wsX11_sunBy) := goodIn_app (goodIn_of _ (by decide +kernel)) ggX11_findEnd_X11_sunBy
set_option maxRecDepth 20000 in
theorem ggX11_findEnd_X11_down : GoodIn wsX11_findEnd wsX11_down := goodIn_r _ [44] (by decide +kernel) (by decide +kernel)
set_option maxRecDepth 20000 in
theorem gX11_findEnd_X11_down : GoodIn wsX11_findEnd (va_wsS RX11 63 yX11_down wsX11_down) := goodIn_app (goodIn_of _ (by decide +kernel)) ggX11_findEnd_X11_down
theorem dX11_findEnd_0 : decode cX11_findEnd 0 = .ok (.aload_n 0, 1) := by decide +kernel
theorem dX11_findEnd_1 : decode cX11_findEnd 1 = .ok (.iload_n 1, 1) := by decide +kernel
theorem dX11_findEnd_2 : decode cX11_findEnd 2 = .ok (.iconst 0, 1) := by decide +kernel
theorem dX11_findEnd_3 : decode cX11_findEnd 3 = .ok (.invokevirtual 137, 3) := by decide +kernel
theorem dX11_findEnd_6 : decode cX11_findEnd 6 = .ok (.iconst 5, 1) := by decide +kernel
theorem dX11_findEnd_7 : decode cX11_findEnd 7 = .ok (.if_icmp .ne 37, 3) := by decide +kernel
theorem dX11_findEnd_10 : decode cX11_findEnd 10 = .ok (.aload_n 0, 1) := by decide +kernel
theorem dX11_findEnd_11 : decode cX11_findEnd 11 = .ok (.ldc2_w 184, 3) := by decide +kernel
theorem dX11_findEnd_14 : decode cX11_findEnd 14 = .ok (.aload_n 0, 1) := by decide +kernel
theorem dX11_findEnd_15 : decode cX11_findEnd 15 = .ok (.getfield 118, 3) := by decide +kernel
theorem dX11_findEnd_18 : decode cX11_findEnd 18 = .ok (.invokestatic 186, 3) := by decide +kernel
theorem dX11_findEnd_21 : decode cX11_findEnd 21 = .ok (.lmul, 1) := by decide +kernel
theorem dX11_findEnd_22 : decode cX11_findEnd 22 = .ok (.putfield 189, 3) := by decide +kernel
theorem dX11_findEnd_25 : decode cX11_findEnd 25 = .ok (.aload_n 0, 1) := by decide +kernel
theorem dX11_findEnd_26 : decode cX11_findEnd 26 = .ok (.aload_n 0, 1) := by decide +kernel
theorem dX11_findEnd_27 : decode cX11_findEnd 27 = .ok (.getfield 111, 3) := by decide +kernel
theorem dX11_findEnd_30 : decode cX11_findEnd 30 = .ok (.lconst 0, 1) := by decide +kernel
theorem dX11_findEnd_31 : decode cX11_findEnd 31 = .ok (.lcmp, 1) := by decide +kernel
theorem dX11_findEnd_32 : decode cX11_findEnd 32 = .ok (.ifCond .lt 7, 3) := by decide +kernel
theorem dX11_findEnd_35 : decode cX11_findEnd 35 = .ok (.lconst 0, 1) := by decide +kernel
theorem dX11_findEnd_36 : decode cX11_findEnd 36 = .ok (.goto 4, 3) := by decide +kernel
theorem dX11_findEnd_39 : decode cX11_findEnd 39 = .ok (.lconst 1, 1) := by decide +kernel
theorem dX11_findEnd_40 : decode cX11_findEnd 40 = .ok (.putfield 192, 3) := by decide +kernel
theorem dX11_findEnd_43 : decode cX11_findEnd 43 = .ok (.return_, 1) := by decide +kernel
theorem dX11_findEnd_44 : decode cX11_findEnd 44 = .ok (.aload_n 0, 1) := by decide +kernel
theorem dX11_findEnd_45 : decode cX11_findEnd 45 = .ok (.iload_n 1, 1) := by decide +kernel
theorem dX11_findEnd_46 : decode cX11_findEnd 46 = .ok (.lload_n 2, 1) := by decide +kernel
theorem dX11_findEnd_47 : decode cX11_findEnd 47 = .ok (.iconst 0, 1) := by decide +kernel
theorem dX11_findEnd_48 : decode cX11_findEnd 48 = .ok (.invokevirtual 195, 3) := by decide +kernel
theorem dX11_findEnd_51 : decode cX11_findEnd 51 = .ok (.lstore 4, 2) := by decide +kernel
theorem dX11_findEnd_53 : decode cX11_findEnd 53 = .ok (.aload_n 0, 1) := by decide +kernel
theorem dX11_findEnd_54 : decode cX11_findEnd 54 = .ok (.aload_n 0, 1) := by decide +kernel
theorem dX11_findEnd_55 : decode cX11_findEnd 55 = .ok (.iload_n 1, 1) := by decide +kernel
theorem dX11_findEnd_56 : decode cX11_findEnd 56 = .ok (.iconst 3, 1) := by decide +kernel
theorem dX11_findEnd_57 : decode cX11_findEnd 57 = .ok (.invokevirtual 137, 3) := by decide +kernel
theorem dX11_findEnd_60 : decode cX11_findEnd 60 = .ok (.ineg, 1) := by decide +kernel
theorem dX11_findEnd_61 : decode cX11_findEnd 61 = .ok (.i2l, 1) := by decide +kernel
theorem dX11_findEnd_62 : decode cX11_findEnd 62 = .ok (.aload_n 0, 1) := by decide +kernel
theorem dX11_findEnd_63 : decode cX11_findEnd 63 = .ok (.iload_n 1, 1) := by decide +kernel
theorem dX11_findEnd_64 : decode cX11_findEnd 64 = .ok (.lload_n 2, 1) := by decide +kernel
theorem dX11_findEnd_65 : decode cX11_findEnd 65 = .ok (.iconst 1, 1) := by decide +kernel
theorem dX11_findEnd_66 : decode cX11_findEnd 66 = .ok (.invokevirtual 195, 3) := by decide +kernel
theorem dX11_findEnd_69 : decode cX11_findEnd 69 = .ok (.lmul, 1) := by decide +kernel
theorem dX11_findEnd_70 : decode cX11_findEnd 70 = .ok (.lload 4, 2) := by decide +kernel
theorem dX11_findEnd_72 : decode cX11_findEnd 72 = .ok (.invokestatic 63, 3) := by decide +kernel
theorem dX11_findEnd_75 : decode cX11_findEnd 75 = .ok (.putfield 189, 3) := by decide +kernel
theorem dX11_findEnd_78 : decode cX11_findEnd 78 = .ok (.aload_n 0, 1) := by decide +kernel
theorem dX11_findEnd_79 : decode cX11_findEnd 79 = .ok (.aload_n 0, 1) := by decide +kernel
theorem dX11_findEnd_80 : decode cX11_findEnd 80 = .ok (.iload_n 1, 1) := by decide +kernel
theorem dX11_findEnd_81 : decode cX11_findEnd 81 = .ok (.iconst 3, 1) := by decide +kernel
theorem dX11_findEnd_82 : decode cX11_findEnd 82 = .ok (.invokevirtual 137, 3) := by decide +kernel
theorem dX11_findEnd_85 : decode cX11_findEnd 85 = .ok (.ineg, 1) := by decide +kernel
theorem dX11_findEnd_86 : decode cX11_findEnd 86 = .ok (.i2l, 1) := by decide +kernel
theorem dX11_findEnd_87 : decode cX11_findEnd 87 = .ok (.aload_n 0, 1) := by decide +kernel
theorem dX11_findEnd_88 : decode cX11_findEnd 88 = .ok (.iload_n 1, 1) := by decide +kernel
theorem dX11_findEnd_89 : decode cX11_findEnd 89 = .ok (.lload_n 2, 1) := by decide +kernel
theorem dX11_findEnd_90 : decode cX11_findEnd 90 = .ok (.iconst 2, 1) := by decide +kernel
theorem dX11_findEnd_91 : decode cX11_findEnd 91 = .ok (.invokevirtual 195, 3) := by decide +kernel
theorem dX11_findEnd_94 : decode cX11_findEnd 94 = .ok (.lmul, 1) := by decide +kernel
theorem dX11_findEnd_95 : decode cX11_findEnd 95 = .ok (.lload 4, 2) := by decide +kernel
theorem dX11_findEnd_97 : decode cX11_findEnd 97 = .ok (.invokestatic 63, 3) := by decide +kernel
theorem dX11_findEnd_100 : decode cX11_findEnd 100 = .ok (.putfield 192, 3) := by decide +kernel
theorem dX11_findEnd_103 : decode cX11_findEnd 103 = .ok (.return_, 1) := by decide +kernel
set_option maxRecDepth 20000 in
theorem ggX11_stateOf_X11_look : GoodIn wsX11_stateOf wsX11_look := goodIn_r _ [11, 12, 13, 14, 1, 15, 16, 10, 17, 18, 19, 20, 21, 22, 23, 24, 25, 26, 27, 28, 29, 30, 31, 32, 33, 34, 35, 36, 37, 38, 39, 40, 41, 42, 43, 44, 45, 46, 47, 48, 85, 86, 87, 88, 89, 90, 91, 92, 93, 94, 95, 96, 97, 98, 99, 100, 101, 102, 103, 104, 105, 106, 107] (by decide +kernel) (by decide +kernel)
set_option maxRecDepth 20000 in
theorem gX11_stateOf_X11_look : GoodIn wsX11_stateOf (wsV RX11 127 RX11 yX11_look wsX11_look) := goodIn_app (goodIn_of _ (by decide +kernel)) ggX11_stateOf_X11_look
set_option maxRecDepth 20000 in
theorem ggX11_stateOf_X11_sunBy : GoodIn wsX11_stateOf wsX11_sunBy := goodIn_r _ [52, 33, 53, 54, 55, 10, 56, 57, 58, 59, 60, 61, 62, 63, 64, 65, 13, 14, 1, 24, 25, 26, 27, 28, 19, 29, 46, 47, 48, 30, 31, 32, 21, 22, 23, 85, 86, 87, 88, 89, 90, 91, 92, 93, 94, 95, 96, 97, 98, 99, 100, 101, 102, 103, 104, 105, 106, 107] (by decide +kernel) (by decide +kernel)
set_option maxRecDepth 20000 in
theorem gX11_stateOf_X11_sunBy : GoodIn wsX11_stateOf (wsV RX11 195 RX11 yX11_sunBy wsX11_sunBy) := goodIn_app (goodIn_of _ (by decide +kernel)) ggX11_stateOf_X11_sunBy
set_option maxRecDepth 20000 in
theorem ggX11_stateOf_X11_hider : GoodIn wsX11_stateOf wsX11_hider := goodIn_r _ [69, 2, 57, 58, 59, 10, 60, 61, 70, 71, 72, 73, 13, 14, 1, 85, 86, 87, 88, 89, 90, 91, 92, 93, 94, 95, 96, 97, 98, 99, 100, 101, 102, 103, 104, 105, 106, 107] (by decide +kernel) (by decide +kernel)
set_option maxRecDepth 20000 in
theorem gX11_stateOf_X11_hider : GoodIn wsX11_stateOf (wsV RX11 199 RX11 yX11_hider wsX11_hider) := goodIn_app (goodIn_of _ (by decide +kernel)) ggX11_stateOf_X11_hider
set_option maxRecDepth 20000 in
theorem ggX11_stateOf_X11_findEnd : GoodIn wsX11_stateOf wsX11_findEnd := goodIn_r _ [77, 78, 1, 3, 13, 6, 57, 58, 59, 10, 60, 61, 79, 80, 81, 33, 24, 25, 26, 27, 28, 19, 29, 49, 50, 51, 52, 53, 54, 55, 56, 62, 63, 64, 65, 14, 46, 47, 48, 30, 31, 32, 21, 22, 23, 85, 86, 87, 88, 89, 90, 91, 92, 93, 94, 95, 96, 97, 98, 99, 100, 101, 102, 103, 104, 105, 106, 107] (by decide +kernel) (by decide +kernel)
set_option maxRecDepth 20000 in
theorem gX11_stateOf_X11_findEnd : GoodIn wsX11_stateOf (wsV RX11 202 RX11 yX11_findEnd wsX11_findEnd) := goodIn_app (goodIn_of _ (by decide +kernel)) ggX11_stateOf_X11_findEnd
set_option maxRecDepth 20000 in
theorem ggX11_stateOf_X11_isIn : GoodIn wsX11_stateOf wsX11_isIn := goodIn_r _ [84] (by decide +kernel) (by decide +kernel)
set_option maxRecDepth 20000 in
theorem gX11_stateOf_X11_isIn : GoodIn wsX11_stateOf (va_wsS RX11 69 yX11_isIn wsX11_isIn) := goodIn_app (goodIn_of _ (by decide +kernel)) ggX11_stateOf_X11_isIn
theorem dX11_stateOf_0 : decode cX11_stateOf 0 = .ok (.aload_n 0, 1) := by decide +kernel
theorem dX11_stateOf_1 : decode cX11_stateOf 1 = .ok (.iload 4, 2) := by decide +kernel
theorem dX11_stateOf_3 : decode cX11_stateOf 3 = .ok (.iload 5, 2) := by decide +kernel
theorem dX11_stateOf_5 : decode cX11_stateOf 5 = .ok (.invokevirtual 127, 3) := by decide +kernel
theorem dX11_stateOf_8 : decode cX11_stateOf 8 = .ok (.aload_n 0, 1) := by decide +kernel
theorem dX11_stateOf_9 : decode cX11_stateOf 9 = .ok (.getfield 118, 3) := by decide +kernel
theorem dX11_stateOf_12 : decode cX11_stateOf 12 = .ok (.lconst 0, 1) := by decide +kernel
theorem dX11_stateOf_13 : decode cX11_stateOf 13 = .ok (.lcmp, 1) := by decide +kernel
theorem dX11_stateOf_14 : decode cX11_stateOf 14 = .ok (.ifCond .gt 5, 3) := by decide +kernel
theorem dX11_stateOf_17 : decode cX11_stateOf 17 = .ok (.iconst 1, 1) := by decide +kernel
theorem dX11_stateOf_18 : decode cX11_stateOf 18 = .ok (.ireturn, 1) := by decide +kernel
theorem dX11_stateOf_19 : decode cX11_stateOf 19 = .ok (.aload_n 0, 1) := by decide +kernel
theorem dX11_stateOf_20 : decode cX11_stateOf 20 = .ok (.iload_n 1, 1) := by decide +kernel
theorem dX11_stateOf_21 : decode cX11_stateOf 21 = .ok (.lload_n 2, 1) := by decide +kernel
theorem dX11_stateOf_22 : decode cX11_stateOf 22 = .ok (.iconst 0, 1) := by decide +kernel
theorem dX11_stateOf_23 : decode cX11_stateOf 23 = .ok (.invokevirtual 195, 3) := by decide +kernel
theorem dX11_stateOf_26 : decode cX11_stateOf 26 = .ok (.lconst 0, 1) := by decide +kernel
theorem dX11_stateOf_27 : decode cX11_stateOf 27 = .ok (.lcmp, 1) := by decide +kernel
theorem dX11_stateOf_28 : decode cX11_stateOf 28 = .ok (.ifCond .gt 5, 3) := by decide +kernel
theorem dX11_stateOf_31 : decode cX11_stateOf 31 = .ok (.iconst 2, 1) := by decide +kernel
theorem dX11_stateOf_32 : decode cX11_stateOf 32 = .ok (.ireturn, 1) := by decide +kernel
theorem dX11_stateOf_33 : decode cX11_stateOf 33 = .ok (.aload_n 0, 1) := by decide +kernel
theorem dX11_stateOf_34 : decode cX11_stateOf 34 = .ok (.iload_n 1, 1) := by decide +kernel
theorem dX11_stateOf_35 : decode cX11_stateOf 35 = .ok (.invokevirtual 199, 3) := by decide +kernel
theorem dX11_stateOf_38 : decode cX11_stateOf 38 = .ok (.ldc 172, 2) := by decide +kernel
theorem dX11_stateOf_40 : decode cX11_stateOf 40 = .ok (.if_icmp .eq 5, 3) := by decide +kernel
theorem dX11_stateOf_43 : decode cX11_stateOf 43 = .ok (.iconst 3, 1) := by decide +kernel
theorem dX11_stateOf_44 : decode cX11_stateOf 44 = .ok (.ireturn, 1) := by decide +kernel
theorem dX11_stateOf_45 : decode cX11_stateOf 45 = .ok (.aload_n 0, 1) := by decide +kernel
theorem dX11_stateOf_46 : decode cX11_stateOf 46 = .ok (.iload_n 1, 1) := by decide +kernel
theorem dX11_stateOf_47 : decode cX11_stateOf 47 = .ok (.lload_n 2, 1) := by decide +kernel
theorem dX11_stateOf_48 : decode cX11_stateOf 48 = .ok (.invokevirtual 202, 3) := by decide +kernel
theorem dX11_stateOf_51 : decode cX11_stateOf 51 = .ok (.aload_n 0, 1) := by decide +kernel
theorem dX11_stateOf_52 : decode cX11_stateOf 52 = .ok (.getfield 189, 3) := by decide +kernel
theorem dX11_stateOf_55 : decode cX11_stateOf 55 = .ok (.ldc2_w 206, 3) := by decide +kernel
theorem dX11_stateOf_58 : decode cX11_stateOf 58 = .ok (.ldc2_w 208, 3) := by decide +kernel
theorem dX11_stateOf_61 : decode cX11_stateOf 61 = .ok (.invokestatic 69, 3) := by decide +kernel
theorem dX11_stateOf_64 : decode cX11_stateOf 64 = .ok (.ifCond .eq 23, 3) := by decide +kernel
theorem dX11_stateOf_67 : decode cX11_stateOf 67 = .ok (.aload_n 0, 1) := by decide +kernel
theorem dX11_stateOf_68 : decode cX11_stateOf 68 = .ok (.getfield 192, 3) := by decide +kernel
theorem dX11_stateOf_71 : decode cX11_stateOf 71 = .ok (.ldc2_w 206, 3) := by decide +kernel
theorem dX11_stateOf_74 : decode cX11_stateOf 74 = .ok (.ldc2_w 208, 3) := by decide +kernel
theorem dX11_stateOf_77 : decode cX11_stateOf 77 = .ok (.invokestatic 69, 3) := by decide +kernel
theorem dX11_stateOf_80 : decode cX11_stateOf 80 = .ok (.ifCond .eq 7, 3) := by decide +kernel
theorem dX11_stateOf_83 : decode cX11_stateOf 83 = .ok (.iconst 0, 1) := by decide +kernel
theorem dX11_stateOf_84 : decode cX11_stateOf 84 = .ok (.goto 4, 3) := by decide +kernel
theorem dX11_stateOf_87 : decode cX11_stateOf 87 = .ok (.iconst 4, 1) := by decide +kernel
theorem dX11_stateOf_88 : decode cX11_stateOf 88 = .ok (.ireturn, 1) := by decide +kernel
set_option maxRecDepth 20000 in
theorem ggX11_stateNow_X11_get : GoodIn wsX11_stateNow wsX11_get := goodIn_r _ [5, 6, 89, 90, 91, 92, 93, 94, 95, 96, 97, 98, 99, 100, 101, 102, 103, 104, 105, 106, 107, 108, 109, 110, 111] (by decide +kernel) (by decide +kernel)
set_option maxRecDepth 20000 in
theorem gX11_stateNow_X11_get : GoodIn wsX11_stateNow (wsV RX11 137 RX11 yX11_get wsX11_get) := goodIn_app (goodIn_of _ (by decide +kernel)) ggX11_stateNow_X11_get
set_option maxRecDepth 20000 in
theorem ggX11_stateNow_X11_stateOf : GoodIn wsX11_stateNow wsX11_stateOf := goodIn_r _ [10, 11, 12, 13, 14, 15, 16, 17, 18, 19, 4, 20, 21, 22, 23, 24, 25, 26, 27, 28, 29, 30, 31, 32, 33, 34, 35, 36, 37, 38, 39, 40, 41, 42, 43, 44, 45, 46, 47, 48, 49, 50, 51, 52, 53, 54, 55, 56, 57, 58, 59, 60, 61, 62, 63, 64, 65, 1, 2, 3, 5, 6, 66, 67, 68, 69, 70, 71, 72, 73, 74, 75, 76, 77, 78, 79, 80, 81, 82, 83, 84, 85, 86, 87, 88, 89, 90, 91, 92, 93, 94, 95, 96, 97, 98, 99, 100, 101, 102, 103, 104, 105, 106, 107, 108, 109, 110, 111] (by decide +kernel) (by decide +kernel)
set_option maxRecDepth 20000 in
theorem gX11_stateNow_X11_stateOf : GoodIn wsX11_stateNow (wsV RX11 210 RX11 yX11_stateOf wsX11_stateOf) := goodIn_app (goodIn_of _ (by decide +kernel)) ggX11_stateNow_X11_stateOf
theorem dX11_stateNow_0 : decode cX11_stateNow 0 = .ok (.aload_n 0, 1) := by decide +kernel
theorem dX11_stateNow_1 : decode cX11_stateNow 1 = .ok (.iload_n 1, 1) := by decide +kernel
theorem dX11_stateNow_2 : decode cX11_stateNow 2 = .ok (.aload_n 0, 1) := by decide +kernel
theorem dX11_stateNow_3 : decode cX11_stateNow 3 = .ok (.iload_n 1, 1) := by decide +kernel
theorem dX11_stateNow_4 : decode cX11_stateNow 4 = .ok (.iconst 4, 1) := by decide +kernel
theorem dX11_stateNow_5 : decode cX11_stateNow 5 = .ok (.invokevirtual 137, 3) := by decide +kernel
theorem dX11_stateNow_8 : decode cX11_stateNow 8 = .ok (.i2l, 1) := by decide +kernel
theorem dX11_stateNow_9 : decode cX11_stateNow 9 = .ok (.iload_n 2, 1) := by decide +kernel
theorem dX11_stateNow_10 : decode cX11_stateNow 10 = .ok (.iload_n 3, 1) := by decide +kernel
theorem dX11_stateNow_11 : decode cX11_stateNow 11 = .ok (.invokevirtual 210, 3) := by decide +kernel
theorem dX11_stateNow_14 : decode cX11_stateNow 14 = .ok (.ireturn, 1) := by decide +kernel
set_option maxRecDepth 20000 in
theorem ggX11_ask_X11_isPlace : GoodIn wsX11_ask wsX11_isPlace := goodIn_r _ [6, 7, 8, 9, 5, 10] (by decide +kernel) (by decide +kernel)
set_option maxRecDepth 20000 in
theorem gX11_ask_X11_isPlace : GoodIn wsX11_ask (va_wsS RX11 142 yX11_isPlace wsX11_isPlace) := goodIn_app (goodIn_of _ (by decide +kernel)) ggX11_ask_X11_isPlace
set_option maxRecDepth 20000 in
theorem ggX11_ask_X11_isTime : GoodIn wsX11_ask wsX11_isTime := goodIn_r _ [13, 14, 15, 8, 9, 5, 10] (by decide +kernel) (by decide +kernel)
set_option maxRecDepth 20000 in
theorem gX11_ask_X11_isTime : GoodIn wsX11_ask (va_wsS RX11 121 yX11_isTime wsX11_isTime) := goodIn_app (goodIn_of _ (by decide +kernel)) ggX11_ask_X11_isTime
set_option maxRecDepth 20000 in
theorem ggX11_ask_X11_isDial : GoodIn wsX11_ask wsX11_isDial := goodIn_r _ [19, 20, 21, 22, 5, 23, 24, 25, 26, 27, 28, 29, 30, 31, 32, 33, 34, 35, 36, 37, 38, 39, 40, 41, 42, 43, 44, 45, 46, 47] (by decide +kernel) (by decide +kernel)
set_option maxRecDepth 20000 in
theorem gX11_ask_X11_isDial : GoodIn wsX11_ask (wsV RX11 164 RX11 yX11_isDial wsX11_isDial) := goodIn_app (goodIn_of _ (by decide +kernel)) ggX11_ask_X11_isDial
theorem dX11_ask_0 : decode cX11_ask 0 = .ok (.iload_n 1, 1) := by decide +kernel
theorem dX11_ask_1 : decode cX11_ask 1 = .ok (.invokestatic 142, 3) := by decide +kernel
theorem dX11_ask_4 : decode cX11_ask 4 = .ok (.ifCond .eq 11, 3) := by decide +kernel
theorem dX11_ask_7 : decode cX11_ask 7 = .ok (.iload_n 2, 1) := by decide +kernel
theorem dX11_ask_8 : decode cX11_ask 8 = .ok (.iload_n 3, 1) := by decide +kernel
theorem dX11_ask_9 : decode cX11_ask 9 = .ok (.invokestatic 121, 3) := by decide +kernel
theorem dX11_ask_12 : decode cX11_ask 12 = .ok (.ifCond .ne 6, 3) := by decide +kernel

theorem dX11_ask_15 : decode cX11_ask 15 = .ok (.ldc 73, 2) := by decide +kernel
theorem dX11_ask_17 : decode cX11_ask 17 = .ok (.ireturn, 1) := by decide +kernel
theorem dX11_ask_18 : decode cX11_ask 18 = .ok (.aload_n 0, 1) := by decide +kernel
theorem dX11_ask_19 : decode cX11_ask 19 = .ok (.iload_n 1, 1) := by decide +kernel
theorem dX11_ask_20 : decode cX11_ask 20 = .ok (.invokevirtual 164, 3) := by decide +kernel
theorem dX11_ask_23 : decode cX11_ask 23 = .ok (.ifCond .eq 7, 3) := by decide +kernel
theorem dX11_ask_26 : decode cX11_ask 26 = .ok (.iconst 0, 1) := by decide +kernel
theorem dX11_ask_27 : decode cX11_ask 27 = .ok (.goto 5, 3) := by decide +kernel
theorem dX11_ask_30 : decode cX11_ask 30 = .ok (.ldc 141, 2) := by decide +kernel
theorem dX11_ask_32 : decode cX11_ask 32 = .ok (.ireturn, 1) := by decide +kernel
set_option maxRecDepth 20000 in
theorem ggX11_state_X11_ask : GoodIn wsX11_state wsX11_ask := goodIn_r _ [5, 6, 7, 8, 9, 4, 10, 11, 12, 13, 14, 15, 16, 17, 18, 19, 20, 21, 22, 23, 24, 25, 26, 27, 28, 112, 113, 114, 115, 116, 117, 118, 119, 120, 121, 122, 123, 124, 125, 126, 127, 128, 129, 130, 131, 132, 133, 134] (by decide +kernel) (by decide +kernel)
set_option maxRecDepth 20000 in
theorem gX11_state_X11_ask : GoodIn wsX11_state (wsV RX11 214 RX11 yX11_ask wsX11_ask) := goodIn_app (goodIn_of _ (by decide +kernel)) ggX11_state_X11_ask
set_option maxRecDepth 20000 in
theorem ggX11_state_X11_stateNow : GoodIn wsX11_state wsX11_stateNow := goodIn_r _ [32, 24, 25, 26, 4, 27, 28, 33, 34, 35, 36, 37, 38, 39, 40, 41, 42, 43, 44, 45, 46, 47, 48, 49, 50, 51, 52, 53, 54, 55, 56, 57, 58, 59, 60, 61, 62, 63, 64, 65, 66, 67, 68, 69, 70, 71, 72, 73, 74, 75, 76, 77, 78, 79, 80, 81, 82, 83, 84, 85, 86, 87, 88, 89, 90, 91, 92, 93, 94, 95, 96, 97, 98, 99, 100, 101, 102, 103, 104, 105, 106, 107, 108, 109, 110, 111, 12, 13, 14, 112, 113, 114, 115, 116, 117, 118, 119, 120, 121, 122, 123, 124, 125, 126, 127, 128, 129, 130, 131, 132, 133, 134] (by decide +kernel) (by decide +kernel)
set_option maxRecDepth 20000 in
theorem gX11_state_X11_stateNow : GoodIn wsX11_state (wsV RX11 218 RX11 yX11_stateNow wsX11_stateNow) := goodIn_app (goodIn_of _ (by decide +kernel)) ggX11_state_X11_stateNow
theorem dX11_state_0 : decode cX11_state 0 = .ok (.aload_n 0, 1) := by decide +kernel
theorem dX11_state_1 : decode cX11_state 1 = .ok (.iload_n 1, 1) := by decide +kernel
theorem dX11_state_2 : decode cX11_state 2 = .ok (.iload_n 2, 1) := by decide +kernel
theorem dX11_state_3 : decode cX11_state 3 = .ok (.iload_n 3, 1) := by decide +kernel
theorem dX11_state_4 : decode cX11_state 4 = .ok (.invokevirtual 214, 3) := by decide +kernel
theorem dX11_state_7 : decode cX11_state 7 = .ok (.istore 4, 2) := by decide +kernel
theorem dX11_state_9 : decode cX11_state 9 = .ok (.iload 4, 2) := by decide +kernel
theorem dX11_state_11 : decode cX11_state 11 = .ok (.ifCond .ge 8, 3) := by decide +kernel
theorem dX11_state_14 : decode cX11_state 14 = .ok (.iload 4, 2) := by decide +kernel
theorem dX11_state_16 : decode cX11_state 16 = .ok (.goto 10, 3) := by decide +kernel
theorem dX11_state_19 : decode cX11_state 19 = .ok (.aload_n 0, 1) := by decide +kernel
theorem dX11_state_20 : decode cX11_state 20 = .ok (.iload_n 1, 1) := by decide +kernel
theorem dX11_state_21 : decode cX11_state 21 = .ok (.iload_n 2, 1) := by decide +kernel
theorem dX11_state_22 : decode cX11_state 22 = .ok (.iload_n 3, 1) := by decide +kernel
theorem dX11_state_23 : decode cX11_state 23 = .ok (.invokevirtual 218, 3) := by decide +kernel
theorem dX11_state_26 : decode cX11_state 26 = .ok (.ireturn, 1) := by decide +kernel
set_option maxRecDepth 20000 in
theorem ggX11_hides_X11_ask : GoodIn wsX11_hides wsX11_ask := goodIn_r _ [6, 7, 8, 9, 10, 5, 11, 12, 13, 14, 15, 16, 17, 18, 19, 20, 21, 22, 23, 24, 25, 26, 27, 28, 29, 112, 113, 114, 115, 116, 117, 118, 119, 120, 121, 122, 123, 124, 125, 126, 127, 128, 129, 130, 131, 132, 133, 134] (by decide +kernel) (by decide +kernel)
set_option maxRecDepth 20000 in
theorem gX11_hides_X11_ask : GoodIn wsX11_hides (wsV RX11 214 RX11 yX11_ask wsX11_ask) := goodIn_app (goodIn_of _ (by decide +kernel)) ggX11_hides_X11_ask
set_option maxRecDepth 20000 in
theorem ggX11_hides_X11_stateNow : GoodIn wsX11_hides wsX11_stateNow := goodIn_r _ [33, 25, 26, 27, 5, 28, 29, 34, 35, 36, 37, 38, 1, 39, 40, 41, 42, 43, 44, 45, 46, 47, 48, 49, 50, 51, 52, 53, 54, 55, 56, 57, 58, 59, 60, 61, 62, 63, 64, 65, 66, 67, 68, 69, 70, 71, 72, 73, 74, 75, 76, 77, 78, 79, 80, 81, 82, 83, 84, 85, 86, 87, 88, 89, 90, 91, 92, 93, 94, 95, 96, 97, 98, 99, 100, 101, 102, 103, 104, 105, 106, 107, 108, 109, 110, 111, 13, 14, 15, 112, 113, 114, 115, 116, 117, 118, 119, 120, 121, 122, 123, 124, 125, 126, 127, 128, 129, 130, 131, 132, 133, 134] (by decide +kernel) (by decide +kernel)
set_option maxRecDepth 20000 in
theorem gX11_hides_X11_stateNow : GoodIn wsX11_hides (wsV RX11 218 RX11 yX11_stateNow wsX11_stateNow) := goodIn_app (goodIn_of _ (by decide +kernel)) ggX11_hides_X11_stateNow
set_option maxRecDepth 20000 in
theorem ggX11_hides_X11_hider : GoodIn wsX11_hides wsX11_hider := goodIn_r _ [99, 1, 25, 26, 27, 5, 28, 29, 100, 101, 102, 103, 48, 49, 38, 112, 113, 114, 115, 116, 117, 118, 119, 120, 121, 122, 123, 124, 125, 126, 127, 128, 129, 130, 131, 132, 133, 134] (by decide +kernel) (by decide +kernel)
set_option maxRecDepth 20000 in
theorem gX11_hides_X11_hider : GoodIn wsX11_hides (wsV RX11 199 RX11 yX11_hider wsX11_hider) := goodIn_app (goodIn_of _ (by decide +kernel)) ggX11_hides_X11_hider
theorem dX11_hides_0 : decode cX11_hides 0 = .ok (.aload_n 0, 1) := by decide +kernel
theorem dX11_hides_1 : decode cX11_hides 1 = .ok (.iload_n 1, 1) := by decide +kernel
theorem dX11_hides_2 : decode cX11_hides 2 = .ok (.iload_n 2, 1) := by decide +kernel
theorem dX11_hides_3 : decode cX11_hides 3 = .ok (.iload_n 3, 1) := by decide +kernel
theorem dX11_hides_4 : decode cX11_hides 4 = .ok (.invokevirtual 214, 3) := by decide +kernel
theorem dX11_hides_7 : decode cX11_hides 7 = .ok (.istore 4, 2) := by decide +kernel
theorem dX11_hides_9 : decode cX11_hides 9 = .ok (.iload 4, 2) := by decide +kernel
theorem dX11_hides_11 : decode cX11_hides 11 = .ok (.ifCond .ge 8, 3) := by decide +kernel
theorem dX11_hides_14 : decode cX11_hides 14 = .ok (.iload 4, 2) := by decide +kernel
theorem dX11_hides_16 : decode cX11_hides 16 = .ok (.goto 24, 3) := by decide +kernel
theorem dX11_hides_19 : decode cX11_hides 19 = .ok (.aload_n 0, 1) := by decide +kernel
theorem dX11_hides_20 : decode cX11_hides 20 = .ok (.iload_n 1, 1) := by decide +kernel
theorem dX11_hides_21 : decode cX11_hides 21 = .ok (.iload_n 2, 1) := by decide +kernel
theorem dX11_hides_22 : decode cX11_hides 22 = .ok (.iload_n 3, 1) := by decide +kernel
theorem dX11_hides_23 : decode cX11_hides 23 = .ok (.invokevirtual 218, 3) := by decide +kernel
theorem dX11_hides_26 : decode cX11_hides 26 = .ok (.iconst 3, 1) := by decide +kernel
theorem dX11_hides_27 : decode cX11_hides 27 = .ok (.if_icmp .ne 11, 3) := by decide +kernel
theorem dX11_hides_30 : decode cX11_hides 30 = .ok (.aload_n 0, 1) := by decide +kernel
theorem dX11_hides_31 : decode cX11_hides 31 = .ok (.iload_n 1, 1) := by decide +kernel
theorem dX11_hides_32 : decode cX11_hides 32 = .ok (.invokevirtual 199, 3) := by decide +kernel
theorem dX11_hides_35 : decode cX11_hides 35 = .ok (.goto 5, 3) := by decide +kernel
theorem dX11_hides_38 : decode cX11_hides 38 = .ok (.ldc 172, 2) := by decide +kernel
theorem dX11_hides_40 : decode cX11_hides 40 = .ok (.ireturn, 1) := by decide +kernel
set_option maxRecDepth 20000 in
theorem ggX11_end_X11_isIn : GoodIn wsX11_end wsX11_isIn := goodIn_r _ [8] (by decide +kernel) (by decide +kernel)
set_option maxRecDepth 20000 in
theorem gX11_end_X11_isIn : GoodIn wsX11_end (va_wsS RX11 69 yX11_isIn wsX11_isIn) := goodIn_app (goodIn_of _ (by decide +kernel)) ggX11_end_X11_isIn
set_option maxRecDepth 20000 in
theorem ggX11_end_X11_ask : GoodIn wsX11_end wsX11_ask := goodIn_r _ [12, 1, 13, 14, 15, 7, 16, 17, 5, 6, 8, 18, 19, 20, 21, 22, 23, 24, 25, 26, 27, 28, 29, 30, 31, 112, 113, 114, 115, 116, 117, 118, 119, 120, 121, 122, 123, 124, 125, 126, 127, 128, 129, 130, 131, 132, 133, 134] (by decide +kernel) (by decide +kernel)
set_option maxRecDepth 20000 in
theorem gX11_end_X11_ask : GoodIn wsX11_end (wsV RX11 214 RX11 yX11_ask wsX11_ask) := goodIn_app (goodIn_of _ (by decide +kernel)) ggX11_end_X11_ask
set_option maxRecDepth 20000 in
theorem ggX11_end_X11_stateNow : GoodIn wsX11_end wsX11_stateNow := goodIn_r _ [35, 27, 28, 29, 7, 30, 31, 36, 37, 38, 39, 40, 2, 3, 41, 42, 4, 43, 44, 45, 46, 47, 48, 49, 50, 51, 52, 53, 54, 55, 56, 57, 58, 59, 60, 61, 62, 63, 64, 65, 66, 67, 68, 69, 70, 71, 72, 73, 74, 75, 76, 77, 78, 79, 80, 81, 82, 83, 84, 85, 86, 87, 88, 89, 90, 91, 92, 93, 94, 95, 96, 97, 98, 99, 100, 101, 102, 103, 104, 105, 106, 107, 108, 109, 110, 111, 5, 6, 8, 112, 113, 114, 115, 116, 117, 118, 119, 120, 121, 122, 123, 124, 125, 126, 127, 128, 129, 130, 131, 132, 133, 134] (by decide +kernel) (by decide +kernel)
set_option maxRecDepth 20000 in
theorem gX11_end_X11_stateNow : GoodIn wsX11_end (wsV RX11 218 RX11 yX11_stateNow wsX11_stateNow) := goodIn_app (goodIn_of _ (by decide +kernel)) ggX11_end_X11_stateNow
theorem dX11_end_0 : decode cX11_end 0 = .ok (.iload 4, 2) := by decide +kernel
theorem dX11_end_2 : decode cX11_end 2 = .ok (.i2l, 1) := by decide +kernel
theorem dX11_end_3 : decode cX11_end 3 = .ok (.lconst 0, 1) := by decide +kernel
theorem dX11_end_4 : decode cX11_end 4 = .ok (.lconst 1, 1) := by decide +kernel
theorem dX11_end_5 : decode cX11_end 5 = .ok (.invokestatic 69, 3) := by decide +kernel
theorem dX11_end_8 : decode cX11_end 8 = .ok (.ifCond .eq 13, 3) := by decide +kernel
theorem dX11_end_11 : decode cX11_end 11 = .ok (.aload_n 0, 1) := by decide +kernel
theorem dX11_end_12 : decode cX11_end 12 = .ok (.iload_n 1, 1) := by decide +kernel
theorem dX11_end_13 : decode cX11_end 13 = .ok (.iload_n 2, 1) := by decide +kernel
theorem dX11_end_14 : decode cX11_end 14 = .ok (.iload_n 3, 1) := by decide +kernel
theorem dX11_end_15 : decode cX11_end 15 = .ok (.invokevirtual 214, 3) := by decide +kernel
theorem dX11_end_18 : decode cX11_end 18 = .ok (.goto 5, 3) := by decide +kernel
theorem dX11_end_21 : decode cX11_end 21 = .ok (.ldc 73, 2) := by decide +kernel
theorem dX11_end_23 : decode cX11_end 23 = .ok (.istore 5, 2) := by decide +kernel
theorem dX11_end_25 : decode cX11_end 25 = .ok (.iload 5, 2) := by decide +kernel
theorem dX11_end_27 : decode cX11_end 27 = .ok (.ifCond .ge 6, 3) := by decide +kernel
theorem dX11_end_30 : decode cX11_end 30 = .ok (.iload 5, 2) := by decide +kernel
theorem dX11_end_32 : decode cX11_end 32 = .ok (.ireturn, 1) := by decide +kernel
theorem dX11_end_33 : decode cX11_end 33 = .ok (.aload_n 0, 1) := by decide +kernel
theorem dX11_end_34 : decode cX11_end 34 = .ok (.iload_n 1, 1) := by decide +kernel
theorem dX11_end_35 : decode cX11_end 35 = .ok (.iload_n 2, 1) := by decide +kernel
theorem dX11_end_36 : decode cX11_end 36 = .ok (.iload_n 3, 1) := by decide +kernel
theorem dX11_end_37 : decode cX11_end 37 = .ok (.invokevirtual 218, 3) := by decide +kernel
theorem dX11_end_40 : decode cX11_end 40 = .ok (.ifCond .eq 6, 3) := by decide +kernel
theorem dX11_end_43 : decode cX11_end 43 = .ok (.ldc 172, 2) := by decide +kernel
theorem dX11_end_45 : decode cX11_end 45 = .ok (.ireturn, 1) := by decide +kernel
theorem dX11_end_46 : decode cX11_end 46 = .ok (.iload 4, 2) := by decide +kernel
theorem dX11_end_48 : decode cX11_end 48 = .ok (.ifCond .ne 10, 3) := by decide +kernel
theorem dX11_end_51 : decode cX11_end 51 = .ok (.aload_n 0, 1) := by decide +kernel
theorem dX11_end_52 : decode cX11_end 52 = .ok (.getfield 189, 3) := by decide +kernel
theorem dX11_end_55 : decode cX11_end 55 = .ok (.goto 7, 3) := by decide +kernel
theorem dX11_end_58 : decode cX11_end 58 = .ok (.aload_n 0, 1) := by decide +kernel
theorem dX11_end_59 : decode cX11_end 59 = .ok (.getfield 192, 3) := by decide +kernel
theorem dX11_end_62 : decode cX11_end 62 = .ok (.l2i, 1) := by decide +kernel
theorem dX11_end_63 : decode cX11_end 63 = .ok (.ireturn, 1) := by decide +kernel
set_option maxRecDepth 20000 in
theorem ggX11_line_X11_isPlace : GoodIn wsX11_line wsX11_isPlace := goodIn_r _ [12, 13, 14, 15, 11, 16] (by decide +kernel) (by decide +kernel)
set_option maxRecDepth 20000 in
theorem gX11_line_X11_isPlace : GoodIn wsX11_line (va_wsS RX11 142 yX11_isPlace wsX11_isPlace) := goodIn_app (goodIn_of _ (by decide +kernel)) ggX11_line_X11_isPlace
set_option maxRecDepth 20000 in
theorem ggX11_line_X11_isIn : GoodIn wsX11_line wsX11_isIn := goodIn_r _ [16] (by decide +kernel) (by decide +kernel)
set_option maxRecDepth 20000 in
theorem gX11_line_X11_isIn : GoodIn wsX11_line (va_wsS RX11 69 yX11_isIn wsX11_isIn) := goodIn_app (goodIn_of _ (by decide +kernel)) ggX11_line_X11_isIn
set_option maxRecDepth 20000 in
theorem ggX11_line_X11_isDial : GoodIn wsX11_line wsX11_isDial := goodIn_r _ [20, 21, 22, 23, 11, 24, 25, 106, 107, 108, 109, 110, 111, 112, 113, 114, 115, 116, 117, 118, 119, 120, 121, 122, 123, 124, 125, 126, 127, 128] (by decide +kernel) (by decide +kernel)
set_option maxRecDepth 20000 in
theorem gX11_line_X11_isDial : GoodIn wsX11_line (wsV RX11 164 RX11 yX11_isDial wsX11_isDial) := goodIn_app (goodIn_of _ (by decide +kernel)) ggX11_line_X11_isDial
set_option maxRecDepth 20000 in
theorem ggX11_line_X11_stateNow : GoodIn wsX11_line wsX11_stateNow := goodIn_r _ [29, 21, 22, 23, 11, 24, 25, 30, 31, 32, 33, 34, 8, 6, 35, 36, 7, 37, 38, 39, 40, 41, 42, 43, 44, 45, 46, 47, 48, 49, 50, 51, 52, 53, 54, 55, 56, 57, 58, 59, 60, 61, 62, 63, 64, 65, 66, 67, 68, 69, 70, 71, 72, 73, 74, 75, 76, 77, 78, 79, 80, 81, 82, 83, 84, 85, 86, 87, 88, 89, 90, 91, 92, 93, 94, 95, 96, 97, 98, 99, 100, 101, 102, 103, 104, 105, 14, 15, 16, 106, 107, 108, 109, 110, 111, 112, 113, 114, 115, 116, 117, 118, 119, 120, 121, 122, 123, 124, 125, 126, 127, 128] (by decide +kernel) (by decide +kernel)
set_option maxRecDepth 20000 in
theorem gX11_line_X11_stateNow : GoodIn wsX11_line (wsV RX11 218 RX11 yX11_stateNow wsX11_stateNow) := goodIn_app (goodIn_of _ (by decide +kernel)) ggX11_line_X11_stateNow
theorem dX11_line_0 : decode cX11_line 0 = .ok (.iload_n 1, 1) := by decide +kernel
theorem dX11_line_1 : decode cX11_line 1 = .ok (.invokestatic 142, 3) := by decide +kernel
theorem dX11_line_4 : decode cX11_line 4 = .ok (.ifCond .eq 27, 3) := by decide +kernel
theorem dX11_line_7 : decode cX11_line 7 = .ok (.iload_n 2, 1) := by decide +kernel
theorem dX11_line_8 : decode cX11_line 8 = .ok (.i2l, 1) := by decide +kernel
theorem dX11_line_9 : decode cX11_line 9 = .ok (.lconst 0, 1) := by decide +kernel
theorem dX11_line_10 : decode cX11_line 10 = .ok (.ldc2_w 170, 3) := by decide +kernel
theorem dX11_line_13 : decode cX11_line 13 = .ok (.invokestatic 69, 3) := by decide +kernel
theorem dX11_line_16 : decode cX11_line 16 = .ok (.ifCond .eq 15, 3) := by decide +kernel
theorem dX11_line_19 : decode cX11_line 19 = .ok (.iload_n 3, 1) := by decide +kernel
theorem dX11_line_20 : decode cX11_line 20 = .ok (.i2l, 1) := by decide +kernel
theorem dX11_line_21 : decode cX11_line 21 = .ok (.lconst 0, 1) := by decide +kernel
theorem dX11_line_22 : decode cX11_line 22 = .ok (.ldc2_w 221, 3) := by decide +kernel
theorem dX11_line_25 : decode cX11_line 25 = .ok (.invokestatic 69, 3) := by decide +kernel
theorem dX11_line_28 : decode cX11_line 28 = .ok (.ifCond .ne 6, 3) := by decide +kernel
theorem dX11_line_31 : decode cX11_line 31 = .ok (.ldc 73, 2) := by decide +kernel
theorem dX11_line_33 : decode cX11_line 33 = .ok (.ireturn, 1) := by decide +kernel
theorem dX11_line_34 : decode cX11_line 34 = .ok (.aload_n 0, 1) := by decide +kernel
theorem dX11_line_35 : decode cX11_line 35 = .ok (.iload_n 1, 1) := by decide +kernel
theorem dX11_line_36 : decode cX11_line 36 = .ok (.invokevirtual 164, 3) := by decide +kernel
theorem dX11_line_39 : decode cX11_line 39 = .ok (.ifCond .ne 6, 3) := by decide +kernel
theorem dX11_line_42 : decode cX11_line 42 = .ok (.ldc 141, 2) := by decide +kernel
theorem dX11_line_44 : decode cX11_line 44 = .ok (.ireturn, 1) := by decide +kernel
theorem dX11_line_45 : decode cX11_line 45 = .ok (.iconst 0, 1) := by decide +kernel
theorem dX11_line_46 : decode cX11_line 46 = .ok (.istore 4, 2) := by decide +kernel
theorem dX11_line_48 : decode cX11_line 48 = .ok (.aload_n 0, 1) := by decide +kernel
theorem dX11_line_49 : decode cX11_line 49 = .ok (.getfield 32, 3) := by decide +kernel
theorem dX11_line_52 : decode cX11_line 52 = .ok (.astore 5, 2) := by decide +kernel
theorem dX11_line_54 : decode cX11_line 54 = .ok (.iconst 0, 1) := by decide +kernel
theorem dX11_line_55 : decode cX11_line 55 = .ok (.istore 6, 2) := by decide +kernel
theorem dX11_line_57 : decode cX11_line 57 = .ok (.iload 6, 2) := by decide +kernel
theorem dX11_line_59 : decode cX11_line 59 = .ok (.sipush 366, 3) := by decide +kernel
theorem dX11_line_62 : decode cX11_line 62 = .ok (.if_icmp .ge 183, 3) := by decide +kernel
theorem dX11_line_65 : decode cX11_line 65 = .ok (.aload_n 0, 1) := by decide +kernel
theorem dX11_line_66 : decode cX11_line 66 = .ok (.iload_n 1, 1) := by decide +kernel
theorem dX11_line_67 : decode cX11_line 67 = .ok (.iload 6, 2) := by decide +kernel
theorem dX11_line_69 : decode cX11_line 69 = .ok (.bipush 60, 2) := by decide +kernel
theorem dX11_line_71 : decode cX11_line 71 = .ok (.iload_n 2, 1) := by decide +kernel
theorem dX11_line_72 : decode cX11_line 72 = .ok (.imul, 1) := by decide +kernel
theorem dX11_line_73 : decode cX11_line 73 = .ok (.invokevirtual 218, 3) := by decide +kernel
theorem dX11_line_76 : decode cX11_line 76 = .ok (.ifCond .ne 163, 3) := by decide +kernel
theorem dX11_line_79 : decode cX11_line 79 = .ok (.aload 5, 2) := by decide +kernel
theorem dX11_line_81 : decode cX11_line 81 = .ok (.iconst 1, 1) := by decide +kernel
theorem dX11_line_82 : decode cX11_line 82 = .ok (.iload 4, 2) := by decide +kernel
theorem dX11_line_84 : decode cX11_line 84 = .ok (.ifCond .ne 9, 3) := by decide +kernel
theorem dX11_line_87 : decode cX11_line 87 = .ok (.iload 6, 2) := by decide +kernel
theorem dX11_line_89 : decode cX11_line 89 = .ok (.i2l, 1) := by decide +kernel
theorem dX11_line_90 : decode cX11_line 90 = .ok (.goto 7, 3) := by decide +kernel
theorem dX11_line_93 : decode cX11_line 93 = .ok (.aload 5, 2) := by decide +kernel
theorem dX11_line_95 : decode cX11_line 95 = .ok (.iconst 1, 1) := by decide +kernel
theorem dX11_line_96 : decode cX11_line 96 = .ok (.laload, 1) := by decide +kernel
theorem dX11_line_97 : decode cX11_line 97 = .ok (.lastore, 1) := by decide +kernel
theorem dX11_line_98 : decode cX11_line 98 = .ok (.aload 5, 2) := by decide +kernel
theorem dX11_line_100 : decode cX11_line 100 = .ok (.iconst 2, 1) := by decide +kernel
theorem dX11_line_101 : decode cX11_line 101 = .ok (.iload 6, 2) := by decide +kernel
theorem dX11_line_103 : decode cX11_line 103 = .ok (.i2l, 1) := by decide +kernel
theorem dX11_line_104 : decode cX11_line 104 = .ok (.lastore, 1) := by decide +kernel
theorem dX11_line_105 : decode cX11_line 105 = .ok (.aload 5, 2) := by decide +kernel
theorem dX11_line_107 : decode cX11_line 107 = .ok (.iconst 3, 1) := by decide +kernel
theorem dX11_line_108 : decode cX11_line 108 = .ok (.iload 4, 2) := by decide +kernel
theorem dX11_line_110 : decode cX11_line 110 = .ok (.ifCond .eq 15, 3) := by decide +kernel
theorem dX11_line_113 : decode cX11_line 113 = .ok (.aload_n 0, 1) := by decide +kernel
theorem dX11_line_114 : decode cX11_line 114 = .ok (.getfield 189, 3) := by decide +kernel
theorem dX11_line_117 : decode cX11_line 117 = .ok (.aload 5, 2) := by decide +kernel
theorem dX11_line_119 : decode cX11_line 119 = .ok (.iconst 3, 1) := by decide +kernel
theorem dX11_line_120 : decode cX11_line 120 = .ok (.laload, 1) := by decide +kernel
theorem dX11_line_121 : decode cX11_line 121 = .ok (.lcmp, 1) := by decide +kernel
theorem dX11_line_122 : decode cX11_line 122 = .ok (.ifCond .ge 10, 3) := by decide +kernel
theorem dX11_line_125 : decode cX11_line 125 = .ok (.aload_n 0, 1) := by decide +kernel
theorem dX11_line_126 : decode cX11_line 126 = .ok (.getfield 189, 3) := by decide +kernel
theorem dX11_line_129 : decode cX11_line 129 = .ok (.goto 7, 3) := by decide +kernel
theorem dX11_line_132 : decode cX11_line 132 = .ok (.aload 5, 2) := by decide +kernel
theorem dX11_line_134 : decode cX11_line 134 = .ok (.iconst 3, 1) := by decide +kernel
theorem dX11_line_135 : decode cX11_line 135 = .ok (.laload, 1) := by decide +kernel
theorem dX11_line_136 : decode cX11_line 136 = .ok (.lastore, 1) := by decide +kernel
theorem dX11_line_137 : decode cX11_line 137 = .ok (.aload 5, 2) := by decide +kernel
theorem dX11_line_139 : decode cX11_line 139 = .ok (.iconst 4, 1) := by decide +kernel
theorem dX11_line_140 : decode cX11_line 140 = .ok (.iload 4, 2) := by decide +kernel
theorem dX11_line_142 : decode cX11_line 142 = .ok (.ifCond .eq 15, 3) := by decide +kernel
theorem dX11_line_145 : decode cX11_line 145 = .ok (.aload_n 0, 1) := by decide +kernel
theorem dX11_line_146 : decode cX11_line 146 = .ok (.getfield 189, 3) := by decide +kernel
theorem dX11_line_149 : decode cX11_line 149 = .ok (.aload 5, 2) := by decide +kernel
theorem dX11_line_151 : decode cX11_line 151 = .ok (.iconst 4, 1) := by decide +kernel
theorem dX11_line_152 : decode cX11_line 152 = .ok (.laload, 1) := by decide +kernel
theorem dX11_line_153 : decode cX11_line 153 = .ok (.lcmp, 1) := by decide +kernel
theorem dX11_line_154 : decode cX11_line 154 = .ok (.ifCond .le 10, 3) := by decide +kernel
theorem dX11_line_157 : decode cX11_line 157 = .ok (.aload_n 0, 1) := by decide +kernel
theorem dX11_line_158 : decode cX11_line 158 = .ok (.getfield 189, 3) := by decide +kernel
theorem dX11_line_161 : decode cX11_line 161 = .ok (.goto 7, 3) := by decide +kernel
theorem dX11_line_164 : decode cX11_line 164 = .ok (.aload 5, 2) := by decide +kernel
theorem dX11_line_166 : decode cX11_line 166 = .ok (.iconst 4, 1) := by decide +kernel
theorem dX11_line_167 : decode cX11_line 167 = .ok (.laload, 1) := by decide +kernel
theorem dX11_line_168 : decode cX11_line 168 = .ok (.lastore, 1) := by decide +kernel
theorem dX11_line_169 : decode cX11_line 169 = .ok (.aload 5, 2) := by decide +kernel
theorem dX11_line_171 : decode cX11_line 171 = .ok (.iconst 5, 1) := by decide +kernel
theorem dX11_line_172 : decode cX11_line 172 = .ok (.iload 4, 2) := by decide +kernel
theorem dX11_line_174 : decode cX11_line 174 = .ok (.ifCond .eq 15, 3) := by decide +kernel
theorem dX11_line_177 : decode cX11_line 177 = .ok (.aload_n 0, 1) := by decide +kernel
theorem dX11_line_178 : decode cX11_line 178 = .ok (.getfield 192, 3) := by decide +kernel
theorem dX11_line_181 : decode cX11_line 181 = .ok (.aload 5, 2) := by decide +kernel
theorem dX11_line_183 : decode cX11_line 183 = .ok (.iconst 5, 1) := by decide +kernel
theorem dX11_line_184 : decode cX11_line 184 = .ok (.laload, 1) := by decide +kernel
theorem dX11_line_185 : decode cX11_line 185 = .ok (.lcmp, 1) := by decide +kernel
theorem dX11_line_186 : decode cX11_line 186 = .ok (.ifCond .ge 10, 3) := by decide +kernel
theorem dX11_line_189 : decode cX11_line 189 = .ok (.aload_n 0, 1) := by decide +kernel
theorem dX11_line_190 : decode cX11_line 190 = .ok (.getfield 192, 3) := by decide +kernel
theorem dX11_line_193 : decode cX11_line 193 = .ok (.goto 7, 3) := by decide +kernel
theorem dX11_line_196 : decode cX11_line 196 = .ok (.aload 5, 2) := by decide +kernel
theorem dX11_line_198 : decode cX11_line 198 = .ok (.iconst 5, 1) := by decide +kernel
theorem dX11_line_199 : decode cX11_line 199 = .ok (.laload, 1) := by decide +kernel
theorem dX11_line_200 : decode cX11_line 200 = .ok (.lastore, 1) := by decide +kernel
theorem dX11_line_201 : decode cX11_line 201 = .ok (.aload 5, 2) := by decide +kernel
theorem dX11_line_203 : decode cX11_line 203 = .ok (.bipush 6, 2) := by decide +kernel
theorem dX11_line_205 : decode cX11_line 205 = .ok (.iload 4, 2) := by decide +kernel
theorem dX11_line_207 : decode cX11_line 207 = .ok (.ifCond .eq 16, 3) := by decide +kernel
theorem dX11_line_210 : decode cX11_line 210 = .ok (.aload_n 0, 1) := by decide +kernel
theorem dX11_line_211 : decode cX11_line 211 = .ok (.getfield 192, 3) := by decide +kernel
theorem dX11_line_214 : decode cX11_line 214 = .ok (.aload 5, 2) := by decide +kernel
theorem dX11_line_216 : decode cX11_line 216 = .ok (.bipush 6, 2) := by decide +kernel
theorem dX11_line_218 : decode cX11_line 218 = .ok (.laload, 1) := by decide +kernel
theorem dX11_line_219 : decode cX11_line 219 = .ok (.lcmp, 1) := by decide +kernel
theorem dX11_line_220 : decode cX11_line 220 = .ok (.ifCond .le 10, 3) := by decide +kernel
theorem dX11_line_223 : decode cX11_line 223 = .ok (.aload_n 0, 1) := by decide +kernel
theorem dX11_line_224 : decode cX11_line 224 = .ok (.getfield 192, 3) := by decide +kernel
theorem dX11_line_227 : decode cX11_line 227 = .ok (.goto 8, 3) := by decide +kernel
theorem dX11_line_230 : decode cX11_line 230 = .ok (.aload 5, 2) := by decide +kernel
theorem dX11_line_232 : decode cX11_line 232 = .ok (.bipush 6, 2) := by decide +kernel
theorem dX11_line_234 : decode cX11_line 234 = .ok (.laload, 1) := by decide +kernel
theorem dX11_line_235 : decode cX11_line 235 = .ok (.lastore, 1) := by decide +kernel
theorem dX11_line_236 : decode cX11_line 236 = .ok (.iinc 4 1, 3) := by decide +kernel
theorem dX11_line_239 : decode cX11_line 239 = .ok (.iinc 6 1, 3) := by decide +kernel
theorem dX11_line_242 : decode cX11_line 242 = .ok (.goto (-185), 3) := by decide +kernel
theorem dX11_line_245 : decode cX11_line 245 = .ok (.iload_n 3, 1) := by decide +kernel
theorem dX11_line_246 : decode cX11_line 246 = .ok (.ifCond .ne 8, 3) := by decide +kernel
theorem dX11_line_249 : decode cX11_line 249 = .ok (.iload 4, 2) := by decide +kernel
theorem dX11_line_251 : decode cX11_line 251 = .ok (.goto 18, 3) := by decide +kernel
theorem dX11_line_254 : decode cX11_line 254 = .ok (.iload 4, 2) := by decide +kernel
theorem dX11_line_256 : decode cX11_line 256 = .ok (.ifCond .ne 8, 3) := by decide +kernel
theorem dX11_line_259 : decode cX11_line 259 = .ok (.ldc 172, 2) := by decide +kernel
theorem dX11_line_261 : decode cX11_line 261 = .ok (.goto 8, 3) := by decide +kernel
theorem dX11_line_264 : decode cX11_line 264 = .ok (.aload 5, 2) := by decide +kernel
theorem dX11_line_266 : decode cX11_line 266 = .ok (.iload_n 3, 1) := by decide +kernel
theorem dX11_line_267 : decode cX11_line 267 = .ok (.laload, 1) := by decide +kernel
theorem dX11_line_268 : decode cX11_line 268 = .ok (.l2i, 1) := by decide +kernel
theorem dX11_line_269 : decode cX11_line 269 = .ok (.ireturn, 1) := by decide +kernel
set_option maxRecDepth 20000 in
theorem ggX11_findMarks_X11_get : GoodIn wsX11_findMarks wsX11_get := goodIn_r _ [10, 11, 96, 97, 98, 99, 100, 101, 102, 103, 104, 105, 106, 107, 108, 109, 110, 111, 112, 113, 114, 115, 116, 117, 118] (by decide +kernel) (by decide +kernel)
set_option maxRecDepth 20000 in
theorem gX11_findMarks_X11_get : GoodIn wsX11_findMarks (wsV RX11 137 RX11 yX11_get wsX11_get) := goodIn_app (goodIn_of _ (by decide +kernel)) ggX11_findMarks_X11_get
set_option maxRecDepth 20000 in
theorem ggX11_findMarks_X11_stateNow : GoodIn wsX11_findMarks wsX11_stateNow := goodIn_r _ [15, 6, 7, 8, 9, 10, 11, 16, 17, 18, 19, 20, 21, 3, 22, 23, 5, 24, 25, 26, 27, 28, 29, 30, 31, 32, 33, 34, 35, 36, 37, 38, 39, 40, 41, 42, 43, 44, 45, 46, 47, 48, 49, 50, 51, 52, 53, 54, 55, 56, 57, 58, 59, 60, 61, 62, 63, 64, 65, 66, 67, 68, 69, 70, 71, 72, 73, 74, 75, 76, 77, 78, 79, 80, 81, 82, 83, 84, 85, 86, 87, 88, 89, 90, 91, 92, 93, 94, 95, 96, 97, 98, 99, 100, 101, 102, 103, 104, 105, 106, 107, 108, 109, 110, 111, 112, 113, 114, 115, 116, 117, 118] (by decide +kernel) (by decide +kernel)
set_option maxRecDepth 20000 in
theorem gX11_findMarks_X11_stateNow : GoodIn wsX11_findMarks (wsV RX11 218 RX11 yX11_stateNow wsX11_stateNow) := goodIn_app (goodIn_of _ (by decide +kernel)) ggX11_findMarks_X11_stateNow
theorem dX11_findMarks_0 : decode cX11_findMarks 0 = .ok (.iconst 0, 1) := by decide +kernel
theorem dX11_findMarks_1 : decode cX11_findMarks 1 = .ok (.istore_n 3, 1) := by decide +kernel
theorem dX11_findMarks_2 : decode cX11_findMarks 2 = .ok (.iload_n 3, 1) := by decide +kernel
theorem dX11_findMarks_3 : decode cX11_findMarks 3 = .ok (.bipush 24, 2) := by decide +kernel
theorem dX11_findMarks_5 : decode cX11_findMarks 5 = .ok (.if_icmp .ge 68, 3) := by decide +kernel
theorem dX11_findMarks_8 : decode cX11_findMarks 8 = .ok (.aload_n 0, 1) := by decide +kernel
theorem dX11_findMarks_9 : decode cX11_findMarks 9 = .ok (.getfield 42, 3) := by decide +kernel
theorem dX11_findMarks_12 : decode cX11_findMarks 12 = .ok (.iload_n 3, 1) := by decide +kernel
theorem dX11_findMarks_13 : decode cX11_findMarks 13 = .ok (.aload_n 0, 1) := by decide +kernel
theorem dX11_findMarks_14 : decode cX11_findMarks 14 = .ok (.iload_n 1, 1) := by decide +kernel
theorem dX11_findMarks_15 : decode cX11_findMarks 15 = .ok (.bipush 6, 2) := by decide +kernel
theorem dX11_findMarks_17 : decode cX11_findMarks 17 = .ok (.invokevirtual 137, 3) := by decide +kernel
theorem dX11_findMarks_20 : decode cX11_findMarks 20 = .ok (.iload_n 3, 1) := by decide +kernel
theorem dX11_findMarks_21 : decode cX11_findMarks 21 = .ok (.ishr, 1) := by decide +kernel
theorem dX11_findMarks_22 : decode cX11_findMarks 22 = .ok (.iconst 1, 1) := by decide +kernel
theorem dX11_findMarks_23 : decode cX11_findMarks 23 = .ok (.iand, 1) := by decide +kernel
theorem dX11_findMarks_24 : decode cX11_findMarks 24 = .ok (.iconst 1, 1) := by decide +kernel
theorem dX11_findMarks_25 : decode cX11_findMarks 25 = .ok (.if_icmp .ne 20, 3) := by decide +kernel
theorem dX11_findMarks_28 : decode cX11_findMarks 28 = .ok (.aload_n 0, 1) := by decide +kernel
theorem dX11_findMarks_29 : decode cX11_findMarks 29 = .ok (.iload_n 1, 1) := by decide +kernel
theorem dX11_findMarks_30 : decode cX11_findMarks 30 = .ok (.iload_n 2, 1) := by decide +kernel
theorem dX11_findMarks_31 : decode cX11_findMarks 31 = .ok (.bipush 60, 2) := by decide +kernel
theorem dX11_findMarks_33 : decode cX11_findMarks 33 = .ok (.iload_n 3, 1) := by decide +kernel
theorem dX11_findMarks_34 : decode cX11_findMarks 34 = .ok (.imul, 1) := by decide +kernel
theorem dX11_findMarks_35 : decode cX11_findMarks 35 = .ok (.invokevirtual 218, 3) := by decide +kernel
theorem dX11_findMarks_38 : decode cX11_findMarks 38 = .ok (.ifCond .ne 7, 3) := by decide +kernel
theorem dX11_findMarks_41 : decode cX11_findMarks 41 = .ok (.iconst 1, 1) := by decide +kernel
theorem dX11_findMarks_42 : decode cX11_findMarks 42 = .ok (.goto 4, 3) := by decide +kernel
theorem dX11_findMarks_45 : decode cX11_findMarks 45 = .ok (.iconst 0, 1) := by decide +kernel
theorem dX11_findMarks_46 : decode cX11_findMarks 46 = .ok (.bastore, 1) := by decide +kernel
theorem dX11_findMarks_47 : decode cX11_findMarks 47 = .ok (.aload_n 0, 1) := by decide +kernel
theorem dX11_findMarks_48 : decode cX11_findMarks 48 = .ok (.getfield 36, 3) := by decide +kernel
theorem dX11_findMarks_51 : decode cX11_findMarks 51 = .ok (.iload_n 3, 1) := by decide +kernel
theorem dX11_findMarks_52 : decode cX11_findMarks 52 = .ok (.aload_n 0, 1) := by decide +kernel
theorem dX11_findMarks_53 : decode cX11_findMarks 53 = .ok (.getfield 189, 3) := by decide +kernel
theorem dX11_findMarks_56 : decode cX11_findMarks 56 = .ok (.lastore, 1) := by decide +kernel
theorem dX11_findMarks_57 : decode cX11_findMarks 57 = .ok (.aload_n 0, 1) := by decide +kernel
theorem dX11_findMarks_58 : decode cX11_findMarks 58 = .ok (.getfield 39, 3) := by decide +kernel
theorem dX11_findMarks_61 : decode cX11_findMarks 61 = .ok (.iload_n 3, 1) := by decide +kernel
theorem dX11_findMarks_62 : decode cX11_findMarks 62 = .ok (.aload_n 0, 1) := by decide +kernel
theorem dX11_findMarks_63 : decode cX11_findMarks 63 = .ok (.getfield 192, 3) := by decide +kernel
theorem dX11_findMarks_66 : decode cX11_findMarks 66 = .ok (.lastore, 1) := by decide +kernel
theorem dX11_findMarks_67 : decode cX11_findMarks 67 = .ok (.iinc 3 1, 3) := by decide +kernel
theorem dX11_findMarks_70 : decode cX11_findMarks 70 = .ok (.goto (-68), 3) := by decide +kernel
theorem dX11_findMarks_73 : decode cX11_findMarks 73 = .ok (.return_, 1) := by decide +kernel
theorem dX11_lies_0 : decode cX11_lies 0 = .ok (.aload_n 0, 1) := by decide +kernel
theorem dX11_lies_1 : decode cX11_lies 1 = .ok (.getfield 36, 3) := by decide +kernel
theorem dX11_lies_4 : decode cX11_lies 4 = .ok (.iload_n 2, 1) := by decide +kernel
theorem dX11_lies_5 : decode cX11_lies 5 = .ok (.laload, 1) := by decide +kernel
theorem dX11_lies_6 : decode cX11_lies 6 = .ok (.aload_n 0, 1) := by decide +kernel
theorem dX11_lies_7 : decode cX11_lies 7 = .ok (.getfield 36, 3) := by decide +kernel
theorem dX11_lies_10 : decode cX11_lies 10 = .ok (.iload_n 1, 1) := by decide +kernel
theorem dX11_lies_11 : decode cX11_lies 11 = .ok (.laload, 1) := by decide +kernel
theorem dX11_lies_12 : decode cX11_lies 12 = .ok (.lsub, 1) := by decide +kernel
theorem dX11_lies_13 : decode cX11_lies 13 = .ok (.lstore 7, 2) := by decide +kernel
theorem dX11_lies_15 : decode cX11_lies 15 = .ok (.aload_n 0, 1) := by decide +kernel
theorem dX11_lies_16 : decode cX11_lies 16 = .ok (.getfield 39, 3) := by decide +kernel
theorem dX11_lies_19 : decode cX11_lies 19 = .ok (.iload_n 2, 1) := by decide +kernel
theorem dX11_lies_20 : decode cX11_lies 20 = .ok (.laload, 1) := by decide +kernel
theorem dX11_lies_21 : decode cX11_lies 21 = .ok (.aload_n 0, 1) := by decide +kernel
theorem dX11_lies_22 : decode cX11_lies 22 = .ok (.getfield 39, 3) := by decide +kernel
theorem dX11_lies_25 : decode cX11_lies 25 = .ok (.iload_n 1, 1) := by decide +kernel
theorem dX11_lies_26 : decode cX11_lies 26 = .ok (.laload, 1) := by decide +kernel
theorem dX11_lies_27 : decode cX11_lies 27 = .ok (.lsub, 1) := by decide +kernel
theorem dX11_lies_28 : decode cX11_lies 28 = .ok (.lstore 9, 2) := by decide +kernel
theorem dX11_lies_30 : decode cX11_lies 30 = .ok (.lload 7, 2) := by decide +kernel
theorem dX11_lies_32 : decode cX11_lies 32 = .ok (.lload 7, 2) := by decide +kernel
theorem dX11_lies_34 : decode cX11_lies 34 = .ok (.lmul, 1) := by decide +kernel
theorem dX11_lies_35 : decode cX11_lies 35 = .ok (.lload 9, 2) := by decide +kernel
theorem dX11_lies_37 : decode cX11_lies 37 = .ok (.lload 9, 2) := by decide +kernel
theorem dX11_lies_39 : decode cX11_lies 39 = .ok (.lmul, 1) := by decide +kernel
theorem dX11_lies_40 : decode cX11_lies 40 = .ok (.ladd, 1) := by decide +kernel
theorem dX11_lies_41 : decode cX11_lies 41 = .ok (.lstore 11, 2) := by decide +kernel
theorem dX11_lies_43 : decode cX11_lies 43 = .ok (.lload_n 3, 1) := by decide +kernel
theorem dX11_lies_44 : decode cX11_lies 44 = .ok (.aload_n 0, 1) := by decide +kernel
theorem dX11_lies_45 : decode cX11_lies 45 = .ok (.getfield 36, 3) := by decide +kernel
theorem dX11_lies_48 : decode cX11_lies 48 = .ok (.iload_n 1, 1) := by decide +kernel
theorem dX11_lies_49 : decode cX11_lies 49 = .ok (.laload, 1) := by decide +kernel
theorem dX11_lies_50 : decode cX11_lies 50 = .ok (.lsub, 1) := by decide +kernel
theorem dX11_lies_51 : decode cX11_lies 51 = .ok (.lload 7, 2) := by decide +kernel
theorem dX11_lies_53 : decode cX11_lies 53 = .ok (.lmul, 1) := by decide +kernel
theorem dX11_lies_54 : decode cX11_lies 54 = .ok (.lload 5, 2) := by decide +kernel
theorem dX11_lies_56 : decode cX11_lies 56 = .ok (.aload_n 0, 1) := by decide +kernel
theorem dX11_lies_57 : decode cX11_lies 57 = .ok (.getfield 39, 3) := by decide +kernel
theorem dX11_lies_60 : decode cX11_lies 60 = .ok (.iload_n 1, 1) := by decide +kernel
theorem dX11_lies_61 : decode cX11_lies 61 = .ok (.laload, 1) := by decide +kernel
theorem dX11_lies_62 : decode cX11_lies 62 = .ok (.lsub, 1) := by decide +kernel
theorem dX11_lies_63 : decode cX11_lies 63 = .ok (.lload 9, 2) := by decide +kernel
theorem dX11_lies_65 : decode cX11_lies 65 = .ok (.lmul, 1) := by decide +kernel
theorem dX11_lies_66 : decode cX11_lies 66 = .ok (.ladd, 1) := by decide +kernel
theorem dX11_lies_67 : decode cX11_lies 67 = .ok (.lstore 13, 2) := by decide +kernel
theorem dX11_lies_69 : decode cX11_lies 69 = .ok (.lload 13, 2) := by decide +kernel
theorem dX11_lies_71 : decode cX11_lies 71 = .ok (.lconst 0, 1) := by decide +kernel
theorem dX11_lies_72 : decode cX11_lies 72 = .ok (.lcmp, 1) := by decide +kernel
theorem dX11_lies_73 : decode cX11_lies 73 = .ok (.ifCond .lt 11, 3) := by decide +kernel
theorem dX11_lies_76 : decode cX11_lies 76 = .ok (.lload 13, 2) := by decide +kernel
theorem dX11_lies_78 : decode cX11_lies 78 = .ok (.lload 11, 2) := by decide +kernel
theorem dX11_lies_80 : decode cX11_lies 80 = .ok (.lcmp, 1) := by decide +kernel
theorem dX11_lies_81 : decode cX11_lies 81 = .ok (.ifCond .lt 5, 3) := by decide +kernel
theorem dX11_lies_84 : decode cX11_lies 84 = .ok (.iconst 0, 1) := by decide +kernel
theorem dX11_lies_85 : decode cX11_lies 85 = .ok (.ireturn, 1) := by decide +kernel
theorem dX11_lies_86 : decode cX11_lies 86 = .ok (.aload_n 0, 1) := by decide +kernel
theorem dX11_lies_87 : decode cX11_lies 87 = .ok (.iload_n 1, 1) := by decide +kernel
theorem dX11_lies_88 : decode cX11_lies 88 = .ok (.putfield 223, 3) := by decide +kernel
theorem dX11_lies_91 : decode cX11_lies 91 = .ok (.aload_n 0, 1) := by decide +kernel
theorem dX11_lies_92 : decode cX11_lies 92 = .ok (.iload_n 2, 1) := by decide +kernel
theorem dX11_lies_93 : decode cX11_lies 93 = .ok (.putfield 226, 3) := by decide +kernel
theorem dX11_lies_96 : decode cX11_lies 96 = .ok (.aload_n 0, 1) := by decide +kernel
theorem dX11_lies_97 : decode cX11_lies 97 = .ok (.ldc2_w 229, 3) := by decide +kernel
theorem dX11_lies_100 : decode cX11_lies 100 = .ok (.iload_n 1, 1) := by decide +kernel
theorem dX11_lies_101 : decode cX11_lies 101 = .ok (.i2l, 1) := by decide +kernel
theorem dX11_lies_102 : decode cX11_lies 102 = .ok (.lmul, 1) := by decide +kernel
theorem dX11_lies_103 : decode cX11_lies 103 = .ok (.ldc2_w 229, 3) := by decide +kernel
theorem dX11_lies_106 : decode cX11_lies 106 = .ok (.iload_n 2, 1) := by decide +kernel
theorem dX11_lies_107 : decode cX11_lies 107 = .ok (.iload_n 1, 1) := by decide +kernel
theorem dX11_lies_108 : decode cX11_lies 108 = .ok (.isub, 1) := by decide +kernel
theorem dX11_lies_109 : decode cX11_lies 109 = .ok (.i2l, 1) := by decide +kernel
theorem dX11_lies_110 : decode cX11_lies 110 = .ok (.lmul, 1) := by decide +kernel
theorem dX11_lies_111 : decode cX11_lies 111 = .ok (.lload 13, 2) := by decide +kernel
theorem dX11_lies_113 : decode cX11_lies 113 = .ok (.lmul, 1) := by decide +kernel
theorem dX11_lies_114 : decode cX11_lies 114 = .ok (.lload 11, 2) := by decide +kernel
theorem dX11_lies_116 : decode cX11_lies 116 = .ok (.ldiv, 1) := by decide +kernel
theorem dX11_lies_117 : decode cX11_lies 117 = .ok (.ladd, 1) := by decide +kernel
theorem dX11_lies_118 : decode cX11_lies 118 = .ok (.putfield 231, 3) := by decide +kernel
theorem dX11_lies_121 : decode cX11_lies 121 = .ok (.iconst 1, 1) := by decide +kernel
theorem dX11_lies_122 : decode cX11_lies 122 = .ok (.ireturn, 1) := by decide +kernel
set_option maxRecDepth 20000 in
theorem ggX11_isRead_X11_stateNow : GoodIn wsX11_isRead wsX11_stateNow := goodIn_r _ [9, 10, 11, 12, 8, 13, 14, 15, 16, 17, 18, 19, 20, 1, 21, 22, 2, 23, 24, 25, 26, 27, 28, 29, 30, 31, 32, 33, 34, 35, 36, 37, 38, 39, 40, 41, 42, 43, 44, 45, 46, 47, 48, 49, 50, 51, 52, 53, 54, 55, 56, 57, 58, 59, 60, 61, 62, 63, 64, 65, 66, 67, 68, 69, 70, 71, 72, 73, 74, 75, 76, 77, 78, 79, 80, 81, 82, 83, 84, 85, 86, 87, 88, 89, 90, 91, 92, 93, 94, 104, 105, 106, 107, 108, 109, 110, 111, 112, 113, 114, 115, 116, 117, 118, 119, 120, 121, 122, 123, 124, 125, 126] (by decide +kernel) (by decide +kernel)
set_option maxRecDepth 20000 in
theorem gX11_isRead_X11_stateNow : GoodIn wsX11_isRead (wsV RX11 218 RX11 yX11_stateNow wsX11_stateNow) := goodIn_app (goodIn_of _ (by decide +kernel)) ggX11_isRead_X11_stateNow
set_option maxRecDepth 20000 in
theorem ggX11_isRead_X11_get : GoodIn wsX11_isRead wsX11_get := goodIn_r _ [13, 14, 104, 105, 106, 107, 108, 109, 110, 111, 112, 113, 114, 115, 116, 117, 118, 119, 120, 121, 122, 123, 124, 125, 126] (by decide +kernel) (by decide +kernel)
set_option maxRecDepth 20000 in
theorem gX11_isRead_X11_get : GoodIn wsX11_isRead (wsV RX11 137 RX11 yX11_get wsX11_get) := goodIn_app (goodIn_of _ (by decide +kernel)) ggX11_isRead_X11_get
set_option maxRecDepth 20000 in
theorem ggX11_isRead_X11_lies : GoodIn wsX11_isRead wsX11_lies := goodIn_r _ [98, 99, 4, 100, 101, 102, 103, 104, 105, 106, 107, 108, 109, 110, 111, 112, 113, 114, 115, 116, 117, 118, 119, 120, 121, 122, 123, 124, 125, 126] (by decide +kernel) (by decide +kernel)
set_option maxRecDepth 20000 in
theorem gX11_isRead_X11_lies : GoodIn wsX11_isRead (wsV RX11 234 RX11 yX11_lies wsX11_lies) := goodIn_app (goodIn_of _ (by decide +kernel)) ggX11_isRead_X11_lies
theorem dX11_isRead_0 : decode cX11_isRead 0 = .ok (.aload_n 0, 1) := by decide +kernel
theorem dX11_isRead_1 : decode cX11_isRead 1 = .ok (.iload_n 1, 1) := by decide +kernel
theorem dX11_isRead_2 : decode cX11_isRead 2 = .ok (.iload_n 2, 1) := by decide +kernel
theorem dX11_isRead_3 : decode cX11_isRead 3 = .ok (.iload_n 3, 1) := by decide +kernel
theorem dX11_isRead_4 : decode cX11_isRead 4 = .ok (.invokevirtual 218, 3) := by decide +kernel
theorem dX11_isRead_7 : decode cX11_isRead 7 = .ok (.ifCond .eq 5, 3) := by decide +kernel
theorem dX11_isRead_10 : decode cX11_isRead 10 = .ok (.iconst 0, 1) := by decide +kernel
theorem dX11_isRead_11 : decode cX11_isRead 11 = .ok (.ireturn, 1) := by decide +kernel
theorem dX11_isRead_12 : decode cX11_isRead 12 = .ok (.aload_n 0, 1) := by decide +kernel
theorem dX11_isRead_13 : decode cX11_isRead 13 = .ok (.getfield 189, 3) := by decide +kernel
theorem dX11_isRead_16 : decode cX11_isRead 16 = .ok (.lstore 4, 2) := by decide +kernel
theorem dX11_isRead_18 : decode cX11_isRead 18 = .ok (.aload_n 0, 1) := by decide +kernel
theorem dX11_isRead_19 : decode cX11_isRead 19 = .ok (.getfield 192, 3) := by decide +kernel
theorem dX11_isRead_22 : decode cX11_isRead 22 = .ok (.lstore 6, 2) := by decide +kernel
theorem dX11_isRead_24 : decode cX11_isRead 24 = .ok (.iconst (-1), 1) := by decide +kernel
theorem dX11_isRead_25 : decode cX11_isRead 25 = .ok (.istore 8, 2) := by decide +kernel
theorem dX11_isRead_27 : decode cX11_isRead 27 = .ok (.iconst 0, 1) := by decide +kernel
theorem dX11_isRead_28 : decode cX11_isRead 28 = .ok (.istore 9, 2) := by decide +kernel
theorem dX11_isRead_30 : decode cX11_isRead 30 = .ok (.iload 9, 2) := by decide +kernel
theorem dX11_isRead_32 : decode cX11_isRead 32 = .ok (.bipush 24, 2) := by decide +kernel
theorem dX11_isRead_34 : decode cX11_isRead 34 = .ok (.if_icmp .ge 68, 3) := by decide +kernel
theorem dX11_isRead_37 : decode cX11_isRead 37 = .ok (.aload_n 0, 1) := by decide +kernel
theorem dX11_isRead_38 : decode cX11_isRead 38 = .ok (.getfield 42, 3) := by decide +kernel
theorem dX11_isRead_41 : decode cX11_isRead 41 = .ok (.iload 9, 2) := by decide +kernel
theorem dX11_isRead_43 : decode cX11_isRead 43 = .ok (.baload, 1) := by decide +kernel
theorem dX11_isRead_44 : decode cX11_isRead 44 = .ok (.ifCond .eq 52, 3) := by decide +kernel
theorem dX11_isRead_47 : decode cX11_isRead 47 = .ok (.aload_n 0, 1) := by decide +kernel
theorem dX11_isRead_48 : decode cX11_isRead 48 = .ok (.iload_n 1, 1) := by decide +kernel
theorem dX11_isRead_49 : decode cX11_isRead 49 = .ok (.iconst 0, 1) := by decide +kernel
theorem dX11_isRead_50 : decode cX11_isRead 50 = .ok (.invokevirtual 137, 3) := by decide +kernel
theorem dX11_isRead_53 : decode cX11_isRead 53 = .ok (.iconst 5, 1) := by decide +kernel
theorem dX11_isRead_54 : decode cX11_isRead 54 = .ok (.if_icmp .ne 16, 3) := by decide +kernel
theorem dX11_isRead_57 : decode cX11_isRead 57 = .ok (.aload_n 0, 1) := by decide +kernel
theorem dX11_isRead_58 : decode cX11_isRead 58 = .ok (.getfield 39, 3) := by decide +kernel
theorem dX11_isRead_61 : decode cX11_isRead 61 = .ok (.iload 9, 2) := by decide +kernel
theorem dX11_isRead_63 : decode cX11_isRead 63 = .ok (.laload, 1) := by decide +kernel
theorem dX11_isRead_64 : decode cX11_isRead 64 = .ok (.lload 6, 2) := by decide +kernel
theorem dX11_isRead_66 : decode cX11_isRead 66 = .ok (.lcmp, 1) := by decide +kernel
theorem dX11_isRead_67 : decode cX11_isRead 67 = .ok (.ifCond .ne 29, 3) := by decide +kernel
theorem dX11_isRead_70 : decode cX11_isRead 70 = .ok (.iload 8, 2) := by decide +kernel
theorem dX11_isRead_72 : decode cX11_isRead 72 = .ok (.ifCond .lt 20, 3) := by decide +kernel
theorem dX11_isRead_75 : decode cX11_isRead 75 = .ok (.aload_n 0, 1) := by decide +kernel
theorem dX11_isRead_76 : decode cX11_isRead 76 = .ok (.iload 8, 2) := by decide +kernel
theorem dX11_isRead_78 : decode cX11_isRead 78 = .ok (.iload 9, 2) := by decide +kernel
theorem dX11_isRead_80 : decode cX11_isRead 80 = .ok (.lload 4, 2) := by decide +kernel
theorem dX11_isRead_82 : decode cX11_isRead 82 = .ok (.lload 6, 2) := by decide +kernel
theorem dX11_isRead_84 : decode cX11_isRead 84 = .ok (.invokevirtual 234, 3) := by decide +kernel
theorem dX11_isRead_87 : decode cX11_isRead 87 = .ok (.ifCond .eq 5, 3) := by decide +kernel
theorem dX11_isRead_90 : decode cX11_isRead 90 = .ok (.iconst 1, 1) := by decide +kernel
theorem dX11_isRead_91 : decode cX11_isRead 91 = .ok (.ireturn, 1) := by decide +kernel
theorem dX11_isRead_92 : decode cX11_isRead 92 = .ok (.iload 9, 2) := by decide +kernel
theorem dX11_isRead_94 : decode cX11_isRead 94 = .ok (.istore 8, 2) := by decide +kernel
theorem dX11_isRead_96 : decode cX11_isRead 96 = .ok (.iinc 9 1, 3) := by decide +kernel
theorem dX11_isRead_99 : decode cX11_isRead 99 = .ok (.goto (-69), 3) := by decide +kernel
theorem dX11_isRead_102 : decode cX11_isRead 102 = .ok (.iconst 0, 1) := by decide +kernel
theorem dX11_isRead_103 : decode cX11_isRead 103 = .ok (.ireturn, 1) := by decide +kernel
set_option maxRecDepth 20000 in
theorem ggX11_read_X11_isIn : GoodIn wsX11_read wsX11_isIn := goodIn_r _ [10] (by decide +kernel) (by decide +kernel)
set_option maxRecDepth 20000 in
theorem gX11_read_X11_isIn : GoodIn wsX11_read (va_wsS RX11 69 yX11_isIn wsX11_isIn) := goodIn_app (goodIn_of _ (by decide +kernel)) ggX11_read_X11_isIn
set_option maxRecDepth 20000 in
theorem ggX11_read_X11_ask : GoodIn wsX11_read wsX11_ask := goodIn_r _ [14, 2, 15, 16, 17, 9, 18, 19, 7, 8, 10, 20, 21, 22, 23, 24, 25, 26, 27, 28, 29, 30, 31, 32, 33, 131, 132, 133, 134, 135, 136, 137, 138, 139, 140, 141, 142, 143, 144, 145, 146, 147, 148, 149, 150, 151, 152, 153] (by decide +kernel) (by decide +kernel)
set_option maxRecDepth 20000 in
theorem gX11_read_X11_ask : GoodIn wsX11_read (wsV RX11 214 RX11 yX11_ask wsX11_ask) := goodIn_app (goodIn_of _ (by decide +kernel)) ggX11_read_X11_ask
set_option maxRecDepth 20000 in
theorem ggX11_read_X11_findMarks : GoodIn wsX11_read wsX11_findMarks := goodIn_r _ [37, 38, 39, 40, 41, 42, 29, 30, 31, 9, 32, 33, 43, 44, 45, 46, 47, 48, 49, 50, 51, 3, 52, 53, 54, 55, 56, 57, 58, 59, 60, 61, 62, 63, 64, 65, 66, 67, 68, 69, 70, 71, 72, 73, 74, 75, 76, 77, 78, 79, 80, 81, 82, 83, 84, 85, 86, 87, 88, 89, 90, 91, 92, 93, 94, 95, 96, 97, 98, 99, 100, 101, 102, 103, 104, 105, 106, 107, 108, 109, 110, 111, 112, 113, 114, 115, 116, 117, 118, 1, 119, 120, 121, 7, 8, 10, 131, 132, 133, 134, 135, 136, 137, 138, 139, 140, 141, 142, 143, 144, 145, 146, 147, 148, 149, 150, 151, 152, 153] (by decide +kernel) (by decide +kernel)
set_option maxRecDepth 20000 in
theorem gX11_read_X11_findMarks : GoodIn wsX11_read (wsV RX11 238 RX11 yX11_findMarks wsX11_findMarks) := goodIn_app (goodIn_of _ (by decide +kernel)) ggX11_read_X11_findMarks
set_option maxRecDepth 20000 in
theorem ggX11_read_X11_isRead : GoodIn wsX11_read wsX11_isRead := goodIn_r _ [125, 40, 42, 38, 41, 43, 44, 45, 9, 46, 29, 30, 31, 32, 33, 47, 48, 49, 50, 51, 3, 52, 53, 54, 55, 56, 57, 58, 59, 60, 61, 62, 63, 64, 65, 66, 67, 68, 69, 70, 71, 72, 73, 74, 75, 76, 77, 78, 79, 80, 81, 82, 83, 84, 85, 86, 87, 88, 89, 90, 91, 92, 93, 94, 95, 96, 97, 98, 99, 100, 101, 102, 103, 104, 105, 106, 107, 108, 109, 110, 111, 112, 113, 114, 115, 116, 117, 118, 1, 119, 120, 121, 7, 8, 10, 126, 127, 128, 129, 39, 4, 5, 130, 6, 131, 132, 133, 134, 135, 136, 137, 138, 139, 140, 141, 142, 143, 144, 145, 146, 147, 148, 149, 150, 151, 152, 153] (by decide +kernel) (by decide +kernel)
set_option maxRecDepth 20000 in
theorem gX11_read_X11_isRead : GoodIn wsX11_read (wsV RX11 241 RX11 yX11_isRead wsX11_isRead) := goodIn_app (goodIn_of _ (by decide +kernel)) ggX11_read_X11_isRead
theorem dX11_read_0 : decode cX11_read 0 = .ok (.iload 4, 2) := by decide +kernel
theorem dX11_read_2 : decode cX11_read 2 = .ok (.i2l, 1) := by decide +kernel
theorem dX11_read_3 : decode cX11_read 3 = .ok (.lconst 0, 1) := by decide +kernel
theorem dX11_read_4 : decode cX11_read 4 = .ok (.ldc2_w 184, 3) := by decide +kernel
theorem dX11_read_7 : decode cX11_read 7 = .ok (.invokestatic 69, 3) := by decide +kernel
theorem dX11_read_10 : decode cX11_read 10 = .ok (.ifCond .eq 13, 3) := by decide +kernel
theorem dX11_read_13 : decode cX11_read 13 = .ok (.aload_n 0, 1) := by decide +kernel
theorem dX11_read_14 : decode cX11_read 14 = .ok (.iload_n 1, 1) := by decide +kernel
theorem dX11_read_15 : decode cX11_read 15 = .ok (.iload_n 2, 1) := by decide +kernel
theorem dX11_read_16 : decode cX11_read 16 = .ok (.iload_n 3, 1) := by decide +kernel
theorem dX11_read_17 : decode cX11_read 17 = .ok (.invokevirtual 214, 3) := by decide +kernel
theorem dX11_read_20 : decode cX11_read 20 = .ok (.goto 5, 3) := by decide +kernel
theorem dX11_read_23 : decode cX11_read 23 = .ok (.ldc 73, 2) := by decide +kernel
theorem dX11_read_25 : decode cX11_read 25 = .ok (.istore 5, 2) := by decide +kernel
theorem dX11_read_27 : decode cX11_read 27 = .ok (.iload 5, 2) := by decide +kernel
theorem dX11_read_29 : decode cX11_read 29 = .ok (.ifCond .ge 6, 3) := by decide +kernel
theorem dX11_read_32 : decode cX11_read 32 = .ok (.iload 5, 2) := by decide +kernel
theorem dX11_read_34 : decode cX11_read 34 = .ok (.ireturn, 1) := by decide +kernel
theorem dX11_read_35 : decode cX11_read 35 = .ok (.aload_n 0, 1) := by decide +kernel
theorem dX11_read_36 : decode cX11_read 36 = .ok (.iload_n 1, 1) := by decide +kernel
theorem dX11_read_37 : decode cX11_read 37 = .ok (.iload_n 2, 1) := by decide +kernel
theorem dX11_read_38 : decode cX11_read 38 = .ok (.invokevirtual 238, 3) := by decide +kernel
theorem dX11_read_41 : decode cX11_read 41 = .ok (.aload_n 0, 1) := by decide +kernel
theorem dX11_read_42 : decode cX11_read 42 = .ok (.iload_n 1, 1) := by decide +kernel
theorem dX11_read_43 : decode cX11_read 43 = .ok (.iload_n 2, 1) := by decide +kernel
theorem dX11_read_44 : decode cX11_read 44 = .ok (.iload_n 3, 1) := by decide +kernel
theorem dX11_read_45 : decode cX11_read 45 = .ok (.invokevirtual 241, 3) := by decide +kernel
theorem dX11_read_48 : decode cX11_read 48 = .ok (.ifCond .ne 6, 3) := by decide +kernel
theorem dX11_read_51 : decode cX11_read 51 = .ok (.ldc 172, 2) := by decide +kernel
theorem dX11_read_53 : decode cX11_read 53 = .ok (.ireturn, 1) := by decide +kernel
theorem dX11_read_54 : decode cX11_read 54 = .ok (.iload 4, 2) := by decide +kernel
theorem dX11_read_56 : decode cX11_read 56 = .ok (.ifCond .ne 10, 3) := by decide +kernel
theorem dX11_read_59 : decode cX11_read 59 = .ok (.aload_n 0, 1) := by decide +kernel
theorem dX11_read_60 : decode cX11_read 60 = .ok (.getfield 223, 3) := by decide +kernel
theorem dX11_read_63 : decode cX11_read 63 = .ok (.goto 21, 3) := by decide +kernel
theorem dX11_read_66 : decode cX11_read 66 = .ok (.iload 4, 2) := by decide +kernel
theorem dX11_read_68 : decode cX11_read 68 = .ok (.iconst 1, 1) := by decide +kernel
theorem dX11_read_69 : decode cX11_read 69 = .ok (.if_icmp .ne 10, 3) := by decide +kernel
theorem dX11_read_72 : decode cX11_read 72 = .ok (.aload_n 0, 1) := by decide +kernel
theorem dX11_read_73 : decode cX11_read 73 = .ok (.getfield 226, 3) := by decide +kernel
theorem dX11_read_76 : decode cX11_read 76 = .ok (.goto 8, 3) := by decide +kernel
theorem dX11_read_79 : decode cX11_read 79 = .ok (.aload_n 0, 1) := by decide +kernel
theorem dX11_read_80 : decode cX11_read 80 = .ok (.getfield 231, 3) := by decide +kernel
theorem dX11_read_83 : decode cX11_read 83 = .ok (.l2i, 1) := by decide +kernel
theorem dX11_read_84 : decode cX11_read 84 = .ok (.ireturn, 1) := by decide +kernel
set_option maxRecDepth 20000 in
theorem ggX11_late_X11_isIn : GoodIn wsX11_late wsX11_isIn := goodIn_r _ [9] (by decide +kernel) (by decide +kernel)
set_option maxRecDepth 20000 in
theorem gX11_late_X11_isIn : GoodIn wsX11_late (va_wsS RX11 69 yX11_isIn wsX11_isIn) := goodIn_app (goodIn_of _ (by decide +kernel)) ggX11_late_X11_isIn
set_option maxRecDepth 20000 in
theorem ggX11_late_X11_ask : GoodIn wsX11_late wsX11_ask := goodIn_r _ [13, 2, 14, 15, 16, 8, 17, 18, 6, 7, 9, 19, 20, 21, 22, 23, 24, 25, 26, 27, 28, 29, 30, 31, 32, 132, 133, 134, 135, 136, 137, 138, 139, 140, 141, 142, 143, 144, 145, 146, 147, 148, 149, 150, 151, 152, 153, 154] (by decide +kernel) (by decide +kernel)
set_option maxRecDepth 20000 in
theorem gX11_late_X11_ask : GoodIn wsX11_late (wsV RX11 214 RX11 yX11_ask wsX11_ask) := goodIn_app (goodIn_of _ (by decide +kernel)) ggX11_late_X11_ask
set_option maxRecDepth 20000 in
theorem ggX11_late_X11_findMarks : GoodIn wsX11_late wsX11_findMarks := goodIn_r _ [36, 37, 38, 39, 40, 41, 28, 29, 30, 8, 31, 32, 42, 43, 44, 45, 46, 47, 48, 49, 50, 4, 51, 52, 53, 54, 55, 56, 57, 58, 59, 60, 61, 62, 63, 64, 65, 66, 67, 68, 69, 70, 71, 72, 73, 74, 75, 76, 77, 78, 79, 80, 81, 82, 83, 84, 85, 86, 87, 88, 89, 90, 91, 92, 93, 94, 95, 96, 97, 98, 99, 100, 101, 102, 103, 104, 105, 106, 107, 108, 109, 110, 111, 112, 113, 114, 115, 116, 117, 1, 118, 119, 120, 6, 7, 9, 132, 133, 134, 135, 136, 137, 138, 139, 140, 141, 142, 143, 144, 145, 146, 147, 148, 149, 150, 151, 152, 153, 154] (by decide +kernel) (by decide +kernel)
set_option maxRecDepth 20000 in
theorem gX11_late_X11_findMarks : GoodIn wsX11_late (wsV RX11 238 RX11 yX11_findMarks wsX11_findMarks) := goodIn_app (goodIn_of _ (by decide +kernel)) ggX11_late_X11_findMarks
set_option maxRecDepth 20000 in
theorem ggX11_late_X11_isRead : GoodIn wsX11_late wsX11_isRead := goodIn_r _ [124, 39, 41, 37, 40, 42, 43, 44, 8, 45, 28, 29, 30, 31, 32, 46, 47, 48, 49, 50, 4, 51, 52, 53, 54, 55, 56, 57, 58, 59, 60, 61, 62, 63, 64, 65, 66, 67, 68, 69, 70, 71, 72, 73, 74, 75, 76, 77, 78, 79, 80, 81, 82, 83, 84, 85, 86, 87, 88, 89, 90, 91, 92, 93, 94, 95, 96, 97, 98, 99, 100, 101, 102, 103, 104, 105, 106, 107, 108, 109, 110, 111, 112, 113, 114, 115, 116, 117, 1, 118, 119, 120, 6, 7, 9, 125, 126, 127, 128, 38, 129, 130, 131, 5, 132, 133, 134, 135, 136, 137, 138, 139, 140, 141, 142, 143, 144, 145, 146, 147, 148, 149, 150, 151, 152, 153, 154] (by decide +kernel) (by decide +kernel)
set_option maxRecDepth 20000 in
theorem gX11_late_X11_isRead : GoodIn wsX11_late (wsV RX11 241 RX11 yX11_isRead wsX11_isRead) := goodIn_app (goodIn_of _ (by decide +kernel)) ggX11_late_X11_isRead
theorem dX11_late_0 : decode cX11_late 0 = .ok (.iload_n 3, 1) := by decide +kernel
theorem dX11_late_1 : decode cX11_late 1 = .ok (.i2l, 1) := by decide +kernel
theorem dX11_late_2 : decode cX11_late 2 = .ok (.lconst 0, 1) := by decide +kernel
theorem dX11_late_3 : decode cX11_late 3 = .ok (.ldc2_w 184, 3) := by decide +kernel
theorem dX11_late_6 : decode cX11_late 6 = .ok (.invokestatic 69, 3) := by decide +kernel
theorem dX11_late_9 : decode cX11_late 9 = .ok (.ifCond .eq 13, 3) := by decide +kernel
theorem dX11_late_12 : decode cX11_late 12 = .ok (.aload_n 0, 1) := by decide +kernel
theorem dX11_late_13 : decode cX11_late 13 = .ok (.iload_n 1, 1) := by decide +kernel
theorem dX11_late_14 : decode cX11_late 14 = .ok (.iload_n 2, 1) := by decide +kernel
theorem dX11_late_15 : decode cX11_late 15 = .ok (.iconst 0, 1) := by decide +kernel
theorem dX11_late_16 : decode cX11_late 16 = .ok (.invokevirtual 214, 3) := by decide +kernel
theorem dX11_late_19 : decode cX11_late 19 = .ok (.goto 5, 3) := by decide +kernel
theorem dX11_late_22 : decode cX11_late 22 = .ok (.ldc 73, 2) := by decide +kernel
theorem dX11_late_24 : decode cX11_late 24 = .ok (.istore 4, 2) := by decide +kernel
theorem dX11_late_26 : decode cX11_late 26 = .ok (.iload 4, 2) := by decide +kernel
theorem dX11_late_28 : decode cX11_late 28 = .ok (.ifCond .ge 6, 3) := by decide +kernel
theorem dX11_late_31 : decode cX11_late 31 = .ok (.iload 4, 2) := by decide +kernel
theorem dX11_late_33 : decode cX11_late 33 = .ok (.ireturn, 1) := by decide +kernel
theorem dX11_late_34 : decode cX11_late 34 = .ok (.aload_n 0, 1) := by decide +kernel
theorem dX11_late_35 : decode cX11_late 35 = .ok (.iload_n 1, 1) := by decide +kernel
theorem dX11_late_36 : decode cX11_late 36 = .ok (.iload_n 2, 1) := by decide +kernel
theorem dX11_late_37 : decode cX11_late 37 = .ok (.invokevirtual 238, 3) := by decide +kernel
theorem dX11_late_40 : decode cX11_late 40 = .ok (.iconst 0, 1) := by decide +kernel
theorem dX11_late_41 : decode cX11_late 41 = .ok (.istore 5, 2) := by decide +kernel
theorem dX11_late_43 : decode cX11_late 43 = .ok (.ldc2_w 244, 3) := by decide +kernel
theorem dX11_late_46 : decode cX11_late 46 = .ok (.lstore 6, 2) := by decide +kernel
theorem dX11_late_48 : decode cX11_late 48 = .ok (.ldc 172, 2) := by decide +kernel
theorem dX11_late_50 : decode cX11_late 50 = .ok (.istore 8, 2) := by decide +kernel
theorem dX11_late_52 : decode cX11_late 52 = .ok (.iconst 0, 1) := by decide +kernel
theorem dX11_late_53 : decode cX11_late 53 = .ok (.istore 9, 2) := by decide +kernel
theorem dX11_late_55 : decode cX11_late 55 = .ok (.iload 9, 2) := by decide +kernel
theorem dX11_late_57 : decode cX11_late 57 = .ok (.sipush 1440, 3) := by decide +kernel
theorem dX11_late_60 : decode cX11_late 60 = .ok (.if_icmp .ge 71, 3) := by decide +kernel
theorem dX11_late_63 : decode cX11_late 63 = .ok (.aload_n 0, 1) := by decide +kernel
theorem dX11_late_64 : decode cX11_late 64 = .ok (.iload_n 1, 1) := by decide +kernel
theorem dX11_late_65 : decode cX11_late 65 = .ok (.iload_n 2, 1) := by decide +kernel
theorem dX11_late_66 : decode cX11_late 66 = .ok (.iload 9, 2) := by decide +kernel
theorem dX11_late_68 : decode cX11_late 68 = .ok (.invokevirtual 241, 3) := by decide +kernel
theorem dX11_late_71 : decode cX11_late 71 = .ok (.ifCond .eq 54, 3) := by decide +kernel
theorem dX11_late_74 : decode cX11_late 74 = .ok (.iinc 5 1, 3) := by decide +kernel
theorem dX11_late_77 : decode cX11_late 77 = .ok (.aload_n 0, 1) := by decide +kernel
theorem dX11_late_78 : decode cX11_late 78 = .ok (.getfield 231, 3) := by decide +kernel
theorem dX11_late_81 : decode cX11_late 81 = .ok (.iload 9, 2) := by decide +kernel
theorem dX11_late_83 : decode cX11_late 83 = .ok (.i2l, 1) := by decide +kernel
theorem dX11_late_84 : decode cX11_late 84 = .ok (.lcmp, 1) := by decide +kernel
theorem dX11_late_85 : decode cX11_late 85 = .ok (.ifCond .ge 14, 3) := by decide +kernel
theorem dX11_late_88 : decode cX11_late 88 = .ok (.iload 9, 2) := by decide +kernel
theorem dX11_late_90 : decode cX11_late 90 = .ok (.i2l, 1) := by decide +kernel
theorem dX11_late_91 : decode cX11_late 91 = .ok (.aload_n 0, 1) := by decide +kernel
theorem dX11_late_92 : decode cX11_late 92 = .ok (.getfield 231, 3) := by decide +kernel
theorem dX11_late_95 : decode cX11_late 95 = .ok (.lsub, 1) := by decide +kernel
theorem dX11_late_96 : decode cX11_late 96 = .ok (.goto 11, 3) := by decide +kernel
theorem dX11_late_99 : decode cX11_late 99 = .ok (.aload_n 0, 1) := by decide +kernel
theorem dX11_late_100 : decode cX11_late 100 = .ok (.getfield 231, 3) := by decide +kernel
theorem dX11_late_103 : decode cX11_late 103 = .ok (.iload 9, 2) := by decide +kernel
theorem dX11_late_105 : decode cX11_late 105 = .ok (.i2l, 1) := by decide +kernel
theorem dX11_late_106 : decode cX11_late 106 = .ok (.lsub, 1) := by decide +kernel
theorem dX11_late_107 : decode cX11_late 107 = .ok (.lstore 10, 2) := by decide +kernel
theorem dX11_late_109 : decode cX11_late 109 = .ok (.lload 10, 2) := by decide +kernel
theorem dX11_late_111 : decode cX11_late 111 = .ok (.lload 6, 2) := by decide +kernel
theorem dX11_late_113 : decode cX11_late 113 = .ok (.lcmp, 1) := by decide +kernel
theorem dX11_late_114 : decode cX11_late 114 = .ok (.ifCond .le 11, 3) := by decide +kernel
theorem dX11_late_117 : decode cX11_late 117 = .ok (.lload 10, 2) := by decide +kernel
theorem dX11_late_119 : decode cX11_late 119 = .ok (.lstore 6, 2) := by decide +kernel
theorem dX11_late_121 : decode cX11_late 121 = .ok (.iload 9, 2) := by decide +kernel
theorem dX11_late_123 : decode cX11_late 123 = .ok (.istore 8, 2) := by decide +kernel
theorem dX11_late_125 : decode cX11_late 125 = .ok (.iinc 9 1, 3) := by decide +kernel
theorem dX11_late_128 : decode cX11_late 128 = .ok (.goto (-73), 3) := by decide +kernel
theorem dX11_late_131 : decode cX11_late 131 = .ok (.iload_n 3, 1) := by decide +kernel
theorem dX11_late_132 : decode cX11_late 132 = .ok (.iconst 2, 1) := by decide +kernel
theorem dX11_late_133 : decode cX11_late 133 = .ok (.if_icmp .ne 8, 3) := by decide +kernel
theorem dX11_late_136 : decode cX11_late 136 = .ok (.iload 5, 2) := by decide +kernel
theorem dX11_late_138 : decode cX11_late 138 = .ok (.goto 25, 3) := by decide +kernel
theorem dX11_late_141 : decode cX11_late 141 = .ok (.iload 5, 2) := by decide +kernel
theorem dX11_late_143 : decode cX11_late 143 = .ok (.ifCond .ne 8, 3) := by decide +kernel
theorem dX11_late_146 : decode cX11_late 146 = .ok (.ldc 172, 2) := by decide +kernel
theorem dX11_late_148 : decode cX11_late 148 = .ok (.goto 15, 3) := by decide +kernel
theorem dX11_late_151 : decode cX11_late 151 = .ok (.iload_n 3, 1) := by decide +kernel
theorem dX11_late_152 : decode cX11_late 152 = .ok (.ifCond .ne 9, 3) := by decide +kernel
theorem dX11_late_155 : decode cX11_late 155 = .ok (.lload 6, 2) := by decide +kernel
theorem dX11_late_157 : decode cX11_late 157 = .ok (.l2i, 1) := by decide +kernel
theorem dX11_late_158 : decode cX11_late 158 = .ok (.goto 5, 3) := by decide +kernel
theorem dX11_late_161 : decode cX11_late 161 = .ok (.iload 8, 2) := by decide +kernel
theorem dX11_late_163 : decode cX11_late 163 = .ok (.ireturn, 1) := by decide +kernel
set_option maxRecDepth 20000 in
theorem ggX11_rowOf_X11_stateNow : GoodIn wsX11_rowOf wsX11_stateNow := goodIn_r _ [6, 7, 8, 9, 5, 10, 11, 12, 13, 14, 15, 16, 1, 17, 18, 19, 20, 21, 22, 23, 24, 25, 26, 27, 28, 29, 30, 31, 32, 33, 34, 35, 36, 37, 38, 39, 40, 41, 42, 43, 44, 45, 46, 47, 48, 49, 50, 51, 52, 53, 54, 55, 56, 57, 58, 59, 60, 61, 62, 63, 64, 65, 66, 67, 68, 69, 70, 71, 72, 73, 74, 75, 76, 77, 78, 79, 80, 81, 82, 83, 84, 85, 86, 87, 88, 89, 90, 91, 92, 93, 94, 95, 96, 97, 98, 99, 100, 101, 102, 103, 104, 105, 106, 107, 108, 109, 110, 111, 112, 113, 114, 115] (by decide +kernel) (by decide +kernel)
set_option maxRecDepth 20000 in
theorem gX11_rowOf_X11_stateNow : GoodIn wsX11_rowOf (wsV RX11 218 RX11 yX11_stateNow wsX11_stateNow) := goodIn_app (goodIn_of _ (by decide +kernel)) ggX11_rowOf_X11_stateNow
theorem dX11_rowOf_0 : decode cX11_rowOf 0 = .ok (.iconst 0, 1) := by decide +kernel
theorem dX11_rowOf_1 : decode cX11_rowOf 1 = .ok (.istore 5, 2) := by decide +kernel
theorem dX11_rowOf_3 : decode cX11_rowOf 3 = .ok (.ldc 172, 2) := by decide +kernel
theorem dX11_rowOf_5 : decode cX11_rowOf 5 = .ok (.istore 6, 2) := by decide +kernel
theorem dX11_rowOf_7 : decode cX11_rowOf 7 = .ok (.iconst 0, 1) := by decide +kernel
theorem dX11_rowOf_8 : decode cX11_rowOf 8 = .ok (.istore 7, 2) := by decide +kernel
theorem dX11_rowOf_10 : decode cX11_rowOf 10 = .ok (.iload 7, 2) := by decide +kernel
theorem dX11_rowOf_12 : decode cX11_rowOf 12 = .ok (.sipush 1440, 3) := by decide +kernel
theorem dX11_rowOf_15 : decode cX11_rowOf 15 = .ok (.if_icmp .gt 91, 3) := by decide +kernel
theorem dX11_rowOf_18 : decode cX11_rowOf 18 = .ok (.iload 7, 2) := by decide +kernel
theorem dX11_rowOf_20 : decode cX11_rowOf 20 = .ok (.sipush 1440, 3) := by decide +kernel
theorem dX11_rowOf_23 : decode cX11_rowOf 23 = .ok (.if_icmp .ge 18, 3) := by decide +kernel
theorem dX11_rowOf_26 : decode cX11_rowOf 26 = .ok (.aload_n 0, 1) := by decide +kernel
theorem dX11_rowOf_27 : decode cX11_rowOf 27 = .ok (.iload_n 1, 1) := by decide +kernel
theorem dX11_rowOf_28 : decode cX11_rowOf 28 = .ok (.iload_n 2, 1) := by decide +kernel
theorem dX11_rowOf_29 : decode cX11_rowOf 29 = .ok (.iload 7, 2) := by decide +kernel
theorem dX11_rowOf_31 : decode cX11_rowOf 31 = .ok (.invokevirtual 218, 3) := by decide +kernel
theorem dX11_rowOf_34 : decode cX11_rowOf 34 = .ok (.ifCond .ne 7, 3) := by decide +kernel
theorem dX11_rowOf_37 : decode cX11_rowOf 37 = .ok (.iconst 1, 1) := by decide +kernel
theorem dX11_rowOf_38 : decode cX11_rowOf 38 = .ok (.goto 4, 3) := by decide +kernel
theorem dX11_rowOf_41 : decode cX11_rowOf 41 = .ok (.iconst 0, 1) := by decide +kernel
theorem dX11_rowOf_42 : decode cX11_rowOf 42 = .ok (.istore 8, 2) := by decide +kernel
theorem dX11_rowOf_44 : decode cX11_rowOf 44 = .ok (.iload 8, 2) := by decide +kernel
theorem dX11_rowOf_46 : decode cX11_rowOf 46 = .ok (.ifCond .eq 14, 3) := by decide +kernel
theorem dX11_rowOf_49 : decode cX11_rowOf 49 = .ok (.iload 6, 2) := by decide +kernel
theorem dX11_rowOf_51 : decode cX11_rowOf 51 = .ok (.ldc 172, 2) := by decide +kernel
theorem dX11_rowOf_53 : decode cX11_rowOf 53 = .ok (.if_icmp .ne 7, 3) := by decide +kernel
theorem dX11_rowOf_56 : decode cX11_rowOf 56 = .ok (.iload 7, 2) := by decide +kernel
theorem dX11_rowOf_58 : decode cX11_rowOf 58 = .ok (.istore 6, 2) := by decide +kernel
theorem dX11_rowOf_60 : decode cX11_rowOf 60 = .ok (.iload 8, 2) := by decide +kernel
theorem dX11_rowOf_62 : decode cX11_rowOf 62 = .ok (.ifCond .ne 38, 3) := by decide +kernel
theorem dX11_rowOf_65 : decode cX11_rowOf 65 = .ok (.iload 6, 2) := by decide +kernel
theorem dX11_rowOf_67 : decode cX11_rowOf 67 = .ok (.ldc 172, 2) := by decide +kernel
theorem dX11_rowOf_69 : decode cX11_rowOf 69 = .ok (.if_icmp .eq 31, 3) := by decide +kernel
theorem dX11_rowOf_72 : decode cX11_rowOf 72 = .ok (.iload 5, 2) := by decide +kernel
theorem dX11_rowOf_74 : decode cX11_rowOf 74 = .ok (.iload_n 3, 1) := by decide +kernel
theorem dX11_rowOf_75 : decode cX11_rowOf 75 = .ok (.if_icmp .ne 18, 3) := by decide +kernel
theorem dX11_rowOf_78 : decode cX11_rowOf 78 = .ok (.iload 4, 2) := by decide +kernel
theorem dX11_rowOf_80 : decode cX11_rowOf 80 = .ok (.ifCond .ne 8, 3) := by decide +kernel
theorem dX11_rowOf_83 : decode cX11_rowOf 83 = .ok (.iload 6, 2) := by decide +kernel
theorem dX11_rowOf_85 : decode cX11_rowOf 85 = .ok (.goto 7, 3) := by decide +kernel
theorem dX11_rowOf_88 : decode cX11_rowOf 88 = .ok (.iload 7, 2) := by decide +kernel
theorem dX11_rowOf_90 : decode cX11_rowOf 90 = .ok (.iconst 1, 1) := by decide +kernel
theorem dX11_rowOf_91 : decode cX11_rowOf 91 = .ok (.isub, 1) := by decide +kernel
theorem dX11_rowOf_92 : decode cX11_rowOf 92 = .ok (.ireturn, 1) := by decide +kernel
theorem dX11_rowOf_93 : decode cX11_rowOf 93 = .ok (.iinc 5 1, 3) := by decide +kernel
theorem dX11_rowOf_96 : decode cX11_rowOf 96 = .ok (.ldc 172, 2) := by decide +kernel
theorem dX11_rowOf_98 : decode cX11_rowOf 98 = .ok (.istore 6, 2) := by decide +kernel
theorem dX11_rowOf_100 : decode cX11_rowOf 100 = .ok (.iinc 7 1, 3) := by decide +kernel
theorem dX11_rowOf_103 : decode cX11_rowOf 103 = .ok (.goto (-93), 3) := by decide +kernel
theorem dX11_rowOf_106 : decode cX11_rowOf 106 = .ok (.iload_n 3, 1) := by decide +kernel
theorem dX11_rowOf_107 : decode cX11_rowOf 107 = .ok (.ifCond .ge 8, 3) := by decide +kernel
theorem dX11_rowOf_110 : decode cX11_rowOf 110 = .ok (.iload 5, 2) := by decide +kernel
theorem dX11_rowOf_112 : decode cX11_rowOf 112 = .ok (.goto 5, 3) := by decide +kernel
theorem dX11_rowOf_115 : decode cX11_rowOf 115 = .ok (.ldc 172, 2) := by decide +kernel
theorem dX11_rowOf_117 : decode cX11_rowOf 117 = .ok (.ireturn, 1) := by decide +kernel
set_option maxRecDepth 20000 in
theorem ggX11_stretches_X11_ask : GoodIn wsX11_stretches wsX11_ask := goodIn_r _ [5, 6, 7, 8, 9, 4, 10, 11, 12, 13, 14, 15, 16, 17, 18, 19, 20, 21, 22, 23, 24, 25, 26, 27, 28, 116, 117, 118, 119, 120, 121, 122, 123, 124, 125, 126, 127, 128, 129, 130, 131, 132, 133, 134, 135, 136, 137, 138] (by decide +kernel) (by decide +kernel)
set_option maxRecDepth 20000 in
theorem gX11_stretches_X11_ask : GoodIn wsX11_stretches (wsV RX11 214 RX11 yX11_ask wsX11_ask) := goodIn_app (goodIn_of _ (by decide +kernel)) ggX11_stretches_X11_ask
set_option maxRecDepth 20000 in
theorem ggX11_stretches_X11_rowOf : GoodIn wsX11_stretches wsX11_rowOf := goodIn_r _ [32, 33, 34, 35, 36, 4, 37, 24, 25, 26, 27, 28, 38, 39, 40, 41, 42, 43, 44, 45, 46, 47, 48, 49, 50, 51, 52, 53, 54, 55, 56, 57, 58, 59, 60, 61, 62, 63, 64, 65, 66, 67, 68, 69, 70, 71, 72, 73, 74, 75, 76, 77, 78, 79, 80, 81, 82, 83, 84, 85, 86, 87, 88, 89, 90, 91, 92, 93, 94, 95, 96, 97, 98, 99, 100, 101, 102, 103, 104, 105, 106, 107, 108, 109, 110, 111, 112, 113, 114, 115, 12, 13, 14, 116, 117, 118, 119, 120, 121, 122, 123, 124, 125, 126, 127, 128, 129, 130, 131, 132, 133, 134, 135, 136, 137, 138] (by decide +kernel) (by decide +kernel)
set_option maxRecDepth 20000 in
theorem gX11_stretches_X11_rowOf : GoodIn wsX11_stretches (wsV RX11 246 RX11 yX11_rowOf wsX11_rowOf) := goodIn_app (goodIn_of _ (by decide +kernel)) ggX11_stretches_X11_rowOf
theorem dX11_stretches_0 : decode cX11_stretches 0 = .ok (.aload_n 0, 1) := by decide +kernel
theorem dX11_stretches_1 : decode cX11_stretches 1 = .ok (.iload_n 1, 1) := by decide +kernel
theorem dX11_stretches_2 : decode cX11_stretches 2 = .ok (.iload_n 2, 1) := by decide +kernel
theorem dX11_stretches_3 : decode cX11_stretches 3 = .ok (.iconst 0, 1) := by decide +kernel
theorem dX11_stretches_4 : decode cX11_stretches 4 = .ok (.invokevirtual 214, 3) := by decide +kernel
theorem dX11_stretches_7 : decode cX11_stretches 7 = .ok (.istore_n 3, 1) := by decide +kernel
theorem dX11_stretches_8 : decode cX11_stretches 8 = .ok (.iload_n 3, 1) := by decide +kernel
theorem dX11_stretches_9 : decode cX11_stretches 9 = .ok (.ifCond .ge 7, 3) := by decide +kernel
theorem dX11_stretches_12 : decode cX11_stretches 12 = .ok (.iload_n 3, 1) := by decide +kernel
theorem dX11_stretches_13 : decode cX11_stretches 13 = .ok (.goto 11, 3) := by decide +kernel
theorem dX11_stretches_16 : decode cX11_stretches 16 = .ok (.aload_n 0, 1) := by decide +kernel
theorem dX11_stretches_17 : decode cX11_stretches 17 = .ok (.iload_n 1, 1) := by decide +kernel
theorem dX11_stretches_18 : decode cX11_stretches 18 = .ok (.iload_n 2, 1) := by decide +kernel
theorem dX11_stretches_19 : decode cX11_stretches 19 = .ok (.iconst (-1), 1) := by decide +kernel
theorem dX11_stretches_20 : decode cX11_stretches 20 = .ok (.iconst 0, 1) := by decide +kernel
theorem dX11_stretches_21 : decode cX11_stretches 21 = .ok (.invokevirtual 246, 3) := by decide +kernel
theorem dX11_stretches_24 : decode cX11_stretches 24 = .ok (.ireturn, 1) := by decide +kernel
set_option maxRecDepth 20000 in
theorem ggX11_stretch_X11_isIn : GoodIn wsX11_stretch wsX11_isIn := goodIn_r _ [5] (by decide +kernel) (by decide +kernel)
set_option maxRecDepth 20000 in
theorem gX11_stretch_X11_isIn : GoodIn wsX11_stretch (va_wsS RX11 69 yX11_isIn wsX11_isIn) := goodIn_app (goodIn_of _ (by decide +kernel)) ggX11_stretch_X11_isIn
set_option maxRecDepth 20000 in
theorem ggX11_stretch_X11_ask : GoodIn wsX11_stretch wsX11_ask := goodIn_r _ [9, 1, 10, 11, 12, 4, 13, 14, 2, 3, 5, 15, 16, 17, 18, 19, 20, 21, 22, 23, 24, 25, 26, 27, 28, 116, 117, 118, 119, 120, 121, 122, 123, 124, 125, 126, 127, 128, 129, 130, 131, 132, 133, 134, 135, 136, 137, 138] (by decide +kernel) (by decide +kernel)
set_option maxRecDepth 20000 in
theorem gX11_stretch_X11_ask : GoodIn wsX11_stretch (wsV RX11 214 RX11 yX11_ask wsX11_ask) := goodIn_app (goodIn_of _ (by decide +kernel)) ggX11_stretch_X11_ask
set_option maxRecDepth 20000 in
theorem ggX11_stretch_X11_rowOf : GoodIn wsX11_stretch wsX11_rowOf := goodIn_r _ [32, 33, 34, 35, 36, 4, 37, 24, 25, 26, 27, 28, 38, 39, 40, 41, 42, 43, 44, 45, 46, 47, 48, 49, 50, 51, 52, 53, 54, 55, 56, 57, 58, 59, 60, 61, 62, 63, 64, 65, 66, 67, 68, 69, 70, 71, 72, 73, 74, 75, 76, 77, 78, 79, 80, 81, 82, 83, 84, 85, 86, 87, 88, 89, 90, 91, 92, 93, 94, 95, 96, 97, 98, 99, 100, 101, 102, 103, 104, 105, 106, 107, 108, 109, 110, 111, 112, 113, 114, 115, 2, 3, 5, 116, 117, 118, 119, 120, 121, 122, 123, 124, 125, 126, 127, 128, 129, 130, 131, 132, 133, 134, 135, 136, 137, 138] (by decide +kernel) (by decide +kernel)
set_option maxRecDepth 20000 in
theorem gX11_stretch_X11_rowOf : GoodIn wsX11_stretch (wsV RX11 246 RX11 yX11_rowOf wsX11_rowOf) := goodIn_app (goodIn_of _ (by decide +kernel)) ggX11_stretch_X11_rowOf
theorem dX11_stretch_0 : decode cX11_stretch 0 = .ok (.iload_n 3, 1) := by decide +kernel
theorem dX11_stretch_1 : decode cX11_stretch 1 = .ok (.ifCond .lt 24, 3) := by decide +kernel
theorem dX11_stretch_4 : decode cX11_stretch 4 = .ok (.iload 4, 2) := by decide +kernel
theorem dX11_stretch_6 : decode cX11_stretch 6 = .ok (.i2l, 1) := by decide +kernel
theorem dX11_stretch_7 : decode cX11_stretch 7 = .ok (.lconst 0, 1) := by decide +kernel
theorem dX11_stretch_8 : decode cX11_stretch 8 = .ok (.lconst 1, 1) := by decide +kernel
theorem dX11_stretch_9 : decode cX11_stretch 9 = .ok (.invokestatic 69, 3) := by decide +kernel
theorem dX11_stretch_12 : decode cX11_stretch 12 = .ok (.ifCond .eq 13, 3) := by decide +kernel
theorem dX11_stretch_15 : decode cX11_stretch 15 = .ok (.aload_n 0, 1) := by decide +kernel
theorem dX11_stretch_16 : decode cX11_stretch 16 = .ok (.iload_n 1, 1) := by decide +kernel
theorem dX11_stretch_17 : decode cX11_stretch 17 = .ok (.iload_n 2, 1) := by decide +kernel
theorem dX11_stretch_18 : decode cX11_stretch 18 = .ok (.iconst 0, 1) := by decide +kernel
theorem dX11_stretch_19 : decode cX11_stretch 19 = .ok (.invokevirtual 214, 3) := by decide +kernel
theorem dX11_stretch_22 : decode cX11_stretch 22 = .ok (.goto 5, 3) := by decide +kernel
theorem dX11_stretch_25 : decode cX11_stretch 25 = .ok (.ldc 73, 2) := by decide +kernel
theorem dX11_stretch_27 : decode cX11_stretch 27 = .ok (.istore 5, 2) := by decide +kernel
theorem dX11_stretch_29 : decode cX11_stretch 29 = .ok (.iload 5, 2) := by decide +kernel
theorem dX11_stretch_31 : decode cX11_stretch 31 = .ok (.ifCond .ge 8, 3) := by decide +kernel
theorem dX11_stretch_34 : decode cX11_stretch 34 = .ok (.iload 5, 2) := by decide +kernel
theorem dX11_stretch_36 : decode cX11_stretch 36 = .ok (.goto 12, 3) := by decide +kernel
theorem dX11_stretch_39 : decode cX11_stretch 39 = .ok (.aload_n 0, 1) := by decide +kernel
theorem dX11_stretch_40 : decode cX11_stretch 40 = .ok (.iload_n 1, 1) := by decide +kernel
theorem dX11_stretch_41 : decode cX11_stretch 41 = .ok (.iload_n 2, 1) := by decide +kernel
theorem dX11_stretch_42 : decode cX11_stretch 42 = .ok (.iload_n 3, 1) := by decide +kernel
theorem dX11_stretch_43 : decode cX11_stretch 43 = .ok (.iload 4, 2) := by decide +kernel
theorem dX11_stretch_45 : decode cX11_stretch 45 = .ok (.invokevirtual 246, 3) := by decide +kernel
theorem dX11_stretch_48 : decode cX11_stretch 48 = .ok (.ireturn, 1) := by decide +kernel
set_option maxRecDepth 20000 in
theorem ggX11_sight_X11_isTime : GoodIn wsX11_sight wsX11_isTime := goodIn_r _ [10, 11, 12, 13, 14, 9, 15] (by decide +kernel) (by decide +kernel)
set_option maxRecDepth 20000 in
theorem gX11_sight_X11_isTime : GoodIn wsX11_sight (va_wsS RX11 121 yX11_isTime wsX11_isTime) := goodIn_app (goodIn_of _ (by decide +kernel)) ggX11_sight_X11_isTime
set_option maxRecDepth 20000 in
theorem ggX11_sight_X11_isIn : GoodIn wsX11_sight wsX11_isIn := goodIn_r _ [15] (by decide +kernel) (by decide +kernel)
set_option maxRecDepth 20000 in
theorem gX11_sight_X11_isIn : GoodIn wsX11_sight (va_wsS RX11 69 yX11_isIn wsX11_isIn) := goodIn_app (goodIn_of _ (by decide +kernel)) ggX11_sight_X11_isIn
theorem dX11_sight_0 : decode cX11_sight 0 = .ok (.iload_n 1, 1) := by decide +kernel
theorem dX11_sight_1 : decode cX11_sight 1 = .ok (.iload_n 2, 1) := by decide +kernel
theorem dX11_sight_2 : decode cX11_sight 2 = .ok (.invokestatic 121, 3) := by decide +kernel
theorem dX11_sight_5 : decode cX11_sight 5 = .ok (.ifCond .eq 32, 3) := by decide +kernel
theorem dX11_sight_8 : decode cX11_sight 8 = .ok (.iload_n 3, 1) := by decide +kernel
theorem dX11_sight_9 : decode cX11_sight 9 = .ok (.i2l, 1) := by decide +kernel
theorem dX11_sight_10 : decode cX11_sight 10 = .ok (.ldc2_w 206, 3) := by decide +kernel
theorem dX11_sight_13 : decode cX11_sight 13 = .ok (.ldc2_w 208, 3) := by decide +kernel
theorem dX11_sight_16 : decode cX11_sight 16 = .ok (.invokestatic 69, 3) := by decide +kernel
theorem dX11_sight_19 : decode cX11_sight 19 = .ok (.ifCond .eq 18, 3) := by decide +kernel
theorem dX11_sight_22 : decode cX11_sight 22 = .ok (.iload 4, 2) := by decide +kernel
theorem dX11_sight_24 : decode cX11_sight 24 = .ok (.i2l, 1) := by decide +kernel
theorem dX11_sight_25 : decode cX11_sight 25 = .ok (.ldc2_w 206, 3) := by decide +kernel
theorem dX11_sight_28 : decode cX11_sight 28 = .ok (.ldc2_w 208, 3) := by decide +kernel
theorem dX11_sight_31 : decode cX11_sight 31 = .ok (.invokestatic 69, 3) := by decide +kernel
theorem dX11_sight_34 : decode cX11_sight 34 = .ok (.ifCond .ne 6, 3) := by decide +kernel
theorem dX11_sight_37 : decode cX11_sight 37 = .ok (.ldc 73, 2) := by decide +kernel
theorem dX11_sight_39 : decode cX11_sight 39 = .ok (.ireturn, 1) := by decide +kernel
theorem dX11_sight_40 : decode cX11_sight 40 = .ok (.aload_n 0, 1) := by decide +kernel
theorem dX11_sight_41 : decode cX11_sight 41 = .ok (.getfield 250, 3) := by decide +kernel
theorem dX11_sight_44 : decode cX11_sight 44 = .ok (.bipush 20, 2) := by decide +kernel
theorem dX11_sight_46 : decode cX11_sight 46 = .ok (.if_icmp .ne 6, 3) := by decide +kernel
theorem dX11_sight_49 : decode cX11_sight 49 = .ok (.ldc 253, 2) := by decide +kernel
theorem dX11_sight_51 : decode cX11_sight 51 = .ok (.ireturn, 1) := by decide +kernel
theorem dX11_sight_52 : decode cX11_sight 52 = .ok (.aload_n 0, 1) := by decide +kernel
theorem dX11_sight_53 : decode cX11_sight 53 = .ok (.getfield 26, 3) := by decide +kernel
theorem dX11_sight_56 : decode cX11_sight 56 = .ok (.iconst 4, 1) := by decide +kernel
theorem dX11_sight_57 : decode cX11_sight 57 = .ok (.aload_n 0, 1) := by decide +kernel
theorem dX11_sight_58 : decode cX11_sight 58 = .ok (.getfield 250, 3) := by decide +kernel
theorem dX11_sight_61 : decode cX11_sight 61 = .ok (.imul, 1) := by decide +kernel
theorem dX11_sight_62 : decode cX11_sight 62 = .ok (.iload_n 1, 1) := by decide +kernel
theorem dX11_sight_63 : decode cX11_sight 63 = .ok (.iastore, 1) := by decide +kernel
theorem dX11_sight_64 : decode cX11_sight 64 = .ok (.aload_n 0, 1) := by decide +kernel
theorem dX11_sight_65 : decode cX11_sight 65 = .ok (.getfield 26, 3) := by decide +kernel
theorem dX11_sight_68 : decode cX11_sight 68 = .ok (.iconst 4, 1) := by decide +kernel
theorem dX11_sight_69 : decode cX11_sight 69 = .ok (.aload_n 0, 1) := by decide +kernel
theorem dX11_sight_70 : decode cX11_sight 70 = .ok (.getfield 250, 3) := by decide +kernel
theorem dX11_sight_73 : decode cX11_sight 73 = .ok (.imul, 1) := by decide +kernel
theorem dX11_sight_74 : decode cX11_sight 74 = .ok (.iconst 1, 1) := by decide +kernel
theorem dX11_sight_75 : decode cX11_sight 75 = .ok (.iadd, 1) := by decide +kernel
theorem dX11_sight_76 : decode cX11_sight 76 = .ok (.iload_n 2, 1) := by decide +kernel
theorem dX11_sight_77 : decode cX11_sight 77 = .ok (.iastore, 1) := by decide +kernel
theorem dX11_sight_78 : decode cX11_sight 78 = .ok (.aload_n 0, 1) := by decide +kernel
theorem dX11_sight_79 : decode cX11_sight 79 = .ok (.getfield 26, 3) := by decide +kernel
theorem dX11_sight_82 : decode cX11_sight 82 = .ok (.iconst 4, 1) := by decide +kernel
theorem dX11_sight_83 : decode cX11_sight 83 = .ok (.aload_n 0, 1) := by decide +kernel
theorem dX11_sight_84 : decode cX11_sight 84 = .ok (.getfield 250, 3) := by decide +kernel
theorem dX11_sight_87 : decode cX11_sight 87 = .ok (.imul, 1) := by decide +kernel
theorem dX11_sight_88 : decode cX11_sight 88 = .ok (.iconst 2, 1) := by decide +kernel
theorem dX11_sight_89 : decode cX11_sight 89 = .ok (.iadd, 1) := by decide +kernel
theorem dX11_sight_90 : decode cX11_sight 90 = .ok (.iload_n 3, 1) := by decide +kernel
theorem dX11_sight_91 : decode cX11_sight 91 = .ok (.iastore, 1) := by decide +kernel
theorem dX11_sight_92 : decode cX11_sight 92 = .ok (.aload_n 0, 1) := by decide +kernel
theorem dX11_sight_93 : decode cX11_sight 93 = .ok (.getfield 26, 3) := by decide +kernel
theorem dX11_sight_96 : decode cX11_sight 96 = .ok (.iconst 4, 1) := by decide +kernel
theorem dX11_sight_97 : decode cX11_sight 97 = .ok (.aload_n 0, 1) := by decide +kernel
theorem dX11_sight_98 : decode cX11_sight 98 = .ok (.getfield 250, 3) := by decide +kernel
theorem dX11_sight_101 : decode cX11_sight 101 = .ok (.imul, 1) := by decide +kernel
theorem dX11_sight_102 : decode cX11_sight 102 = .ok (.iconst 3, 1) := by decide +kernel
theorem dX11_sight_103 : decode cX11_sight 103 = .ok (.iadd, 1) := by decide +kernel
theorem dX11_sight_104 : decode cX11_sight 104 = .ok (.iload 4, 2) := by decide +kernel
theorem dX11_sight_106 : decode cX11_sight 106 = .ok (.iastore, 1) := by decide +kernel
theorem dX11_sight_107 : decode cX11_sight 107 = .ok (.aload_n 0, 1) := by decide +kernel
theorem dX11_sight_108 : decode cX11_sight 108 = .ok (.dup, 1) := by decide +kernel
theorem dX11_sight_109 : decode cX11_sight 109 = .ok (.getfield 250, 3) := by decide +kernel
theorem dX11_sight_112 : decode cX11_sight 112 = .ok (.iconst 1, 1) := by decide +kernel
theorem dX11_sight_113 : decode cX11_sight 113 = .ok (.iadd, 1) := by decide +kernel
theorem dX11_sight_114 : decode cX11_sight 114 = .ok (.putfield 250, 3) := by decide +kernel
theorem dX11_sight_117 : decode cX11_sight 117 = .ok (.aload_n 0, 1) := by decide +kernel
theorem dX11_sight_118 : decode cX11_sight 118 = .ok (.getfield 250, 3) := by decide +kernel
theorem dX11_sight_121 : decode cX11_sight 121 = .ok (.ireturn, 1) := by decide +kernel
theorem dX11_forget_0 : decode cX11_forget 0 = .ok (.aload_n 0, 1) := by decide +kernel
theorem dX11_forget_1 : decode cX11_forget 1 = .ok (.getfield 250, 3) := by decide +kernel
theorem dX11_forget_4 : decode cX11_forget 4 = .ok (.istore_n 1, 1) := by decide +kernel
theorem dX11_forget_5 : decode cX11_forget 5 = .ok (.aload_n 0, 1) := by decide +kernel
theorem dX11_forget_6 : decode cX11_forget 6 = .ok (.iconst 0, 1) := by decide +kernel
theorem dX11_forget_7 : decode cX11_forget 7 = .ok (.putfield 250, 3) := by decide +kernel
theorem dX11_forget_10 : decode cX11_forget 10 = .ok (.iload_n 1, 1) := by decide +kernel
theorem dX11_forget_11 : decode cX11_forget 11 = .ok (.ireturn, 1) := by decide +kernel
set_option maxRecDepth 20000 in
theorem ggX11_agrees_X11_get : GoodIn wsX11_agrees wsX11_get := goodIn_r _ [10, 11, 92, 93, 94, 95, 96, 97, 98, 99, 100, 101, 102, 103, 104, 105, 106, 107, 108, 109, 110, 111, 112, 113, 114] (by decide +kernel) (by decide +kernel)
set_option maxRecDepth 20000 in
theorem gX11_agrees_X11_get : GoodIn wsX11_agrees (wsV RX11 137 RX11 yX11_get wsX11_get) := goodIn_app (goodIn_of _ (by decide +kernel)) ggX11_agrees_X11_get
set_option maxRecDepth 20000 in
theorem ggX11_agrees_X11_stateOf : GoodIn wsX11_agrees wsX11_stateOf := goodIn_r _ [15, 16, 17, 3, 18, 19, 5, 20, 21, 22, 9, 23, 24, 25, 26, 27, 28, 29, 30, 31, 32, 33, 34, 35, 36, 37, 38, 39, 40, 41, 42, 43, 44, 45, 46, 47, 48, 49, 50, 51, 52, 53, 54, 55, 56, 57, 58, 59, 60, 61, 62, 63, 64, 65, 66, 67, 68, 6, 7, 8, 10, 11, 69, 70, 71, 72, 73, 74, 75, 76, 77, 78, 79, 80, 81, 82, 83, 84, 85, 86, 87, 88, 89, 90, 91, 92, 93, 94, 95, 96, 97, 98, 99, 100, 101, 102, 103, 104, 105, 106, 107, 108, 109, 110, 111, 112, 113, 114] (by decide +kernel) (by decide +kernel)
set_option maxRecDepth 20000 in
theorem gX11_agrees_X11_stateOf : GoodIn wsX11_agrees (wsV RX11 210 RX11 yX11_stateOf wsX11_stateOf) := goodIn_app (goodIn_of _ (by decide +kernel)) ggX11_agrees_X11_stateOf
set_option maxRecDepth 20000 in
theorem ggX11_agrees_X11_isIn : GoodIn wsX11_agrees wsX11_isIn := goodIn_r _ [91] (by decide +kernel) (by decide +kernel)
set_option maxRecDepth 20000 in
theorem gX11_agrees_X11_isIn : GoodIn wsX11_agrees (va_wsS RX11 69 yX11_isIn wsX11_isIn) := goodIn_app (goodIn_of _ (by decide +kernel)) ggX11_agrees_X11_isIn
theorem dX11_agrees_0 : decode cX11_agrees 0 = .ok (.iconst 1, 1) := by decide +kernel
theorem dX11_agrees_1 : decode cX11_agrees 1 = .ok (.istore_n 3, 1) := by decide +kernel
theorem dX11_agrees_2 : decode cX11_agrees 2 = .ok (.iconst 0, 1) := by decide +kernel
theorem dX11_agrees_3 : decode cX11_agrees 3 = .ok (.istore 4, 2) := by decide +kernel
theorem dX11_agrees_5 : decode cX11_agrees 5 = .ok (.iload 4, 2) := by decide +kernel
theorem dX11_agrees_7 : decode cX11_agrees 7 = .ok (.aload_n 0, 1) := by decide +kernel
theorem dX11_agrees_8 : decode cX11_agrees 8 = .ok (.getfield 250, 3) := by decide +kernel
theorem dX11_agrees_11 : decode cX11_agrees 11 = .ok (.if_icmp .ge 120, 3) := by decide +kernel
theorem dX11_agrees_14 : decode cX11_agrees 14 = .ok (.iload_n 3, 1) := by decide +kernel
theorem dX11_agrees_15 : decode cX11_agrees 15 = .ok (.ifCond .eq 116, 3) := by decide +kernel
theorem dX11_agrees_18 : decode cX11_agrees 18 = .ok (.aload_n 0, 1) := by decide +kernel
theorem dX11_agrees_19 : decode cX11_agrees 19 = .ok (.iload_n 1, 1) := by decide +kernel
theorem dX11_agrees_20 : decode cX11_agrees 20 = .ok (.aload_n 0, 1) := by decide +kernel
theorem dX11_agrees_21 : decode cX11_agrees 21 = .ok (.iload_n 1, 1) := by decide +kernel
theorem dX11_agrees_22 : decode cX11_agrees 22 = .ok (.iconst 4, 1) := by decide +kernel
theorem dX11_agrees_23 : decode cX11_agrees 23 = .ok (.invokevirtual 137, 3) := by decide +kernel
theorem dX11_agrees_26 : decode cX11_agrees 26 = .ok (.iload_n 2, 1) := by decide +kernel
theorem dX11_agrees_27 : decode cX11_agrees 27 = .ok (.iadd, 1) := by decide +kernel
theorem dX11_agrees_28 : decode cX11_agrees 28 = .ok (.i2l, 1) := by decide +kernel
theorem dX11_agrees_29 : decode cX11_agrees 29 = .ok (.aload_n 0, 1) := by decide +kernel
theorem dX11_agrees_30 : decode cX11_agrees 30 = .ok (.getfield 26, 3) := by decide +kernel
theorem dX11_agrees_33 : decode cX11_agrees 33 = .ok (.iconst 4, 1) := by decide +kernel
theorem dX11_agrees_34 : decode cX11_agrees 34 = .ok (.iload 4, 2) := by decide +kernel
theorem dX11_agrees_36 : decode cX11_agrees 36 = .ok (.imul, 1) := by decide +kernel
theorem dX11_agrees_37 : decode cX11_agrees 37 = .ok (.iaload, 1) := by decide +kernel
theorem dX11_agrees_38 : decode cX11_agrees 38 = .ok (.aload_n 0, 1) := by decide +kernel
theorem dX11_agrees_39 : decode cX11_agrees 39 = .ok (.getfield 26, 3) := by decide +kernel
theorem dX11_agrees_42 : decode cX11_agrees 42 = .ok (.iconst 4, 1) := by decide +kernel
theorem dX11_agrees_43 : decode cX11_agrees 43 = .ok (.iload 4, 2) := by decide +kernel
theorem dX11_agrees_45 : decode cX11_agrees 45 = .ok (.imul, 1) := by decide +kernel
theorem dX11_agrees_46 : decode cX11_agrees 46 = .ok (.iconst 1, 1) := by decide +kernel
theorem dX11_agrees_47 : decode cX11_agrees 47 = .ok (.iadd, 1) := by decide +kernel
theorem dX11_agrees_48 : decode cX11_agrees 48 = .ok (.iaload, 1) := by decide +kernel
theorem dX11_agrees_49 : decode cX11_agrees 49 = .ok (.invokevirtual 210, 3) := by decide +kernel
theorem dX11_agrees_52 : decode cX11_agrees 52 = .ok (.ifCond .ne 7, 3) := by decide +kernel
theorem dX11_agrees_55 : decode cX11_agrees 55 = .ok (.iconst 1, 1) := by decide +kernel
theorem dX11_agrees_56 : decode cX11_agrees 56 = .ok (.goto 4, 3) := by decide +kernel
theorem dX11_agrees_59 : decode cX11_agrees 59 = .ok (.iconst 0, 1) := by decide +kernel
theorem dX11_agrees_60 : decode cX11_agrees 60 = .ok (.istore_n 3, 1) := by decide +kernel
theorem dX11_agrees_61 : decode cX11_agrees 61 = .ok (.iload_n 3, 1) := by decide +kernel
theorem dX11_agrees_62 : decode cX11_agrees 62 = .ok (.ifCond .eq 61, 3) := by decide +kernel
theorem dX11_agrees_65 : decode cX11_agrees 65 = .ok (.aload_n 0, 1) := by decide +kernel
theorem dX11_agrees_66 : decode cX11_agrees 66 = .ok (.getfield 189, 3) := by decide +kernel
theorem dX11_agrees_69 : decode cX11_agrees 69 = .ok (.aload_n 0, 1) := by decide +kernel
theorem dX11_agrees_70 : decode cX11_agrees 70 = .ok (.getfield 26, 3) := by decide +kernel
theorem dX11_agrees_73 : decode cX11_agrees 73 = .ok (.iconst 4, 1) := by decide +kernel
theorem dX11_agrees_74 : decode cX11_agrees 74 = .ok (.iload 4, 2) := by decide +kernel
theorem dX11_agrees_76 : decode cX11_agrees 76 = .ok (.imul, 1) := by decide +kernel
theorem dX11_agrees_77 : decode cX11_agrees 77 = .ok (.iconst 2, 1) := by decide +kernel
theorem dX11_agrees_78 : decode cX11_agrees 78 = .ok (.iadd, 1) := by decide +kernel
theorem dX11_agrees_79 : decode cX11_agrees 79 = .ok (.iaload, 1) := by decide +kernel
theorem dX11_agrees_80 : decode cX11_agrees 80 = .ok (.i2l, 1) := by decide +kernel
theorem dX11_agrees_81 : decode cX11_agrees 81 = .ok (.lsub, 1) := by decide +kernel
theorem dX11_agrees_82 : decode cX11_agrees 82 = .ok (.ldc2_w 244, 3) := by decide +kernel
theorem dX11_agrees_85 : decode cX11_agrees 85 = .ok (.lconst 1, 1) := by decide +kernel
theorem dX11_agrees_86 : decode cX11_agrees 86 = .ok (.invokestatic 69, 3) := by decide +kernel
theorem dX11_agrees_89 : decode cX11_agrees 89 = .ok (.ifCond .eq 34, 3) := by decide +kernel
theorem dX11_agrees_92 : decode cX11_agrees 92 = .ok (.aload_n 0, 1) := by decide +kernel
theorem dX11_agrees_93 : decode cX11_agrees 93 = .ok (.getfield 192, 3) := by decide +kernel
theorem dX11_agrees_96 : decode cX11_agrees 96 = .ok (.aload_n 0, 1) := by decide +kernel
theorem dX11_agrees_97 : decode cX11_agrees 97 = .ok (.getfield 26, 3) := by decide +kernel
theorem dX11_agrees_100 : decode cX11_agrees 100 = .ok (.iconst 4, 1) := by decide +kernel
theorem dX11_agrees_101 : decode cX11_agrees 101 = .ok (.iload 4, 2) := by decide +kernel
theorem dX11_agrees_103 : decode cX11_agrees 103 = .ok (.imul, 1) := by decide +kernel
theorem dX11_agrees_104 : decode cX11_agrees 104 = .ok (.iconst 3, 1) := by decide +kernel
theorem dX11_agrees_105 : decode cX11_agrees 105 = .ok (.iadd, 1) := by decide +kernel
theorem dX11_agrees_106 : decode cX11_agrees 106 = .ok (.iaload, 1) := by decide +kernel
theorem dX11_agrees_107 : decode cX11_agrees 107 = .ok (.i2l, 1) := by decide +kernel
theorem dX11_agrees_108 : decode cX11_agrees 108 = .ok (.lsub, 1) := by decide +kernel
theorem dX11_agrees_109 : decode cX11_agrees 109 = .ok (.ldc2_w 244, 3) := by decide +kernel
theorem dX11_agrees_112 : decode cX11_agrees 112 = .ok (.lconst 1, 1) := by decide +kernel
theorem dX11_agrees_113 : decode cX11_agrees 113 = .ok (.invokestatic 69, 3) := by decide +kernel
theorem dX11_agrees_116 : decode cX11_agrees 116 = .ok (.ifCond .eq 7, 3) := by decide +kernel
theorem dX11_agrees_119 : decode cX11_agrees 119 = .ok (.iconst 1, 1) := by decide +kernel
theorem dX11_agrees_120 : decode cX11_agrees 120 = .ok (.goto 4, 3) := by decide +kernel
theorem dX11_agrees_123 : decode cX11_agrees 123 = .ok (.iconst 0, 1) := by decide +kernel
theorem dX11_agrees_124 : decode cX11_agrees 124 = .ok (.istore_n 3, 1) := by decide +kernel
theorem dX11_agrees_125 : decode cX11_agrees 125 = .ok (.iinc 4 1, 3) := by decide +kernel
theorem dX11_agrees_128 : decode cX11_agrees 128 = .ok (.goto (-123), 3) := by decide +kernel
theorem dX11_agrees_131 : decode cX11_agrees 131 = .ok (.iload_n 3, 1) := by decide +kernel
theorem dX11_agrees_132 : decode cX11_agrees 132 = .ok (.ireturn, 1) := by decide +kernel
set_option maxRecDepth 20000 in
theorem ggX11_found_X11_isPlace : GoodIn wsX11_found wsX11_isPlace := goodIn_r _ [9, 10, 11, 12, 8, 13] (by decide +kernel) (by decide +kernel)
set_option maxRecDepth 20000 in
theorem gX11_found_X11_isPlace : GoodIn wsX11_found (va_wsS RX11 142 yX11_isPlace wsX11_isPlace) := goodIn_app (goodIn_of _ (by decide +kernel)) ggX11_found_X11_isPlace
set_option maxRecDepth 20000 in
theorem ggX11_found_X11_isOfKind : GoodIn wsX11_found wsX11_isOfKind := goodIn_r _ [17, 18, 19, 20, 8, 21, 22, 104, 105, 106, 107, 108, 109, 110, 111, 112, 113, 114, 115, 116, 117, 118, 119, 120, 121, 122, 123, 124, 125, 126] (by decide +kernel) (by decide +kernel)
set_option maxRecDepth 20000 in
theorem gX11_found_X11_isOfKind : GoodIn wsX11_found (wsV RX11 167 RX11 yX11_isOfKind wsX11_isOfKind) := goodIn_app (goodIn_of _ (by decide +kernel)) ggX11_found_X11_isOfKind
set_option maxRecDepth 20000 in
theorem ggX11_found_X11_agrees : GoodIn wsX11_found wsX11_agrees := goodIn_r _ [26, 2, 27, 28, 29, 30, 18, 19, 20, 8, 21, 22, 31, 32, 33, 34, 35, 36, 37, 38, 39, 40, 41, 42, 43, 44, 45, 46, 47, 48, 49, 50, 51, 52, 53, 54, 55, 56, 57, 58, 59, 60, 61, 62, 63, 64, 65, 66, 67, 68, 69, 70, 71, 72, 73, 74, 75, 76, 77, 78, 79, 80, 81, 82, 83, 14, 15, 16, 17, 84, 85, 86, 87, 88, 89, 90, 91, 92, 93, 94, 95, 96, 97, 98, 99, 100, 101, 102, 103, 11, 12, 13, 104, 105, 106, 107, 108, 109, 110, 111, 112, 113, 114, 115, 116, 117, 118, 119, 120, 121, 122, 123, 124, 125, 126] (by decide +kernel) (by decide +kernel)
set_option maxRecDepth 20000 in
theorem gX11_found_X11_agrees : GoodIn wsX11_found (wsV RX11 257 RX11 yX11_agrees wsX11_agrees) := goodIn_app (goodIn_of _ (by decide +kernel)) ggX11_found_X11_agrees
theorem dX11_found_0 : decode cX11_found 0 = .ok (.iload_n 1, 1) := by decide +kernel
theorem dX11_found_1 : decode cX11_found 1 = .ok (.invokestatic 142, 3) := by decide +kernel
theorem dX11_found_4 : decode cX11_found 4 = .ok (.ifCond .ne 6, 3) := by decide +kernel
theorem dX11_found_7 : decode cX11_found 7 = .ok (.ldc 73, 2) := by decide +kernel
theorem dX11_found_9 : decode cX11_found 9 = .ok (.ireturn, 1) := by decide +kernel
theorem dX11_found_10 : decode cX11_found 10 = .ok (.aload_n 0, 1) := by decide +kernel
theorem dX11_found_11 : decode cX11_found 11 = .ok (.iload_n 1, 1) := by decide +kernel
theorem dX11_found_12 : decode cX11_found 12 = .ok (.iconst 1, 1) := by decide +kernel
theorem dX11_found_13 : decode cX11_found 13 = .ok (.invokevirtual 167, 3) := by decide +kernel
theorem dX11_found_16 : decode cX11_found 16 = .ok (.ifCond .eq 11, 3) := by decide +kernel
theorem dX11_found_19 : decode cX11_found 19 = .ok (.aload_n 0, 1) := by decide +kernel
theorem dX11_found_20 : decode cX11_found 20 = .ok (.getfield 250, 3) := by decide +kernel
theorem dX11_found_23 : decode cX11_found 23 = .ok (.iconst 3, 1) := by decide +kernel
theorem dX11_found_24 : decode cX11_found 24 = .ok (.if_icmp .ge 6, 3) := by decide +kernel
theorem dX11_found_27 : decode cX11_found 27 = .ok (.ldc 141, 2) := by decide +kernel
theorem dX11_found_29 : decode cX11_found 29 = .ok (.ireturn, 1) := by decide +kernel
theorem dX11_found_30 : decode cX11_found 30 = .ok (.aload_n 0, 1) := by decide +kernel
theorem dX11_found_31 : decode cX11_found 31 = .ok (.iconst 0, 1) := by decide +kernel
theorem dX11_found_32 : decode cX11_found 32 = .ok (.putfield 254, 3) := by decide +kernel
theorem dX11_found_35 : decode cX11_found 35 = .ok (.sipush (-300), 3) := by decide +kernel
theorem dX11_found_38 : decode cX11_found 38 = .ok (.istore_n 2, 1) := by decide +kernel
theorem dX11_found_39 : decode cX11_found 39 = .ok (.iload_n 2, 1) := by decide +kernel
theorem dX11_found_40 : decode cX11_found 40 = .ok (.sipush 300, 3) := by decide +kernel
theorem dX11_found_43 : decode cX11_found 43 = .ok (.if_icmp .gt 38, 3) := by decide +kernel
theorem dX11_found_46 : decode cX11_found 46 = .ok (.aload_n 0, 1) := by decide +kernel
theorem dX11_found_47 : decode cX11_found 47 = .ok (.iload_n 1, 1) := by decide +kernel
theorem dX11_found_48 : decode cX11_found 48 = .ok (.iload_n 2, 1) := by decide +kernel
theorem dX11_found_49 : decode cX11_found 49 = .ok (.invokevirtual 257, 3) := by decide +kernel
theorem dX11_found_52 : decode cX11_found 52 = .ok (.ifCond .eq 23, 3) := by decide +kernel
theorem dX11_found_55 : decode cX11_found 55 = .ok (.aload_n 0, 1) := by decide +kernel
theorem dX11_found_56 : decode cX11_found 56 = .ok (.getfield 29, 3) := by decide +kernel
theorem dX11_found_59 : decode cX11_found 59 = .ok (.aload_n 0, 1) := by decide +kernel
theorem dX11_found_60 : decode cX11_found 60 = .ok (.getfield 254, 3) := by decide +kernel
theorem dX11_found_63 : decode cX11_found 63 = .ok (.iload_n 2, 1) := by decide +kernel
theorem dX11_found_64 : decode cX11_found 64 = .ok (.iastore, 1) := by decide +kernel
theorem dX11_found_65 : decode cX11_found 65 = .ok (.aload_n 0, 1) := by decide +kernel
theorem dX11_found_66 : decode cX11_found 66 = .ok (.dup, 1) := by decide +kernel
theorem dX11_found_67 : decode cX11_found 67 = .ok (.getfield 254, 3) := by decide +kernel
theorem dX11_found_70 : decode cX11_found 70 = .ok (.iconst 1, 1) := by decide +kernel
theorem dX11_found_71 : decode cX11_found 71 = .ok (.iadd, 1) := by decide +kernel
theorem dX11_found_72 : decode cX11_found 72 = .ok (.putfield 254, 3) := by decide +kernel
theorem dX11_found_75 : decode cX11_found 75 = .ok (.iinc 2 1, 3) := by decide +kernel
theorem dX11_found_78 : decode cX11_found 78 = .ok (.goto (-39), 3) := by decide +kernel
theorem dX11_found_81 : decode cX11_found 81 = .ok (.aload_n 0, 1) := by decide +kernel
theorem dX11_found_82 : decode cX11_found 82 = .ok (.getfield 254, 3) := by decide +kernel
theorem dX11_found_85 : decode cX11_found 85 = .ok (.ireturn, 1) := by decide +kernel
set_option maxRecDepth 20000 in
theorem ggX11_turn_X11_isIn : GoodIn wsX11_turn wsX11_isIn := goodIn_r _ [7] (by decide +kernel) (by decide +kernel)
set_option maxRecDepth 20000 in
theorem gX11_turn_X11_isIn : GoodIn wsX11_turn (va_wsS RX11 69 yX11_isIn wsX11_isIn) := goodIn_app (goodIn_of _ (by decide +kernel)) ggX11_turn_X11_isIn
theorem dX11_turn_0 : decode cX11_turn 0 = .ok (.iload_n 1, 1) := by decide +kernel
theorem dX11_turn_1 : decode cX11_turn 1 = .ok (.i2l, 1) := by decide +kernel
theorem dX11_turn_2 : decode cX11_turn 2 = .ok (.lconst 0, 1) := by decide +kernel
theorem dX11_turn_3 : decode cX11_turn 3 = .ok (.aload_n 0, 1) := by decide +kernel
theorem dX11_turn_4 : decode cX11_turn 4 = .ok (.getfield 254, 3) := by decide +kernel
theorem dX11_turn_7 : decode cX11_turn 7 = .ok (.iconst 1, 1) := by decide +kernel
theorem dX11_turn_8 : decode cX11_turn 8 = .ok (.isub, 1) := by decide +kernel
theorem dX11_turn_9 : decode cX11_turn 9 = .ok (.i2l, 1) := by decide +kernel
theorem dX11_turn_10 : decode cX11_turn 10 = .ok (.invokestatic 69, 3) := by decide +kernel
theorem dX11_turn_13 : decode cX11_turn 13 = .ok (.ifCond .eq 12, 3) := by decide +kernel
theorem dX11_turn_16 : decode cX11_turn 16 = .ok (.aload_n 0, 1) := by decide +kernel
theorem dX11_turn_17 : decode cX11_turn 17 = .ok (.getfield 29, 3) := by decide +kernel
theorem dX11_turn_20 : decode cX11_turn 20 = .ok (.iload_n 1, 1) := by decide +kernel
theorem dX11_turn_21 : decode cX11_turn 21 = .ok (.iaload, 1) := by decide +kernel
theorem dX11_turn_22 : decode cX11_turn 22 = .ok (.goto 5, 3) := by decide +kernel
theorem dX11_turn_25 : decode cX11_turn 25 = .ok (.ldc 73, 2) := by decide +kernel
theorem dX11_turn_27 : decode cX11_turn 27 = .ok (.ireturn, 1) := by decide +kernel
set_option maxRecDepth 20000 in
theorem ggX11_manyOf_X11_get : GoodIn wsX11_manyOf wsX11_get := goodIn_r _ [5, 6, 10, 11, 12, 13, 14, 15, 16, 17, 18, 19, 20, 21, 22, 23, 24, 25, 26, 27, 28, 29, 30, 31, 32] (by decide +kernel) (by decide +kernel)
set_option maxRecDepth 20000 in
theorem gX11_manyOf_X11_get : GoodIn wsX11_manyOf (wsV RX11 137 RX11 yX11_get wsX11_get) := goodIn_app (goodIn_of _ (by decide +kernel)) ggX11_manyOf_X11_get
set_option maxRecDepth 20000 in
theorem ggX11_manyOf_X11_isIn : GoodIn wsX11_manyOf wsX11_isIn := goodIn_r _ [9] (by decide +kernel) (by decide +kernel)
set_option maxRecDepth 20000 in
theorem gX11_manyOf_X11_isIn : GoodIn wsX11_manyOf (va_wsS RX11 69 yX11_isIn wsX11_isIn) := goodIn_app (goodIn_of _ (by decide +kernel)) ggX11_manyOf_X11_isIn
theorem dX11_manyOf_0 : decode cX11_manyOf 0 = .ok (.iconst 0, 1) := by decide +kernel
theorem dX11_manyOf_1 : decode cX11_manyOf 1 = .ok (.istore_n 3, 1) := by decide +kernel
theorem dX11_manyOf_2 : decode cX11_manyOf 2 = .ok (.iconst 0, 1) := by decide +kernel
theorem dX11_manyOf_3 : decode cX11_manyOf 3 = .ok (.istore 4, 2) := by decide +kernel
theorem dX11_manyOf_5 : decode cX11_manyOf 5 = .ok (.iload 4, 2) := by decide +kernel
theorem dX11_manyOf_7 : decode cX11_manyOf 7 = .ok (.bipush 40, 2) := by decide +kernel
theorem dX11_manyOf_9 : decode cX11_manyOf 9 = .ok (.if_icmp .ge 35, 3) := by decide +kernel
theorem dX11_manyOf_12 : decode cX11_manyOf 12 = .ok (.iload_n 3, 1) := by decide +kernel
theorem dX11_manyOf_13 : decode cX11_manyOf 13 = .ok (.aload_n 0, 1) := by decide +kernel
theorem dX11_manyOf_14 : decode cX11_manyOf 14 = .ok (.iload 4, 2) := by decide +kernel
theorem dX11_manyOf_16 : decode cX11_manyOf 16 = .ok (.iconst 0, 1) := by decide +kernel
theorem dX11_manyOf_17 : decode cX11_manyOf 17 = .ok (.invokevirtual 137, 3) := by decide +kernel
theorem dX11_manyOf_20 : decode cX11_manyOf 20 = .ok (.i2l, 1) := by decide +kernel
theorem dX11_manyOf_21 : decode cX11_manyOf 21 = .ok (.iload_n 1, 1) := by decide +kernel
theorem dX11_manyOf_22 : decode cX11_manyOf 22 = .ok (.i2l, 1) := by decide +kernel
theorem dX11_manyOf_23 : decode cX11_manyOf 23 = .ok (.iload_n 2, 1) := by decide +kernel
theorem dX11_manyOf_24 : decode cX11_manyOf 24 = .ok (.i2l, 1) := by decide +kernel
theorem dX11_manyOf_25 : decode cX11_manyOf 25 = .ok (.invokestatic 69, 3) := by decide +kernel
theorem dX11_manyOf_28 : decode cX11_manyOf 28 = .ok (.ifCond .eq 7, 3) := by decide +kernel
theorem dX11_manyOf_31 : decode cX11_manyOf 31 = .ok (.iconst 1, 1) := by decide +kernel
theorem dX11_manyOf_32 : decode cX11_manyOf 32 = .ok (.goto 4, 3) := by decide +kernel
theorem dX11_manyOf_35 : decode cX11_manyOf 35 = .ok (.iconst 0, 1) := by decide +kernel
theorem dX11_manyOf_36 : decode cX11_manyOf 36 = .ok (.iadd, 1) := by decide +kernel
theorem dX11_manyOf_37 : decode cX11_manyOf 37 = .ok (.istore_n 3, 1) := by decide +kernel
theorem dX11_manyOf_38 : decode cX11_manyOf 38 = .ok (.iinc 4 1, 3) := by decide +kernel
theorem dX11_manyOf_41 : decode cX11_manyOf 41 = .ok (.goto (-36), 3) := by decide +kernel
theorem dX11_manyOf_44 : decode cX11_manyOf 44 = .ok (.iload_n 3, 1) := by decide +kernel
theorem dX11_manyOf_45 : decode cX11_manyOf 45 = .ok (.ireturn, 1) := by decide +kernel
set_option maxRecDepth 20000 in
theorem ggX11_count_X11_manyOf : GoodIn wsX11_count wsX11_manyOf := goodIn_r _ [10, 11, 12, 13, 9, 14, 15, 16, 17, 18, 19, 20, 21, 22, 23, 24, 25, 26, 27, 28, 29, 30, 31, 32, 33, 34, 35, 36, 37, 38, 39, 40, 41] (by decide +kernel) (by decide +kernel)
set_option maxRecDepth 20000 in
theorem gX11_count_X11_manyOf : GoodIn wsX11_count (wsV RX11 260 RX11 yX11_manyOf wsX11_manyOf) := goodIn_app (goodIn_of _ (by decide +kernel)) ggX11_count_X11_manyOf
theorem dX11_count_0 : decode cX11_count 0 = .ok (.iload_n 1, 1) := by decide +kernel
theorem dX11_count_1 : decode cX11_count 1 = .ok (.tableswitch 86 0 6 #[43, 51, 59, 66, 71, 76, 81], 43) := by decide +kernel
theorem dX11_count_44 : decode cX11_count 44 = .ok (.aload_n 0, 1) := by decide +kernel
theorem dX11_count_45 : decode cX11_count 45 = .ok (.iconst 1, 1) := by decide +kernel
theorem dX11_count_46 : decode cX11_count 46 = .ok (.bipush 6, 2) := by decide +kernel
theorem dX11_count_48 : decode cX11_count 48 = .ok (.invokevirtual 260, 3) := by decide +kernel
theorem dX11_count_51 : decode cX11_count 51 = .ok (.ireturn, 1) := by decide +kernel
theorem dX11_count_52 : decode cX11_count 52 = .ok (.aload_n 0, 1) := by decide +kernel
theorem dX11_count_53 : decode cX11_count 53 = .ok (.iconst 2, 1) := by decide +kernel
theorem dX11_count_54 : decode cX11_count 54 = .ok (.bipush 6, 2) := by decide +kernel
theorem dX11_count_56 : decode cX11_count 56 = .ok (.invokevirtual 260, 3) := by decide +kernel
theorem dX11_count_59 : decode cX11_count 59 = .ok (.ireturn, 1) := by decide +kernel
theorem dX11_count_60 : decode cX11_count 60 = .ok (.aload_n 0, 1) := by decide +kernel
theorem dX11_count_61 : decode cX11_count 61 = .ok (.iconst 1, 1) := by decide +kernel
theorem dX11_count_62 : decode cX11_count 62 = .ok (.iconst 1, 1) := by decide +kernel
theorem dX11_count_63 : decode cX11_count 63 = .ok (.invokevirtual 260, 3) := by decide +kernel
theorem dX11_count_66 : decode cX11_count 66 = .ok (.ireturn, 1) := by decide +kernel
theorem dX11_count_67 : decode cX11_count 67 = .ok (.aload_n 0, 1) := by decide +kernel
theorem dX11_count_68 : decode cX11_count 68 = .ok (.getfield 76, 3) := by decide +kernel
theorem dX11_count_71 : decode cX11_count 71 = .ok (.ireturn, 1) := by decide +kernel
theorem dX11_count_72 : decode cX11_count 72 = .ok (.aload_n 0, 1) := by decide +kernel
theorem dX11_count_73 : decode cX11_count 73 = .ok (.getfield 250, 3) := by decide +kernel
theorem dX11_count_76 : decode cX11_count 76 = .ok (.ireturn, 1) := by decide +kernel
theorem dX11_count_77 : decode cX11_count 77 = .ok (.aload_n 0, 1) := by decide +kernel
theorem dX11_count_78 : decode cX11_count 78 = .ok (.getfield 46, 3) := by decide +kernel
theorem dX11_count_81 : decode cX11_count 81 = .ok (.ireturn, 1) := by decide +kernel
theorem dX11_count_82 : decode cX11_count 82 = .ok (.aload_n 0, 1) := by decide +kernel
theorem dX11_count_83 : decode cX11_count 83 = .ok (.getfield 254, 3) := by decide +kernel
theorem dX11_count_86 : decode cX11_count 86 = .ok (.ireturn, 1) := by decide +kernel
theorem dX11_count_87 : decode cX11_count 87 = .ok (.ldc 73, 2) := by decide +kernel
theorem dX11_count_89 : decode cX11_count 89 = .ok (.ireturn, 1) := by decide +kernel
theorem dJ6_bitCount_0f7a4_0 : decode cJ6_bitCount_0f7a4 0 = .ok (.iload_n 0, 1) := by decide +kernel
theorem dJ6_bitCount_0f7a4_1 : decode cJ6_bitCount_0f7a4 1 = .ok (.iload_n 0, 1) := by decide +kernel
theorem dJ6_bitCount_0f7a4_2 : decode cJ6_bitCount_0f7a4 2 = .ok (.iconst 1, 1) := by decide +kernel
theorem dJ6_bitCount_0f7a4_3 : decode cJ6_bitCount_0f7a4 3 = .ok (.iushr, 1) := by decide +kernel
theorem dJ6_bitCount_0f7a4_4 : decode cJ6_bitCount_0f7a4 4 = .ok (.ldc_w 265, 3) := by decide +kernel
theorem dJ6_bitCount_0f7a4_7 : decode cJ6_bitCount_0f7a4 7 = .ok (.iand, 1) := by decide +kernel
theorem dJ6_bitCount_0f7a4_8 : decode cJ6_bitCount_0f7a4 8 = .ok (.isub, 1) := by decide +kernel
theorem dJ6_bitCount_0f7a4_9 : decode cJ6_bitCount_0f7a4 9 = .ok (.istore_n 0, 1) := by decide +kernel
theorem dJ6_bitCount_0f7a4_10 : decode cJ6_bitCount_0f7a4 10 = .ok (.iload_n 0, 1) := by decide +kernel
theorem dJ6_bitCount_0f7a4_11 : decode cJ6_bitCount_0f7a4 11 = .ok (.ldc_w 266, 3) := by decide +kernel
theorem dJ6_bitCount_0f7a4_14 : decode cJ6_bitCount_0f7a4 14 = .ok (.iand, 1) := by decide +kernel
theorem dJ6_bitCount_0f7a4_15 : decode cJ6_bitCount_0f7a4 15 = .ok (.iload_n 0, 1) := by decide +kernel
theorem dJ6_bitCount_0f7a4_16 : decode cJ6_bitCount_0f7a4 16 = .ok (.iconst 2, 1) := by decide +kernel
theorem dJ6_bitCount_0f7a4_17 : decode cJ6_bitCount_0f7a4 17 = .ok (.iushr, 1) := by decide +kernel
theorem dJ6_bitCount_0f7a4_18 : decode cJ6_bitCount_0f7a4 18 = .ok (.ldc_w 266, 3) := by decide +kernel
theorem dJ6_bitCount_0f7a4_21 : decode cJ6_bitCount_0f7a4 21 = .ok (.iand, 1) := by decide +kernel
theorem dJ6_bitCount_0f7a4_22 : decode cJ6_bitCount_0f7a4 22 = .ok (.iadd, 1) := by decide +kernel
theorem dJ6_bitCount_0f7a4_23 : decode cJ6_bitCount_0f7a4 23 = .ok (.istore_n 0, 1) := by decide +kernel
theorem dJ6_bitCount_0f7a4_24 : decode cJ6_bitCount_0f7a4 24 = .ok (.iload_n 0, 1) := by decide +kernel
theorem dJ6_bitCount_0f7a4_25 : decode cJ6_bitCount_0f7a4 25 = .ok (.iload_n 0, 1) := by decide +kernel
theorem dJ6_bitCount_0f7a4_26 : decode cJ6_bitCount_0f7a4 26 = .ok (.iconst 4, 1) := by decide +kernel
theorem dJ6_bitCount_0f7a4_27 : decode cJ6_bitCount_0f7a4 27 = .ok (.iushr, 1) := by decide +kernel
theorem dJ6_bitCount_0f7a4_28 : decode cJ6_bitCount_0f7a4 28 = .ok (.iadd, 1) := by decide +kernel
theorem dJ6_bitCount_0f7a4_29 : decode cJ6_bitCount_0f7a4 29 = .ok (.ldc_w 267, 3) := by decide +kernel
theorem dJ6_bitCount_0f7a4_32 : decode cJ6_bitCount_0f7a4 32 = .ok (.iand, 1) := by decide +kernel
theorem dJ6_bitCount_0f7a4_33 : decode cJ6_bitCount_0f7a4 33 = .ok (.istore_n 0, 1) := by decide +kernel
theorem dJ6_bitCount_0f7a4_34 : decode cJ6_bitCount_0f7a4 34 = .ok (.iload_n 0, 1) := by decide +kernel
theorem dJ6_bitCount_0f7a4_35 : decode cJ6_bitCount_0f7a4 35 = .ok (.iload_n 0, 1) := by decide +kernel
theorem dJ6_bitCount_0f7a4_36 : decode cJ6_bitCount_0f7a4 36 = .ok (.bipush 8, 2) := by decide +kernel
theorem dJ6_bitCount_0f7a4_38 : decode cJ6_bitCount_0f7a4 38 = .ok (.iushr, 1) := by decide +kernel
theorem dJ6_bitCount_0f7a4_39 : decode cJ6_bitCount_0f7a4 39 = .ok (.iadd, 1) := by decide +kernel
theorem dJ6_bitCount_0f7a4_40 : decode cJ6_bitCount_0f7a4 40 = .ok (.istore_n 0, 1) := by decide +kernel
theorem dJ6_bitCount_0f7a4_41 : decode cJ6_bitCount_0f7a4 41 = .ok (.iload_n 0, 1) := by decide +kernel
theorem dJ6_bitCount_0f7a4_42 : decode cJ6_bitCount_0f7a4 42 = .ok (.iload_n 0, 1) := by decide +kernel
theorem dJ6_bitCount_0f7a4_43 : decode cJ6_bitCount_0f7a4 43 = .ok (.bipush 16, 2) := by decide +kernel
theorem dJ6_bitCount_0f7a4_45 : decode cJ6_bitCount_0f7a4 45 = .ok (.iushr, 1) := by decide +kernel
theorem dJ6_bitCount_0f7a4_46 : decode cJ6_bitCount_0f7a4 46 = .ok (.iadd, 1) := by decide +kernel
theorem dJ6_bitCount_0f7a4_47 : decode cJ6_bitCount_0f7a4 47 = .ok (.istore_n 0, 1) := by decide +kernel
theorem dJ6_bitCount_0f7a4_48 : decode cJ6_bitCount_0f7a4 48 = .ok (.iload_n 0, 1) := by decide +kernel
theorem dJ6_bitCount_0f7a4_49 : decode cJ6_bitCount_0f7a4 49 = .ok (.bipush 63, 2) := by decide +kernel
theorem dJ6_bitCount_0f7a4_51 : decode cJ6_bitCount_0f7a4 51 = .ok (.iand, 1) := by decide +kernel
theorem dJ6_bitCount_0f7a4_52 : decode cJ6_bitCount_0f7a4 52 = .ok (.ireturn, 1) := by decide +kernel
theorem dJ9_floorDiv_7cf53_0 : decode cJ9_floorDiv_7cf53 0 = .ok (.iload_n 0, 1) := by decide +kernel
theorem dJ9_floorDiv_7cf53_1 : decode cJ9_floorDiv_7cf53 1 = .ok (.iload_n 1, 1) := by decide +kernel
theorem dJ9_floorDiv_7cf53_2 : decode cJ9_floorDiv_7cf53 2 = .ok (.idiv, 1) := by decide +kernel
theorem dJ9_floorDiv_7cf53_3 : decode cJ9_floorDiv_7cf53 3 = .ok (.istore_n 2, 1) := by decide +kernel
theorem dJ9_floorDiv_7cf53_4 : decode cJ9_floorDiv_7cf53 4 = .ok (.iload_n 0, 1) := by decide +kernel
theorem dJ9_floorDiv_7cf53_5 : decode cJ9_floorDiv_7cf53 5 = .ok (.iload_n 1, 1) := by decide +kernel
theorem dJ9_floorDiv_7cf53_6 : decode cJ9_floorDiv_7cf53 6 = .ok (.ixor, 1) := by decide +kernel
theorem dJ9_floorDiv_7cf53_7 : decode cJ9_floorDiv_7cf53 7 = .ok (.ifCond .ge 14, 3) := by decide +kernel
theorem dJ9_floorDiv_7cf53_10 : decode cJ9_floorDiv_7cf53 10 = .ok (.iload_n 2, 1) := by decide +kernel
theorem dJ9_floorDiv_7cf53_11 : decode cJ9_floorDiv_7cf53 11 = .ok (.iload_n 1, 1) := by decide +kernel
theorem dJ9_floorDiv_7cf53_12 : decode cJ9_floorDiv_7cf53 12 = .ok (.imul, 1) := by decide +kernel
theorem dJ9_floorDiv_7cf53_13 : decode cJ9_floorDiv_7cf53 13 = .ok (.iload_n 0, 1) := by decide +kernel
theorem dJ9_floorDiv_7cf53_14 : decode cJ9_floorDiv_7cf53 14 = .ok (.if_icmp .eq 7, 3) := by decide +kernel
theorem dJ9_floorDiv_7cf53_17 : decode cJ9_floorDiv_7cf53 17 = .ok (.iload_n 2, 1) := by decide +kernel
theorem dJ9_floorDiv_7cf53_18 : decode cJ9_floorDiv_7cf53 18 = .ok (.iconst 1, 1) := by decide +kernel
theorem dJ9_floorDiv_7cf53_19 : decode cJ9_floorDiv_7cf53 19 = .ok (.isub, 1) := by decide +kernel
theorem dJ9_floorDiv_7cf53_20 : decode cJ9_floorDiv_7cf53 20 = .ok (.ireturn, 1) := by decide +kernel
theorem dJ9_floorDiv_7cf53_21 : decode cJ9_floorDiv_7cf53 21 = .ok (.iload_n 2, 1) := by decide +kernel
theorem dJ9_floorDiv_7cf53_22 : decode cJ9_floorDiv_7cf53 22 = .ok (.ireturn, 1) := by decide +kernel
theorem dJ9_floorDiv_f86c9_0 : decode cJ9_floorDiv_f86c9 0 = .ok (.lload_n 0, 1) := by decide +kernel
theorem dJ9_floorDiv_f86c9_1 : decode cJ9_floorDiv_f86c9 1 = .ok (.lload_n 2, 1) := by decide +kernel
theorem dJ9_floorDiv_f86c9_2 : decode cJ9_floorDiv_f86c9 2 = .ok (.ldiv, 1) := by decide +kernel
theorem dJ9_floorDiv_f86c9_3 : decode cJ9_floorDiv_f86c9 3 = .ok (.lstore 4, 2) := by decide +kernel
theorem dJ9_floorDiv_f86c9_5 : decode cJ9_floorDiv_f86c9 5 = .ok (.lload_n 0, 1) := by decide +kernel
theorem dJ9_floorDiv_f86c9_6 : decode cJ9_floorDiv_f86c9 6 = .ok (.lload_n 2, 1) := by decide +kernel
theorem dJ9_floorDiv_f86c9_7 : decode cJ9_floorDiv_f86c9 7 = .ok (.lxor, 1) := by decide +kernel
theorem dJ9_floorDiv_f86c9_8 : decode cJ9_floorDiv_f86c9 8 = .ok (.lconst 0, 1) := by decide +kernel
theorem dJ9_floorDiv_f86c9_9 : decode cJ9_floorDiv_f86c9 9 = .ok (.lcmp, 1) := by decide +kernel
theorem dJ9_floorDiv_f86c9_10 : decode cJ9_floorDiv_f86c9 10 = .ok (.ifCond .ge 17, 3) := by decide +kernel
theorem dJ9_floorDiv_f86c9_13 : decode cJ9_floorDiv_f86c9 13 = .ok (.lload 4, 2) := by decide +kernel
theorem dJ9_floorDiv_f86c9_15 : decode cJ9_floorDiv_f86c9 15 = .ok (.lload_n 2, 1) := by decide +kernel
theorem dJ9_floorDiv_f86c9_16 : decode cJ9_floorDiv_f86c9 16 = .ok (.lmul, 1) := by decide +kernel
theorem dJ9_floorDiv_f86c9_17 : decode cJ9_floorDiv_f86c9 17 = .ok (.lload_n 0, 1) := by decide +kernel
theorem dJ9_floorDiv_f86c9_18 : decode cJ9_floorDiv_f86c9 18 = .ok (.lcmp, 1) := by decide +kernel
theorem dJ9_floorDiv_f86c9_19 : decode cJ9_floorDiv_f86c9 19 = .ok (.ifCond .eq 8, 3) := by decide +kernel
theorem dJ9_floorDiv_f86c9_22 : decode cJ9_floorDiv_f86c9 22 = .ok (.lload 4, 2) := by decide +kernel
theorem dJ9_floorDiv_f86c9_24 : decode cJ9_floorDiv_f86c9 24 = .ok (.lconst 1, 1) := by decide +kernel
theorem dJ9_floorDiv_f86c9_25 : decode cJ9_floorDiv_f86c9 25 = .ok (.lsub, 1) := by decide +kernel
theorem dJ9_floorDiv_f86c9_26 : decode cJ9_floorDiv_f86c9 26 = .ok (.lreturn, 1) := by decide +kernel
theorem dJ9_floorDiv_f86c9_27 : decode cJ9_floorDiv_f86c9 27 = .ok (.lload 4, 2) := by decide +kernel
theorem dJ9_floorDiv_f86c9_29 : decode cJ9_floorDiv_f86c9 29 = .ok (.lreturn, 1) := by decide +kernel
theorem dJ9_floorMod_7cf53_0 : decode cJ9_floorMod_7cf53 0 = .ok (.iload_n 0, 1) := by decide +kernel
theorem dJ9_floorMod_7cf53_1 : decode cJ9_floorMod_7cf53 1 = .ok (.iload_n 1, 1) := by decide +kernel
theorem dJ9_floorMod_7cf53_2 : decode cJ9_floorMod_7cf53 2 = .ok (.irem, 1) := by decide +kernel
theorem dJ9_floorMod_7cf53_3 : decode cJ9_floorMod_7cf53 3 = .ok (.istore_n 2, 1) := by decide +kernel
theorem dJ9_floorMod_7cf53_4 : decode cJ9_floorMod_7cf53 4 = .ok (.iload_n 0, 1) := by decide +kernel
theorem dJ9_floorMod_7cf53_5 : decode cJ9_floorMod_7cf53 5 = .ok (.iload_n 1, 1) := by decide +kernel
theorem dJ9_floorMod_7cf53_6 : decode cJ9_floorMod_7cf53 6 = .ok (.ixor, 1) := by decide +kernel
theorem dJ9_floorMod_7cf53_7 : decode cJ9_floorMod_7cf53 7 = .ok (.ifCond .ge 11, 3) := by decide +kernel
theorem dJ9_floorMod_7cf53_10 : decode cJ9_floorMod_7cf53 10 = .ok (.iload_n 2, 1) := by decide +kernel
theorem dJ9_floorMod_7cf53_11 : decode cJ9_floorMod_7cf53 11 = .ok (.ifCond .eq 7, 3) := by decide +kernel
theorem dJ9_floorMod_7cf53_14 : decode cJ9_floorMod_7cf53 14 = .ok (.iload_n 2, 1) := by decide +kernel
theorem dJ9_floorMod_7cf53_15 : decode cJ9_floorMod_7cf53 15 = .ok (.iload_n 1, 1) := by decide +kernel
theorem dJ9_floorMod_7cf53_16 : decode cJ9_floorMod_7cf53 16 = .ok (.iadd, 1) := by decide +kernel
theorem dJ9_floorMod_7cf53_17 : decode cJ9_floorMod_7cf53 17 = .ok (.ireturn, 1) := by decide +kernel
theorem dJ9_floorMod_7cf53_18 : decode cJ9_floorMod_7cf53 18 = .ok (.iload_n 2, 1) := by decide +kernel
theorem dJ9_floorMod_7cf53_19 : decode cJ9_floorMod_7cf53 19 = .ok (.ireturn, 1) := by decide +kernel
theorem dJ9_abs_0f7a4_0 : decode cJ9_abs_0f7a4 0 = .ok (.iload_n 0, 1) := by decide +kernel
theorem dJ9_abs_0f7a4_1 : decode cJ9_abs_0f7a4 1 = .ok (.ifCond .ge 8, 3) := by decide +kernel
theorem dJ9_abs_0f7a4_4 : decode cJ9_abs_0f7a4 4 = .ok (.iload_n 0, 1) := by decide +kernel
theorem dJ9_abs_0f7a4_5 : decode cJ9_abs_0f7a4 5 = .ok (.ineg, 1) := by decide +kernel
theorem dJ9_abs_0f7a4_6 : decode cJ9_abs_0f7a4 6 = .ok (.goto 4, 3) := by decide +kernel
theorem dJ9_abs_0f7a4_9 : decode cJ9_abs_0f7a4 9 = .ok (.iload_n 0, 1) := by decide +kernel
theorem dJ9_abs_0f7a4_10 : decode cJ9_abs_0f7a4 10 = .ok (.ireturn, 1) := by decide +kernel
theorem dJ9_min_7cf53_0 : decode cJ9_min_7cf53 0 = .ok (.iload_n 0, 1) := by decide +kernel
theorem dJ9_min_7cf53_1 : decode cJ9_min_7cf53 1 = .ok (.iload_n 1, 1) := by decide +kernel
theorem dJ9_min_7cf53_2 : decode cJ9_min_7cf53 2 = .ok (.if_icmp .gt 7, 3) := by decide +kernel
theorem dJ9_min_7cf53_5 : decode cJ9_min_7cf53 5 = .ok (.iload_n 0, 1) := by decide +kernel
theorem dJ9_min_7cf53_6 : decode cJ9_min_7cf53 6 = .ok (.goto 4, 3) := by decide +kernel
theorem dJ9_min_7cf53_9 : decode cJ9_min_7cf53 9 = .ok (.iload_n 1, 1) := by decide +kernel
theorem dJ9_min_7cf53_10 : decode cJ9_min_7cf53 10 = .ok (.ireturn, 1) := by decide +kernel
theorem dJ7_fill_53178_0 : decode cJ7_fill_53178 0 = .ok (.iconst 0, 1) := by decide +kernel
theorem dJ7_fill_53178_1 : decode cJ7_fill_53178 1 = .ok (.istore_n 2, 1) := by decide +kernel
theorem dJ7_fill_53178_2 : decode cJ7_fill_53178 2 = .ok (.aload_n 0, 1) := by decide +kernel
theorem dJ7_fill_53178_3 : decode cJ7_fill_53178 3 = .ok (.arraylength, 1) := by decide +kernel
theorem dJ7_fill_53178_4 : decode cJ7_fill_53178 4 = .ok (.istore_n 3, 1) := by decide +kernel
theorem dJ7_fill_53178_5 : decode cJ7_fill_53178 5 = .ok (.iload_n 2, 1) := by decide +kernel
theorem dJ7_fill_53178_6 : decode cJ7_fill_53178 6 = .ok (.iload_n 3, 1) := by decide +kernel
theorem dJ7_fill_53178_7 : decode cJ7_fill_53178 7 = .ok (.if_icmp .ge 13, 3) := by decide +kernel
theorem dJ7_fill_53178_10 : decode cJ7_fill_53178 10 = .ok (.aload_n 0, 1) := by decide +kernel
theorem dJ7_fill_53178_11 : decode cJ7_fill_53178 11 = .ok (.iload_n 2, 1) := by decide +kernel
theorem dJ7_fill_53178_12 : decode cJ7_fill_53178 12 = .ok (.iload_n 1, 1) := by decide +kernel
theorem dJ7_fill_53178_13 : decode cJ7_fill_53178 13 = .ok (.iastore, 1) := by decide +kernel
theorem dJ7_fill_53178_14 : decode cJ7_fill_53178 14 = .ok (.iinc 2 1, 3) := by decide +kernel
theorem dJ7_fill_53178_17 : decode cJ7_fill_53178 17 = .ok (.goto (-12), 3) := by decide +kernel
theorem dJ7_fill_53178_20 : decode cJ7_fill_53178 20 = .ok (.return_, 1) := by decide +kernel

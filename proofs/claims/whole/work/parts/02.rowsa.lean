set_option maxRecDepth 20000 in
theorem ggX0_init_X1_init : GoodIn wsX0_init wsX1_init := goodIn_r _ [4, 5, 6, 7, 8, 9, 10, 11, 12, 13, 14, 15, 16, 17, 18, 19, 20, 21, 22, 23, 24, 25, 26, 27, 28, 29, 30, 31] (by decide +kernel) (by decide +kernel)
set_option maxRecDepth 20000 in
theorem gX0_init_X1_init : GoodIn wsX0_init (wsX1_init) := ggX0_init_X1_init
theorem dX0_init_0 : decode cX0_init 0 = .ok (.aload_n 0, 1) := by decide +kernel
theorem dX0_init_1 : decode cX0_init 1 = .ok (.iload_n 1, 1) := by decide +kernel
theorem dX0_init_2 : decode cX0_init 2 = .ok (.iload_n 2, 1) := by decide +kernel
theorem dX0_init_3 : decode cX0_init 3 = .ok (.iload_n 3, 1) := by decide +kernel
theorem dX0_init_4 : decode cX0_init 4 = .ok (.iload 4, 2) := by decide +kernel
theorem dX0_init_6 : decode cX0_init 6 = .ok (.iload 5, 2) := by decide +kernel
theorem dX0_init_8 : decode cX0_init 8 = .ok (.invokespecial 1, 3) := by decide +kernel
theorem dX0_init_11 : decode cX0_init 11 = .ok (.return_, 1) := by decide +kernel
theorem dX0_kindNumber_0 : decode cX0_kindNumber 0 = .ok (.iconst 2, 1) := by decide +kernel
theorem dX0_kindNumber_1 : decode cX0_kindNumber 1 = .ok (.ireturn, 1) := by decide +kernel
set_option maxRecDepth 20000 in
theorem ggX0_holdsBy_X1_holdsBy : GoodIn wsX0_holdsBy wsX1_holdsBy := goodIn_r _ [6, 7, 8, 9, 10, 11, 12, 13, 14, 15, 16, 17, 18, 19, 20, 21, 22, 23, 24, 25, 26, 27, 28, 29, 30, 31, 32] (by decide +kernel) (by decide +kernel)
set_option maxRecDepth 20000 in
theorem gX0_holdsBy_X1_holdsBy_s7 : GoodIn wsX0_holdsBy (va_wsSU RX0 7 yX1_holdsBy wsX1_holdsBy) := goodIn_app (goodIn_of _ (by decide +kernel)) ggX0_holdsBy_X1_holdsBy
theorem dX0_holdsBy_0 : decode cX0_holdsBy 0 = .ok (.aload_n 0, 1) := by decide +kernel
theorem dX0_holdsBy_1 : decode cX0_holdsBy 1 = .ok (.iload_n 1, 1) := by decide +kernel
theorem dX0_holdsBy_2 : decode cX0_holdsBy 2 = .ok (.invokespecial 7, 3) := by decide +kernel
theorem dX0_holdsBy_5 : decode cX0_holdsBy 5 = .ok (.bipush 10, 2) := by decide +kernel
theorem dX0_holdsBy_7 : decode cX0_holdsBy 7 = .ok (.iadd, 1) := by decide +kernel
theorem dX0_holdsBy_8 : decode cX0_holdsBy 8 = .ok (.ireturn, 1) := by decide +kernel
set_option maxRecDepth 20000 in
theorem ggX0_telling_X7_leave : GoodIn wsX0_telling wsX7_leave := goodIn_r _ [5, 6, 33] (by decide +kernel) (by decide +kernel)
set_option maxRecDepth 20000 in
theorem gX0_telling_X7_leave : GoodIn wsX0_telling (wsV RX0 11 RX7 yX7_leave wsX7_leave) := goodIn_app (goodIn_of _ (by decide +kernel)) ggX0_telling_X7_leave
set_option maxRecDepth 20000 in
theorem ggX0_telling_X1_telling : GoodIn wsX0_telling wsX1_telling := goodIn_r _ [12, 13, 2, 3, 4, 5, 6, 14, 15, 16, 17, 18, 19, 20, 21, 22, 23, 24, 25, 26, 27, 28, 29, 33, 34, 35, 36, 37, 38, 39, 40, 41, 42, 43, 44, 45, 46, 47, 48] (by decide +kernel) (by decide +kernel)
set_option maxRecDepth 20000 in
theorem gX0_telling_X1_telling_s17 : GoodIn wsX0_telling (va_wsSU RX0 17 yX1_telling wsX1_telling) := goodIn_app (goodIn_of _ (by decide +kernel)) ggX0_telling_X1_telling
set_option maxRecDepth 20000 in
theorem ggX0_telling_X6_plainTelling : GoodIn wsX0_telling wsX6_plainTelling := goodIn_r _ [24, 25, 26, 2, 3, 4, 5, 6, 34, 35, 36, 37, 38, 39, 40, 41, 42, 43, 44, 45, 46, 47, 48, 33] (by decide +kernel) (by decide +kernel)
set_option maxRecDepth 20000 in
theorem gX0_telling_X6_plainTelling_u21X0 : GoodIn wsX0_telling (va_wsU RX0 21 RX0 "OneNail$Thing" ⟨"OneNail$Coffin", "plainTelling", "(LOneNail$Trace;)I"⟩ yX6_plainTelling wsX6_plainTelling) := goodIn_app (goodIn_of _ (by decide +kernel)) ggX0_telling_X6_plainTelling
theorem dX0_telling_0 : decode cX0_telling 0 = .ok (.aload_n 1, 1) := by decide +kernel
theorem dX0_telling_1 : decode cX0_telling 1 = .ok (.iconst 3, 1) := by decide +kernel
theorem dX0_telling_2 : decode cX0_telling 2 = .ok (.invokevirtual 11, 3) := by decide +kernel
theorem dX0_telling_5 : decode cX0_telling 5 = .ok (.aload_n 0, 1) := by decide +kernel
theorem dX0_telling_6 : decode cX0_telling 6 = .ok (.aload_n 1, 1) := by decide +kernel
theorem dX0_telling_7 : decode cX0_telling 7 = .ok (.invokespecial 17, 3) := by decide +kernel
theorem dX0_telling_10 : decode cX0_telling 10 = .ok (.istore_n 2, 1) := by decide +kernel
theorem dX0_telling_11 : decode cX0_telling 11 = .ok (.iload_n 2, 1) := by decide +kernel
theorem dX0_telling_12 : decode cX0_telling 12 = .ok (.aload_n 0, 1) := by decide +kernel
theorem dX0_telling_13 : decode cX0_telling 13 = .ok (.aload_n 1, 1) := by decide +kernel
theorem dX0_telling_14 : decode cX0_telling 14 = .ok (.invokevirtual 21, 3) := by decide +kernel
theorem dX0_telling_17 : decode cX0_telling 17 = .ok (.iadd, 1) := by decide +kernel
theorem dX0_telling_18 : decode cX0_telling 18 = .ok (.ireturn, 1) := by decide +kernel
set_option maxRecDepth 20000 in
theorem ggX0_struck_X7_leave : GoodIn wsX0_struck wsX7_leave := goodIn_r _ [5, 6, 7] (by decide +kernel) (by decide +kernel)
set_option maxRecDepth 20000 in
theorem gX0_struck_X7_leave : GoodIn wsX0_struck (wsV RX0 11 RX7 yX7_leave wsX7_leave) := goodIn_app (goodIn_of _ (by decide +kernel)) ggX0_struck_X7_leave
theorem dX0_struck_0 : decode cX0_struck 0 = .ok (.aload_n 1, 1) := by decide +kernel
theorem dX0_struck_1 : decode cX0_struck 1 = .ok (.iconst 5, 1) := by decide +kernel
theorem dX0_struck_2 : decode cX0_struck 2 = .ok (.invokevirtual 11, 3) := by decide +kernel
theorem dX0_struck_5 : decode cX0_struck 5 = .ok (.bipush 30, 2) := by decide +kernel
theorem dX0_struck_7 : decode cX0_struck 7 = .ok (.ireturn, 1) := by decide +kernel
set_option maxRecDepth 20000 in
theorem ggX1_init_X6_init : GoodIn wsX1_init wsX6_init := goodIn_r _ [4, 5, 6, 7, 8, 9, 10, 11, 12, 13, 14, 15, 16, 17, 18, 19, 20, 21, 22, 23, 24, 25, 26, 27] (by decide +kernel) (by decide +kernel)
set_option maxRecDepth 20000 in
theorem gX1_init_X6_init : GoodIn wsX1_init (wsX6_init) := ggX1_init_X6_init
theorem dX1_init_0 : decode cX1_init 0 = .ok (.aload_n 0, 1) := by decide +kernel
theorem dX1_init_1 : decode cX1_init 1 = .ok (.iload_n 1, 1) := by decide +kernel
theorem dX1_init_2 : decode cX1_init 2 = .ok (.iload_n 2, 1) := by decide +kernel
theorem dX1_init_3 : decode cX1_init 3 = .ok (.iload_n 3, 1) := by decide +kernel
theorem dX1_init_4 : decode cX1_init 4 = .ok (.iload 4, 2) := by decide +kernel
theorem dX1_init_6 : decode cX1_init 6 = .ok (.iload 5, 2) := by decide +kernel
theorem dX1_init_8 : decode cX1_init 8 = .ok (.invokespecial 1, 3) := by decide +kernel
theorem dX1_init_11 : decode cX1_init 11 = .ok (.return_, 1) := by decide +kernel
theorem dX1_kindNumber_0 : decode cX1_kindNumber 0 = .ok (.iconst 1, 1) := by decide +kernel
theorem dX1_kindNumber_1 : decode cX1_kindNumber 1 = .ok (.ireturn, 1) := by decide +kernel
set_option maxRecDepth 20000 in
theorem ggX1_holdsBy_X6_holdsBy : GoodIn wsX1_holdsBy wsX6_holdsBy := goodIn_r _ [6, 7, 8, 9, 10, 11, 12, 13, 14, 15, 16, 17, 18, 19, 20, 21, 22, 23, 24, 25, 26] (by decide +kernel) (by decide +kernel)
set_option maxRecDepth 20000 in
theorem gX1_holdsBy_X6_holdsBy_s7 : GoodIn wsX1_holdsBy (va_wsSU RX1 7 yX6_holdsBy wsX6_holdsBy) := goodIn_app (goodIn_of _ (by decide +kernel)) ggX1_holdsBy_X6_holdsBy
theorem dX1_holdsBy_0 : decode cX1_holdsBy 0 = .ok (.aload_n 0, 1) := by decide +kernel
theorem dX1_holdsBy_1 : decode cX1_holdsBy 1 = .ok (.iload_n 1, 1) := by decide +kernel
theorem dX1_holdsBy_2 : decode cX1_holdsBy 2 = .ok (.invokespecial 7, 3) := by decide +kernel
theorem dX1_holdsBy_5 : decode cX1_holdsBy 5 = .ok (.istore_n 2, 1) := by decide +kernel
theorem dX1_holdsBy_6 : decode cX1_holdsBy 6 = .ok (.iload_n 2, 1) := by decide +kernel
theorem dX1_holdsBy_7 : decode cX1_holdsBy 7 = .ok (.iload_n 2, 1) := by decide +kernel
theorem dX1_holdsBy_8 : decode cX1_holdsBy 8 = .ok (.iconst 2, 1) := by decide +kernel
theorem dX1_holdsBy_9 : decode cX1_holdsBy 9 = .ok (.idiv, 1) := by decide +kernel
theorem dX1_holdsBy_10 : decode cX1_holdsBy 10 = .ok (.iadd, 1) := by decide +kernel
theorem dX1_holdsBy_11 : decode cX1_holdsBy 11 = .ok (.ireturn, 1) := by decide +kernel
set_option maxRecDepth 20000 in
theorem ggX1_telling_X7_leave : GoodIn wsX1_telling wsX7_leave := goodIn_r _ [5, 6, 23] (by decide +kernel) (by decide +kernel)
set_option maxRecDepth 20000 in
theorem gX1_telling_X7_leave : GoodIn wsX1_telling (wsV RX1 11 RX7 yX7_leave wsX7_leave) := goodIn_app (goodIn_of _ (by decide +kernel)) ggX1_telling_X7_leave
set_option maxRecDepth 20000 in
theorem ggX1_telling_X6_telling : GoodIn wsX1_telling wsX6_telling := goodIn_r _ [12, 13, 14, 15, 16, 11, 17, 18, 19, 2, 3, 4, 5, 6, 20, 21, 22, 24, 25, 26, 27, 28, 29, 30, 31, 32, 33, 34, 35, 36, 37, 38, 23] (by decide +kernel) (by decide +kernel)
set_option maxRecDepth 20000 in
theorem gX1_telling_X6_telling_s17 : GoodIn wsX1_telling (va_wsSU RX1 17 yX6_telling wsX6_telling) := goodIn_app (goodIn_of _ (by decide +kernel)) ggX1_telling_X6_telling
theorem dX1_telling_0 : decode cX1_telling 0 = .ok (.aload_n 1, 1) := by decide +kernel
theorem dX1_telling_1 : decode cX1_telling 1 = .ok (.iconst 2, 1) := by decide +kernel
theorem dX1_telling_2 : decode cX1_telling 2 = .ok (.invokevirtual 11, 3) := by decide +kernel
theorem dX1_telling_5 : decode cX1_telling 5 = .ok (.aload_n 0, 1) := by decide +kernel
theorem dX1_telling_6 : decode cX1_telling 6 = .ok (.aload_n 1, 1) := by decide +kernel
theorem dX1_telling_7 : decode cX1_telling 7 = .ok (.invokespecial 17, 3) := by decide +kernel
theorem dX1_telling_10 : decode cX1_telling 10 = .ok (.bipush 100, 2) := by decide +kernel
theorem dX1_telling_12 : decode cX1_telling 12 = .ok (.iadd, 1) := by decide +kernel
theorem dX1_telling_13 : decode cX1_telling 13 = .ok (.ireturn, 1) := by decide +kernel
theorem dX2_init_0 : decode cX2_init 0 = .ok (.aload_n 0, 1) := by decide +kernel
theorem dX2_init_1 : decode cX2_init 1 = .ok (.invokespecial 3, 3) := by decide +kernel
theorem dX2_init_4 : decode cX2_init 4 = .ok (.aload_n 0, 1) := by decide +kernel
theorem dX2_init_5 : decode cX2_init 5 = .ok (.bipush 6, 2) := by decide +kernel
theorem dX2_init_7 : decode cX2_init 7 = .ok (.newarray .int, 2) := by decide +kernel
theorem dX2_init_9 : decode cX2_init 9 = .ok (.putfield 9, 3) := by decide +kernel
theorem dX2_init_12 : decode cX2_init 12 = .ok (.aload_n 0, 1) := by decide +kernel
theorem dX2_init_13 : decode cX2_init 13 = .ok (.iconst 0, 1) := by decide +kernel
theorem dX2_init_14 : decode cX2_init 14 = .ok (.putfield 15, 3) := by decide +kernel
theorem dX2_init_17 : decode cX2_init 17 = .ok (.aload_n 0, 1) := by decide +kernel
theorem dX2_init_18 : decode cX2_init 18 = .ok (.bipush 6, 2) := by decide +kernel
theorem dX2_init_20 : decode cX2_init 20 = .ok (.newarray .int, 2) := by decide +kernel
theorem dX2_init_22 : decode cX2_init 22 = .ok (.putfield 19, 3) := by decide +kernel
theorem dX2_init_25 : decode cX2_init 25 = .ok (.aload_n 0, 1) := by decide +kernel
theorem dX2_init_26 : decode cX2_init 26 = .ok (.iconst 0, 1) := by decide +kernel
theorem dX2_init_27 : decode cX2_init 27 = .ok (.putfield 22, 3) := by decide +kernel
theorem dX2_init_30 : decode cX2_init 30 = .ok (.aload_n 0, 1) := by decide +kernel
theorem dX2_init_31 : decode cX2_init 31 = .ok (.bipush 6, 2) := by decide +kernel
theorem dX2_init_33 : decode cX2_init 33 = .ok (.newarray .int, 2) := by decide +kernel
theorem dX2_init_35 : decode cX2_init 35 = .ok (.putfield 25, 3) := by decide +kernel
theorem dX2_init_38 : decode cX2_init 38 = .ok (.aload_n 0, 1) := by decide +kernel
theorem dX2_init_39 : decode cX2_init 39 = .ok (.aload_n 1, 1) := by decide +kernel
theorem dX2_init_40 : decode cX2_init 40 = .ok (.putfield 28, 3) := by decide +kernel
theorem dX2_init_43 : decode cX2_init 43 = .ok (.return_, 1) := by decide +kernel
set_option maxRecDepth 20000 in
theorem ggX2_leastHarm_X2_begin : GoodIn wsX2_leastHarm wsX2_begin := goodIn_r _ [6, 7, 8, 9, 10, 11, 47, 48, 49, 50, 51, 52, 53, 54, 55, 56, 57, 58, 59, 60] (by decide +kernel) (by decide +kernel)
set_option maxRecDepth 20000 in
theorem gX2_leastHarm_X2_begin : GoodIn wsX2_leastHarm (wsV RX2 32 RX2 yX2_begin wsX2_begin) := goodIn_app (goodIn_of _ (by decide +kernel)) ggX2_leastHarm_X2_begin
set_option maxRecDepth 20000 in
theorem ggX2_leastHarm_X2_time : GoodIn wsX2_leastHarm wsX2_time := goodIn_r _ [15, 16, 7, 10, 8, 17, 18, 19, 20, 21, 22, 23, 47, 48, 49, 50, 51, 52, 53, 54, 55, 56, 57, 58, 59, 60] (by decide +kernel) (by decide +kernel)
set_option maxRecDepth 20000 in
theorem gX2_leastHarm_X2_time : GoodIn wsX2_leastHarm (wsV RX2 37 RX2 yX2_time wsX2_time) := goodIn_app (goodIn_of _ (by decide +kernel)) ggX2_leastHarm_X2_time
set_option maxRecDepth 20000 in
theorem ggX2_leastHarm_X2_harmBelow : GoodIn wsX2_leastHarm wsX2_harmBelow := goodIn_r _ [27, 7, 10, 8, 28, 29, 30, 31, 5, 32, 33, 22, 23, 16, 47, 48, 49, 50, 51, 52, 53, 54, 55, 56, 57, 58, 59, 60] (by decide +kernel) (by decide +kernel)
set_option maxRecDepth 20000 in
theorem gX2_leastHarm_X2_harmBelow : GoodIn wsX2_leastHarm (wsV RX2 41 RX2 yX2_harmBelow wsX2_harmBelow) := goodIn_app (goodIn_of _ (by decide +kernel)) ggX2_leastHarm_X2_harmBelow
set_option maxRecDepth 20000 in
theorem ggX2_leastHarm_X2_keep : GoodIn wsX2_leastHarm wsX2_keep := goodIn_r _ [37, 7, 38, 10, 47, 48, 49, 50, 51, 52] (by decide +kernel) (by decide +kernel)
set_option maxRecDepth 20000 in
theorem gX2_leastHarm_X2_keep : GoodIn wsX2_leastHarm (wsV RX2 45 RX2 yX2_keep wsX2_keep) := goodIn_app (goodIn_of _ (by decide +kernel)) ggX2_leastHarm_X2_keep
set_option maxRecDepth 20000 in
theorem ggX2_leastHarm_X2_goOn : GoodIn wsX2_leastHarm wsX2_goOn := goodIn_r _ [42, 7, 10, 43, 44, 45, 5, 46, 47, 48, 49, 50, 51, 52] (by decide +kernel) (by decide +kernel)
set_option maxRecDepth 20000 in
theorem gX2_leastHarm_X2_goOn : GoodIn wsX2_leastHarm (wsV RX2 48 RX2 yX2_goOn wsX2_goOn) := goodIn_app (goodIn_of _ (by decide +kernel)) ggX2_leastHarm_X2_goOn
theorem dX2_leastHarm_0 : decode cX2_leastHarm 0 = .ok (.aload_n 0, 1) := by decide +kernel
theorem dX2_leastHarm_1 : decode cX2_leastHarm 1 = .ok (.iload_n 1, 1) := by decide +kernel
theorem dX2_leastHarm_2 : decode cX2_leastHarm 2 = .ok (.invokevirtual 32, 3) := by decide +kernel
theorem dX2_leastHarm_5 : decode cX2_leastHarm 5 = .ok (.istore 4, 2) := by decide +kernel
theorem dX2_leastHarm_7 : decode cX2_leastHarm 7 = .ok (.ldc 36, 2) := by decide +kernel
theorem dX2_leastHarm_9 : decode cX2_leastHarm 9 = .ok (.istore 5, 2) := by decide +kernel
theorem dX2_leastHarm_11 : decode cX2_leastHarm 11 = .ok (.iconst 0, 1) := by decide +kernel
theorem dX2_leastHarm_12 : decode cX2_leastHarm 12 = .ok (.istore 6, 2) := by decide +kernel
theorem dX2_leastHarm_14 : decode cX2_leastHarm 14 = .ok (.iload 6, 2) := by decide +kernel
theorem dX2_leastHarm_16 : decode cX2_leastHarm 16 = .ok (.iload 4, 2) := by decide +kernel
theorem dX2_leastHarm_18 : decode cX2_leastHarm 18 = .ok (.if_icmp .ge 47, 3) := by decide +kernel
theorem dX2_leastHarm_21 : decode cX2_leastHarm 21 = .ok (.iload 5, 2) := by decide +kernel
theorem dX2_leastHarm_23 : decode cX2_leastHarm 23 = .ok (.ifCond .le 42, 3) := by decide +kernel
theorem dX2_leastHarm_26 : decode cX2_leastHarm 26 = .ok (.aload_n 0, 1) := by decide +kernel
theorem dX2_leastHarm_27 : decode cX2_leastHarm 27 = .ok (.iload_n 2, 1) := by decide +kernel
theorem dX2_leastHarm_28 : decode cX2_leastHarm 28 = .ok (.invokevirtual 37, 3) := by decide +kernel
theorem dX2_leastHarm_31 : decode cX2_leastHarm 31 = .ok (.aload_n 0, 1) := by decide +kernel
theorem dX2_leastHarm_32 : decode cX2_leastHarm 32 = .ok (.iload_n 3, 1) := by decide +kernel
theorem dX2_leastHarm_33 : decode cX2_leastHarm 33 = .ok (.iload 5, 2) := by decide +kernel
theorem dX2_leastHarm_35 : decode cX2_leastHarm 35 = .ok (.invokevirtual 41, 3) := by decide +kernel
theorem dX2_leastHarm_38 : decode cX2_leastHarm 38 = .ok (.istore 7, 2) := by decide +kernel
theorem dX2_leastHarm_40 : decode cX2_leastHarm 40 = .ok (.iload 7, 2) := by decide +kernel
theorem dX2_leastHarm_42 : decode cX2_leastHarm 42 = .ok (.iload 5, 2) := by decide +kernel
theorem dX2_leastHarm_44 : decode cX2_leastHarm 44 = .ok (.if_icmp .ge 11, 3) := by decide +kernel
theorem dX2_leastHarm_47 : decode cX2_leastHarm 47 = .ok (.iload 7, 2) := by decide +kernel
theorem dX2_leastHarm_49 : decode cX2_leastHarm 49 = .ok (.istore 5, 2) := by decide +kernel
theorem dX2_leastHarm_51 : decode cX2_leastHarm 51 = .ok (.aload_n 0, 1) := by decide +kernel
theorem dX2_leastHarm_52 : decode cX2_leastHarm 52 = .ok (.invokevirtual 45, 3) := by decide +kernel
theorem dX2_leastHarm_55 : decode cX2_leastHarm 55 = .ok (.aload_n 0, 1) := by decide +kernel
theorem dX2_leastHarm_56 : decode cX2_leastHarm 56 = .ok (.invokevirtual 48, 3) := by decide +kernel
theorem dX2_leastHarm_59 : decode cX2_leastHarm 59 = .ok (.iinc 6 1, 3) := by decide +kernel
theorem dX2_leastHarm_62 : decode cX2_leastHarm 62 = .ok (.goto (-48), 3) := by decide +kernel
theorem dX2_leastHarm_65 : decode cX2_leastHarm 65 = .ok (.iload 5, 2) := by decide +kernel
theorem dX2_leastHarm_67 : decode cX2_leastHarm 67 = .ok (.ireturn, 1) := by decide +kernel
set_option maxRecDepth 20000 in
theorem ggX2_countSafe_X2_begin : GoodIn wsX2_countSafe wsX2_begin := goodIn_r _ [7, 8, 1, 9, 10, 11, 37, 38, 39, 40, 41, 42, 43, 44, 45, 46, 47, 48, 49, 50] (by decide +kernel) (by decide +kernel)
set_option maxRecDepth 20000 in
theorem gX2_countSafe_X2_begin : GoodIn wsX2_countSafe (wsV RX2 32 RX2 yX2_begin wsX2_begin) := goodIn_app (goodIn_of _ (by decide +kernel)) ggX2_countSafe_X2_begin
set_option maxRecDepth 20000 in
theorem ggX2_countSafe_X2_time : GoodIn wsX2_countSafe wsX2_time := goodIn_r _ [15, 16, 8, 10, 1, 17, 18, 19, 20, 21, 22, 23, 37, 38, 39, 40, 41, 42, 43, 44, 45, 46, 47, 48, 49, 50] (by decide +kernel) (by decide +kernel)
set_option maxRecDepth 20000 in
theorem gX2_countSafe_X2_time : GoodIn wsX2_countSafe (wsV RX2 37 RX2 yX2_time wsX2_time) := goodIn_app (goodIn_of _ (by decide +kernel)) ggX2_countSafe_X2_time
set_option maxRecDepth 20000 in
theorem ggX2_countSafe_X2_nothingEverFalls : GoodIn wsX2_countSafe wsX2_nothingEverFalls := goodIn_r _ [27, 8, 10, 1, 28, 22, 23, 16, 37, 38, 39, 40, 41, 42, 43, 44, 45, 46, 47, 48, 49, 50] (by decide +kernel) (by decide +kernel)
set_option maxRecDepth 20000 in
theorem gX2_countSafe_X2_nothingEverFalls : GoodIn wsX2_countSafe (wsV RX2 56 RX2 yX2_nothingEverFalls wsX2_nothingEverFalls) := goodIn_app (goodIn_of _ (by decide +kernel)) ggX2_countSafe_X2_nothingEverFalls
set_option maxRecDepth 20000 in
theorem ggX2_countSafe_X2_goOn : GoodIn wsX2_countSafe wsX2_goOn := goodIn_r _ [32, 8, 10, 33, 34, 35, 6, 36, 37, 38, 39, 40, 41, 42] (by decide +kernel) (by decide +kernel)
set_option maxRecDepth 20000 in
theorem gX2_countSafe_X2_goOn : GoodIn wsX2_countSafe (wsV RX2 48 RX2 yX2_goOn wsX2_goOn) := goodIn_app (goodIn_of _ (by decide +kernel)) ggX2_countSafe_X2_goOn
theorem dX2_countSafe_0 : decode cX2_countSafe 0 = .ok (.aload_n 0, 1) := by decide +kernel
theorem dX2_countSafe_1 : decode cX2_countSafe 1 = .ok (.iload_n 1, 1) := by decide +kernel
theorem dX2_countSafe_2 : decode cX2_countSafe 2 = .ok (.invokevirtual 32, 3) := by decide +kernel
theorem dX2_countSafe_5 : decode cX2_countSafe 5 = .ok (.istore_n 3, 1) := by decide +kernel
theorem dX2_countSafe_6 : decode cX2_countSafe 6 = .ok (.iconst 0, 1) := by decide +kernel
theorem dX2_countSafe_7 : decode cX2_countSafe 7 = .ok (.istore 4, 2) := by decide +kernel
theorem dX2_countSafe_9 : decode cX2_countSafe 9 = .ok (.iconst 0, 1) := by decide +kernel
theorem dX2_countSafe_10 : decode cX2_countSafe 10 = .ok (.istore 5, 2) := by decide +kernel
theorem dX2_countSafe_12 : decode cX2_countSafe 12 = .ok (.iload 5, 2) := by decide +kernel
theorem dX2_countSafe_14 : decode cX2_countSafe 14 = .ok (.iload_n 3, 1) := by decide +kernel
theorem dX2_countSafe_15 : decode cX2_countSafe 15 = .ok (.if_icmp .ge 40, 3) := by decide +kernel
theorem dX2_countSafe_18 : decode cX2_countSafe 18 = .ok (.iload 4, 2) := by decide +kernel
theorem dX2_countSafe_20 : decode cX2_countSafe 20 = .ok (.iload_n 2, 1) := by decide +kernel
theorem dX2_countSafe_21 : decode cX2_countSafe 21 = .ok (.if_icmp .ge 34, 3) := by decide +kernel
theorem dX2_countSafe_24 : decode cX2_countSafe 24 = .ok (.aload_n 0, 1) := by decide +kernel
theorem dX2_countSafe_25 : decode cX2_countSafe 25 = .ok (.aload_n 0, 1) := by decide +kernel
theorem dX2_countSafe_26 : decode cX2_countSafe 26 = .ok (.getfield 28, 3) := by decide +kernel
theorem dX2_countSafe_29 : decode cX2_countSafe 29 = .ok (.getfield 51, 3) := by decide +kernel
theorem dX2_countSafe_32 : decode cX2_countSafe 32 = .ok (.invokevirtual 37, 3) := by decide +kernel
theorem dX2_countSafe_35 : decode cX2_countSafe 35 = .ok (.aload_n 0, 1) := by decide +kernel
theorem dX2_countSafe_36 : decode cX2_countSafe 36 = .ok (.invokevirtual 56, 3) := by decide +kernel
theorem dX2_countSafe_39 : decode cX2_countSafe 39 = .ok (.ifCond .eq 6, 3) := by decide +kernel
theorem dX2_countSafe_42 : decode cX2_countSafe 42 = .ok (.iinc 4 1, 3) := by decide +kernel
theorem dX2_countSafe_45 : decode cX2_countSafe 45 = .ok (.aload_n 0, 1) := by decide +kernel
theorem dX2_countSafe_46 : decode cX2_countSafe 46 = .ok (.invokevirtual 48, 3) := by decide +kernel
theorem dX2_countSafe_49 : decode cX2_countSafe 49 = .ok (.iinc 5 1, 3) := by decide +kernel
theorem dX2_countSafe_52 : decode cX2_countSafe 52 = .ok (.goto (-40), 3) := by decide +kernel
theorem dX2_countSafe_55 : decode cX2_countSafe 55 = .ok (.iload 4, 2) := by decide +kernel
theorem dX2_countSafe_57 : decode cX2_countSafe 57 = .ok (.ireturn, 1) := by decide +kernel
set_option maxRecDepth 20000 in
theorem ggX2_countFitting_X2_begin : GoodIn wsX2_countFitting wsX2_begin := goodIn_r _ [7, 8, 1, 9, 10, 11, 50, 51, 52, 53, 54, 55, 56, 57, 58, 59, 60, 61, 62, 63] (by decide +kernel) (by decide +kernel)
set_option maxRecDepth 20000 in
theorem gX2_countFitting_X2_begin : GoodIn wsX2_countFitting (wsV RX2 32 RX2 yX2_begin wsX2_begin) := goodIn_app (goodIn_of _ (by decide +kernel)) ggX2_countFitting_X2_begin
set_option maxRecDepth 20000 in
theorem ggX2_countFitting_X2_time : GoodIn wsX2_countFitting wsX2_time := goodIn_r _ [15, 16, 8, 10, 1, 17, 18, 19, 20, 21, 22, 23, 50, 51, 52, 53, 54, 55, 56, 57, 58, 59, 60, 61, 62, 63] (by decide +kernel) (by decide +kernel)
set_option maxRecDepth 20000 in
theorem gX2_countFitting_X2_time : GoodIn wsX2_countFitting (wsV RX2 37 RX2 yX2_time wsX2_time) := goodIn_app (goodIn_of _ (by decide +kernel)) ggX2_countFitting_X2_time
set_option maxRecDepth 20000 in
theorem ggX2_countFitting_X2_allAreSo : GoodIn wsX2_countFitting wsX2_allAreSo := goodIn_r _ [27, 28, 29, 30, 31, 32, 33, 34, 6, 35, 22, 1, 36, 16, 23, 64, 65, 66, 67, 50, 51, 52, 53, 54, 55, 56, 57, 58, 59, 60, 61, 62, 63] (by decide +kernel) (by decide +kernel)
set_option maxRecDepth 20000 in
theorem gX2_countFitting_X2_allAreSo : GoodIn wsX2_countFitting (wsV RX2 60 RX2 yX2_allAreSo wsX2_allAreSo) := goodIn_app (goodIn_of _ (by decide +kernel)) ggX2_countFitting_X2_allAreSo
set_option maxRecDepth 20000 in
theorem ggX2_countFitting_X2_keep : GoodIn wsX2_countFitting wsX2_keep := goodIn_r _ [40, 8, 41, 10, 50, 51, 52, 53, 54, 55] (by decide +kernel) (by decide +kernel)
set_option maxRecDepth 20000 in
theorem gX2_countFitting_X2_keep : GoodIn wsX2_countFitting (wsV RX2 45 RX2 yX2_keep wsX2_keep) := goodIn_app (goodIn_of _ (by decide +kernel)) ggX2_countFitting_X2_keep
set_option maxRecDepth 20000 in
theorem ggX2_countFitting_X2_goOn : GoodIn wsX2_countFitting wsX2_goOn := goodIn_r _ [45, 8, 10, 46, 47, 48, 6, 49, 50, 51, 52, 53, 54, 55] (by decide +kernel) (by decide +kernel)
set_option maxRecDepth 20000 in
theorem gX2_countFitting_X2_goOn : GoodIn wsX2_countFitting (wsV RX2 48 RX2 yX2_goOn wsX2_goOn) := goodIn_app (goodIn_of _ (by decide +kernel)) ggX2_countFitting_X2_goOn
theorem dX2_countFitting_0 : decode cX2_countFitting 0 = .ok (.aload_n 0, 1) := by decide +kernel
theorem dX2_countFitting_1 : decode cX2_countFitting 1 = .ok (.iload_n 1, 1) := by decide +kernel
theorem dX2_countFitting_2 : decode cX2_countFitting 2 = .ok (.invokevirtual 32, 3) := by decide +kernel
theorem dX2_countFitting_5 : decode cX2_countFitting 5 = .ok (.istore_n 3, 1) := by decide +kernel
theorem dX2_countFitting_6 : decode cX2_countFitting 6 = .ok (.iconst 0, 1) := by decide +kernel
theorem dX2_countFitting_7 : decode cX2_countFitting 7 = .ok (.istore 4, 2) := by decide +kernel
theorem dX2_countFitting_9 : decode cX2_countFitting 9 = .ok (.iconst 0, 1) := by decide +kernel
theorem dX2_countFitting_10 : decode cX2_countFitting 10 = .ok (.istore 5, 2) := by decide +kernel
theorem dX2_countFitting_12 : decode cX2_countFitting 12 = .ok (.iload 5, 2) := by decide +kernel
theorem dX2_countFitting_14 : decode cX2_countFitting 14 = .ok (.iload_n 3, 1) := by decide +kernel
theorem dX2_countFitting_15 : decode cX2_countFitting 15 = .ok (.if_icmp .ge 45, 3) := by decide +kernel
theorem dX2_countFitting_18 : decode cX2_countFitting 18 = .ok (.aload_n 0, 1) := by decide +kernel
theorem dX2_countFitting_19 : decode cX2_countFitting 19 = .ok (.aload_n 0, 1) := by decide +kernel
theorem dX2_countFitting_20 : decode cX2_countFitting 20 = .ok (.getfield 28, 3) := by decide +kernel
theorem dX2_countFitting_23 : decode cX2_countFitting 23 = .ok (.getfield 51, 3) := by decide +kernel
theorem dX2_countFitting_26 : decode cX2_countFitting 26 = .ok (.invokevirtual 37, 3) := by decide +kernel
theorem dX2_countFitting_29 : decode cX2_countFitting 29 = .ok (.aload_n 0, 1) := by decide +kernel
theorem dX2_countFitting_30 : decode cX2_countFitting 30 = .ok (.aload_n 2, 1) := by decide +kernel
theorem dX2_countFitting_31 : decode cX2_countFitting 31 = .ok (.invokevirtual 60, 3) := by decide +kernel
theorem dX2_countFitting_34 : decode cX2_countFitting 34 = .ok (.ifCond .eq 16, 3) := by decide +kernel
theorem dX2_countFitting_37 : decode cX2_countFitting 37 = .ok (.iinc 4 1, 3) := by decide +kernel
theorem dX2_countFitting_40 : decode cX2_countFitting 40 = .ok (.iload 4, 2) := by decide +kernel
theorem dX2_countFitting_42 : decode cX2_countFitting 42 = .ok (.iconst 1, 1) := by decide +kernel
theorem dX2_countFitting_43 : decode cX2_countFitting 43 = .ok (.if_icmp .ne 7, 3) := by decide +kernel
theorem dX2_countFitting_46 : decode cX2_countFitting 46 = .ok (.aload_n 0, 1) := by decide +kernel
theorem dX2_countFitting_47 : decode cX2_countFitting 47 = .ok (.invokevirtual 45, 3) := by decide +kernel
theorem dX2_countFitting_50 : decode cX2_countFitting 50 = .ok (.aload_n 0, 1) := by decide +kernel
theorem dX2_countFitting_51 : decode cX2_countFitting 51 = .ok (.invokevirtual 48, 3) := by decide +kernel
theorem dX2_countFitting_54 : decode cX2_countFitting 54 = .ok (.iinc 5 1, 3) := by decide +kernel
theorem dX2_countFitting_57 : decode cX2_countFitting 57 = .ok (.goto (-45), 3) := by decide +kernel
theorem dX2_countFitting_60 : decode cX2_countFitting 60 = .ok (.iload 4, 2) := by decide +kernel
theorem dX2_countFitting_62 : decode cX2_countFitting 62 = .ok (.ireturn, 1) := by decide +kernel
theorem dX2_keptAt_0 : decode cX2_keptAt 0 = .ok (.iload_n 1, 1) := by decide +kernel
theorem dX2_keptAt_1 : decode cX2_keptAt 1 = .ok (.ifCond .lt 20, 3) := by decide +kernel
theorem dX2_keptAt_4 : decode cX2_keptAt 4 = .ok (.iload_n 1, 1) := by decide +kernel
theorem dX2_keptAt_5 : decode cX2_keptAt 5 = .ok (.aload_n 0, 1) := by decide +kernel
theorem dX2_keptAt_6 : decode cX2_keptAt 6 = .ok (.getfield 15, 3) := by decide +kernel
theorem dX2_keptAt_9 : decode cX2_keptAt 9 = .ok (.if_icmp .ge 12, 3) := by decide +kernel
theorem dX2_keptAt_12 : decode cX2_keptAt 12 = .ok (.aload_n 0, 1) := by decide +kernel
theorem dX2_keptAt_13 : decode cX2_keptAt 13 = .ok (.getfield 25, 3) := by decide +kernel
theorem dX2_keptAt_16 : decode cX2_keptAt 16 = .ok (.iload_n 1, 1) := by decide +kernel
theorem dX2_keptAt_17 : decode cX2_keptAt 17 = .ok (.iaload, 1) := by decide +kernel
theorem dX2_keptAt_18 : decode cX2_keptAt 18 = .ok (.goto 5, 3) := by decide +kernel
theorem dX2_keptAt_21 : decode cX2_keptAt 21 = .ok (.bipush (-9), 2) := by decide +kernel
theorem dX2_keptAt_23 : decode cX2_keptAt 23 = .ok (.ireturn, 1) := by decide +kernel
theorem dX2_keep_0 : decode cX2_keep 0 = .ok (.iconst 0, 1) := by decide +kernel
theorem dX2_keep_1 : decode cX2_keep 1 = .ok (.istore_n 1, 1) := by decide +kernel
theorem dX2_keep_2 : decode cX2_keep 2 = .ok (.iload_n 1, 1) := by decide +kernel
theorem dX2_keep_3 : decode cX2_keep 3 = .ok (.aload_n 0, 1) := by decide +kernel
theorem dX2_keep_4 : decode cX2_keep 4 = .ok (.getfield 15, 3) := by decide +kernel
theorem dX2_keep_7 : decode cX2_keep 7 = .ok (.if_icmp .ge 21, 3) := by decide +kernel
theorem dX2_keep_10 : decode cX2_keep 10 = .ok (.aload_n 0, 1) := by decide +kernel
theorem dX2_keep_11 : decode cX2_keep 11 = .ok (.getfield 25, 3) := by decide +kernel
theorem dX2_keep_14 : decode cX2_keep 14 = .ok (.iload_n 1, 1) := by decide +kernel
theorem dX2_keep_15 : decode cX2_keep 15 = .ok (.aload_n 0, 1) := by decide +kernel
theorem dX2_keep_16 : decode cX2_keep 16 = .ok (.getfield 9, 3) := by decide +kernel
theorem dX2_keep_19 : decode cX2_keep 19 = .ok (.iload_n 1, 1) := by decide +kernel
theorem dX2_keep_20 : decode cX2_keep 20 = .ok (.iaload, 1) := by decide +kernel
theorem dX2_keep_21 : decode cX2_keep 21 = .ok (.iastore, 1) := by decide +kernel
theorem dX2_keep_22 : decode cX2_keep 22 = .ok (.iinc 1 1, 3) := by decide +kernel
theorem dX2_keep_25 : decode cX2_keep 25 = .ok (.goto (-23), 3) := by decide +kernel
theorem dX2_keep_28 : decode cX2_keep 28 = .ok (.return_, 1) := by decide +kernel
theorem dX2_begin_0 : decode cX2_begin 0 = .ok (.aload_n 0, 1) := by decide +kernel
theorem dX2_begin_1 : decode cX2_begin 1 = .ok (.iconst 0, 1) := by decide +kernel
theorem dX2_begin_2 : decode cX2_begin 2 = .ok (.putfield 15, 3) := by decide +kernel
theorem dX2_begin_5 : decode cX2_begin 5 = .ok (.iconst 0, 1) := by decide +kernel
theorem dX2_begin_6 : decode cX2_begin 6 = .ok (.istore_n 2, 1) := by decide +kernel
theorem dX2_begin_7 : decode cX2_begin 7 = .ok (.iload_n 2, 1) := by decide +kernel
theorem dX2_begin_8 : decode cX2_begin 8 = .ok (.aload_n 0, 1) := by decide +kernel
theorem dX2_begin_9 : decode cX2_begin 9 = .ok (.getfield 28, 3) := by decide +kernel
theorem dX2_begin_12 : decode cX2_begin 12 = .ok (.getfield 64, 3) := by decide +kernel
theorem dX2_begin_15 : decode cX2_begin 15 = .ok (.if_icmp .ge 38, 3) := by decide +kernel
theorem dX2_begin_18 : decode cX2_begin 18 = .ok (.iload_n 1, 1) := by decide +kernel
theorem dX2_begin_19 : decode cX2_begin 19 = .ok (.iload_n 2, 1) := by decide +kernel
theorem dX2_begin_20 : decode cX2_begin 20 = .ok (.ishr, 1) := by decide +kernel
theorem dX2_begin_21 : decode cX2_begin 21 = .ok (.iconst 1, 1) := by decide +kernel
theorem dX2_begin_22 : decode cX2_begin 22 = .ok (.iand, 1) := by decide +kernel
theorem dX2_begin_23 : decode cX2_begin 23 = .ok (.iconst 1, 1) := by decide +kernel
theorem dX2_begin_24 : decode cX2_begin 24 = .ok (.if_icmp .ne 23, 3) := by decide +kernel
theorem dX2_begin_27 : decode cX2_begin 27 = .ok (.aload_n 0, 1) := by decide +kernel
theorem dX2_begin_28 : decode cX2_begin 28 = .ok (.getfield 9, 3) := by decide +kernel
theorem dX2_begin_31 : decode cX2_begin 31 = .ok (.aload_n 0, 1) := by decide +kernel
theorem dX2_begin_32 : decode cX2_begin 32 = .ok (.getfield 15, 3) := by decide +kernel
theorem dX2_begin_35 : decode cX2_begin 35 = .ok (.iload_n 2, 1) := by decide +kernel
theorem dX2_begin_36 : decode cX2_begin 36 = .ok (.iastore, 1) := by decide +kernel
theorem dX2_begin_37 : decode cX2_begin 37 = .ok (.aload_n 0, 1) := by decide +kernel
theorem dX2_begin_38 : decode cX2_begin 38 = .ok (.dup, 1) := by decide +kernel
theorem dX2_begin_39 : decode cX2_begin 39 = .ok (.getfield 15, 3) := by decide +kernel
theorem dX2_begin_42 : decode cX2_begin 42 = .ok (.iconst 1, 1) := by decide +kernel
theorem dX2_begin_43 : decode cX2_begin 43 = .ok (.iadd, 1) := by decide +kernel
theorem dX2_begin_44 : decode cX2_begin 44 = .ok (.putfield 15, 3) := by decide +kernel
theorem dX2_begin_47 : decode cX2_begin 47 = .ok (.iinc 2 1, 3) := by decide +kernel
theorem dX2_begin_50 : decode cX2_begin 50 = .ok (.goto (-43), 3) := by decide +kernel
theorem dX2_begin_53 : decode cX2_begin 53 = .ok (.getstatic 67, 3) := by decide +kernel
theorem dX2_begin_56 : decode cX2_begin 56 = .ok (.aload_n 0, 1) := by decide +kernel
theorem dX2_begin_57 : decode cX2_begin 57 = .ok (.getfield 15, 3) := by decide +kernel
theorem dX2_begin_60 : decode cX2_begin 60 = .ok (.iaload, 1) := by decide +kernel
theorem dX2_begin_61 : decode cX2_begin 61 = .ok (.ireturn, 1) := by decide +kernel
set_option maxRecDepth 20000 in
theorem ggX2_goOn_X2_swap : GoodIn wsX2_goOn wsX2_swap := goodIn_r _ [7, 2, 8, 9, 10, 11, 12, 13] (by decide +kernel) (by decide +kernel)
set_option maxRecDepth 20000 in
theorem gX2_goOn_X2_swap : GoodIn wsX2_goOn (wsV RX2 70 RX2 yX2_swap wsX2_swap) := goodIn_app (goodIn_of _ (by decide +kernel)) ggX2_goOn_X2_swap
theorem dX2_goOn_0 : decode cX2_goOn 0 = .ok (.aload_n 0, 1) := by decide +kernel
theorem dX2_goOn_1 : decode cX2_goOn 1 = .ok (.getfield 15, 3) := by decide +kernel
theorem dX2_goOn_4 : decode cX2_goOn 4 = .ok (.iconst 2, 1) := by decide +kernel
theorem dX2_goOn_5 : decode cX2_goOn 5 = .ok (.isub, 1) := by decide +kernel
theorem dX2_goOn_6 : decode cX2_goOn 6 = .ok (.istore_n 1, 1) := by decide +kernel
theorem dX2_goOn_7 : decode cX2_goOn 7 = .ok (.iload_n 1, 1) := by decide +kernel
theorem dX2_goOn_8 : decode cX2_goOn 8 = .ok (.ifCond .lt 26, 3) := by decide +kernel
theorem dX2_goOn_11 : decode cX2_goOn 11 = .ok (.aload_n 0, 1) := by decide +kernel
theorem dX2_goOn_12 : decode cX2_goOn 12 = .ok (.getfield 9, 3) := by decide +kernel
theorem dX2_goOn_15 : decode cX2_goOn 15 = .ok (.iload_n 1, 1) := by decide +kernel
theorem dX2_goOn_16 : decode cX2_goOn 16 = .ok (.iaload, 1) := by decide +kernel
theorem dX2_goOn_17 : decode cX2_goOn 17 = .ok (.aload_n 0, 1) := by decide +kernel
theorem dX2_goOn_18 : decode cX2_goOn 18 = .ok (.getfield 9, 3) := by decide +kernel
theorem dX2_goOn_21 : decode cX2_goOn 21 = .ok (.iload_n 1, 1) := by decide +kernel
theorem dX2_goOn_22 : decode cX2_goOn 22 = .ok (.iconst 1, 1) := by decide +kernel
theorem dX2_goOn_23 : decode cX2_goOn 23 = .ok (.iadd, 1) := by decide +kernel
theorem dX2_goOn_24 : decode cX2_goOn 24 = .ok (.iaload, 1) := by decide +kernel
theorem dX2_goOn_25 : decode cX2_goOn 25 = .ok (.if_icmp .le 9, 3) := by decide +kernel
theorem dX2_goOn_28 : decode cX2_goOn 28 = .ok (.iinc 1 (-1), 3) := by decide +kernel
theorem dX2_goOn_31 : decode cX2_goOn 31 = .ok (.goto (-24), 3) := by decide +kernel
theorem dX2_goOn_34 : decode cX2_goOn 34 = .ok (.iload_n 1, 1) := by decide +kernel
theorem dX2_goOn_35 : decode cX2_goOn 35 = .ok (.ifCond .ge 4, 3) := by decide +kernel
theorem dX2_goOn_38 : decode cX2_goOn 38 = .ok (.return_, 1) := by decide +kernel
theorem dX2_goOn_39 : decode cX2_goOn 39 = .ok (.aload_n 0, 1) := by decide +kernel
theorem dX2_goOn_40 : decode cX2_goOn 40 = .ok (.getfield 15, 3) := by decide +kernel
theorem dX2_goOn_43 : decode cX2_goOn 43 = .ok (.iconst 1, 1) := by decide +kernel
theorem dX2_goOn_44 : decode cX2_goOn 44 = .ok (.isub, 1) := by decide +kernel
theorem dX2_goOn_45 : decode cX2_goOn 45 = .ok (.istore_n 2, 1) := by decide +kernel
theorem dX2_goOn_46 : decode cX2_goOn 46 = .ok (.iload_n 2, 1) := by decide +kernel
theorem dX2_goOn_47 : decode cX2_goOn 47 = .ok (.iload_n 1, 1) := by decide +kernel
theorem dX2_goOn_48 : decode cX2_goOn 48 = .ok (.if_icmp .le 24, 3) := by decide +kernel
theorem dX2_goOn_51 : decode cX2_goOn 51 = .ok (.aload_n 0, 1) := by decide +kernel
theorem dX2_goOn_52 : decode cX2_goOn 52 = .ok (.getfield 9, 3) := by decide +kernel
theorem dX2_goOn_55 : decode cX2_goOn 55 = .ok (.iload_n 2, 1) := by decide +kernel
theorem dX2_goOn_56 : decode cX2_goOn 56 = .ok (.iaload, 1) := by decide +kernel
theorem dX2_goOn_57 : decode cX2_goOn 57 = .ok (.aload_n 0, 1) := by decide +kernel
theorem dX2_goOn_58 : decode cX2_goOn 58 = .ok (.getfield 9, 3) := by decide +kernel
theorem dX2_goOn_61 : decode cX2_goOn 61 = .ok (.iload_n 1, 1) := by decide +kernel
theorem dX2_goOn_62 : decode cX2_goOn 62 = .ok (.iaload, 1) := by decide +kernel
theorem dX2_goOn_63 : decode cX2_goOn 63 = .ok (.if_icmp .ge 9, 3) := by decide +kernel
theorem dX2_goOn_66 : decode cX2_goOn 66 = .ok (.iinc 2 (-1), 3) := by decide +kernel
theorem dX2_goOn_69 : decode cX2_goOn 69 = .ok (.goto (-23), 3) := by decide +kernel
theorem dX2_goOn_72 : decode cX2_goOn 72 = .ok (.aload_n 0, 1) := by decide +kernel
theorem dX2_goOn_73 : decode cX2_goOn 73 = .ok (.iload_n 1, 1) := by decide +kernel
theorem dX2_goOn_74 : decode cX2_goOn 74 = .ok (.iload_n 2, 1) := by decide +kernel
theorem dX2_goOn_75 : decode cX2_goOn 75 = .ok (.invokevirtual 70, 3) := by decide +kernel
theorem dX2_goOn_78 : decode cX2_goOn 78 = .ok (.iload_n 1, 1) := by decide +kernel
theorem dX2_goOn_79 : decode cX2_goOn 79 = .ok (.iconst 1, 1) := by decide +kernel
theorem dX2_goOn_80 : decode cX2_goOn 80 = .ok (.iadd, 1) := by decide +kernel
theorem dX2_goOn_81 : decode cX2_goOn 81 = .ok (.istore_n 3, 1) := by decide +kernel
theorem dX2_goOn_82 : decode cX2_goOn 82 = .ok (.aload_n 0, 1) := by decide +kernel
theorem dX2_goOn_83 : decode cX2_goOn 83 = .ok (.getfield 15, 3) := by decide +kernel
theorem dX2_goOn_86 : decode cX2_goOn 86 = .ok (.iconst 1, 1) := by decide +kernel
theorem dX2_goOn_87 : decode cX2_goOn 87 = .ok (.isub, 1) := by decide +kernel
theorem dX2_goOn_88 : decode cX2_goOn 88 = .ok (.istore 4, 2) := by decide +kernel
theorem dX2_goOn_90 : decode cX2_goOn 90 = .ok (.iload_n 3, 1) := by decide +kernel
theorem dX2_goOn_91 : decode cX2_goOn 91 = .ok (.iload 4, 2) := by decide +kernel
theorem dX2_goOn_93 : decode cX2_goOn 93 = .ok (.if_icmp .ge 19, 3) := by decide +kernel
theorem dX2_goOn_96 : decode cX2_goOn 96 = .ok (.aload_n 0, 1) := by decide +kernel
theorem dX2_goOn_97 : decode cX2_goOn 97 = .ok (.iload_n 3, 1) := by decide +kernel
theorem dX2_goOn_98 : decode cX2_goOn 98 = .ok (.iload 4, 2) := by decide +kernel
theorem dX2_goOn_100 : decode cX2_goOn 100 = .ok (.invokevirtual 70, 3) := by decide +kernel
theorem dX2_goOn_103 : decode cX2_goOn 103 = .ok (.iinc 3 1, 3) := by decide +kernel
theorem dX2_goOn_106 : decode cX2_goOn 106 = .ok (.iinc 4 (-1), 3) := by decide +kernel
theorem dX2_goOn_109 : decode cX2_goOn 109 = .ok (.goto (-19), 3) := by decide +kernel
theorem dX2_goOn_112 : decode cX2_goOn 112 = .ok (.return_, 1) := by decide +kernel
theorem dX2_swap_0 : decode cX2_swap 0 = .ok (.aload_n 0, 1) := by decide +kernel
theorem dX2_swap_1 : decode cX2_swap 1 = .ok (.getfield 9, 3) := by decide +kernel
theorem dX2_swap_4 : decode cX2_swap 4 = .ok (.iload_n 1, 1) := by decide +kernel
theorem dX2_swap_5 : decode cX2_swap 5 = .ok (.iaload, 1) := by decide +kernel
theorem dX2_swap_6 : decode cX2_swap 6 = .ok (.istore_n 3, 1) := by decide +kernel
theorem dX2_swap_7 : decode cX2_swap 7 = .ok (.aload_n 0, 1) := by decide +kernel
theorem dX2_swap_8 : decode cX2_swap 8 = .ok (.getfield 9, 3) := by decide +kernel
theorem dX2_swap_11 : decode cX2_swap 11 = .ok (.iload_n 1, 1) := by decide +kernel
theorem dX2_swap_12 : decode cX2_swap 12 = .ok (.aload_n 0, 1) := by decide +kernel
theorem dX2_swap_13 : decode cX2_swap 13 = .ok (.getfield 9, 3) := by decide +kernel
theorem dX2_swap_16 : decode cX2_swap 16 = .ok (.iload_n 2, 1) := by decide +kernel
theorem dX2_swap_17 : decode cX2_swap 17 = .ok (.iaload, 1) := by decide +kernel
theorem dX2_swap_18 : decode cX2_swap 18 = .ok (.iastore, 1) := by decide +kernel
theorem dX2_swap_19 : decode cX2_swap 19 = .ok (.aload_n 0, 1) := by decide +kernel
theorem dX2_swap_20 : decode cX2_swap 20 = .ok (.getfield 9, 3) := by decide +kernel
theorem dX2_swap_23 : decode cX2_swap 23 = .ok (.iload_n 2, 1) := by decide +kernel
theorem dX2_swap_24 : decode cX2_swap 24 = .ok (.iload_n 3, 1) := by decide +kernel
theorem dX2_swap_25 : decode cX2_swap 25 = .ok (.iastore, 1) := by decide +kernel
theorem dX2_swap_26 : decode cX2_swap 26 = .ok (.return_, 1) := by decide +kernel
theorem dX2_time_0 : decode cX2_time 0 = .ok (.aload_n 0, 1) := by decide +kernel
theorem dX2_time_1 : decode cX2_time 1 = .ok (.iconst 0, 1) := by decide +kernel
theorem dX2_time_2 : decode cX2_time 2 = .ok (.putfield 22, 3) := by decide +kernel
theorem dX2_time_5 : decode cX2_time 5 = .ok (.aload_n 0, 1) := by decide +kernel
theorem dX2_time_6 : decode cX2_time 6 = .ok (.getfield 15, 3) := by decide +kernel
theorem dX2_time_9 : decode cX2_time 9 = .ok (.ifCond .ne 4, 3) := by decide +kernel
theorem dX2_time_12 : decode cX2_time 12 = .ok (.return_, 1) := by decide +kernel
theorem dX2_time_13 : decode cX2_time 13 = .ok (.iconst 0, 1) := by decide +kernel
theorem dX2_time_14 : decode cX2_time 14 = .ok (.istore_n 2, 1) := by decide +kernel
theorem dX2_time_15 : decode cX2_time 15 = .ok (.iload_n 1, 1) := by decide +kernel
theorem dX2_time_16 : decode cX2_time 16 = .ok (.istore_n 3, 1) := by decide +kernel
theorem dX2_time_17 : decode cX2_time 17 = .ok (.iconst 0, 1) := by decide +kernel
theorem dX2_time_18 : decode cX2_time 18 = .ok (.istore 4, 2) := by decide +kernel
theorem dX2_time_20 : decode cX2_time 20 = .ok (.iload 4, 2) := by decide +kernel
theorem dX2_time_22 : decode cX2_time 22 = .ok (.aload_n 0, 1) := by decide +kernel
theorem dX2_time_23 : decode cX2_time 23 = .ok (.getfield 15, 3) := by decide +kernel
theorem dX2_time_26 : decode cX2_time 26 = .ok (.if_icmp .ge 68, 3) := by decide +kernel
theorem dX2_time_29 : decode cX2_time 29 = .ok (.aload_n 0, 1) := by decide +kernel
theorem dX2_time_30 : decode cX2_time 30 = .ok (.getfield 9, 3) := by decide +kernel
theorem dX2_time_33 : decode cX2_time 33 = .ok (.iload 4, 2) := by decide +kernel
theorem dX2_time_35 : decode cX2_time 35 = .ok (.iaload, 1) := by decide +kernel
theorem dX2_time_36 : decode cX2_time 36 = .ok (.istore 5, 2) := by decide +kernel
theorem dX2_time_38 : decode cX2_time 38 = .ok (.iload_n 2, 1) := by decide +kernel
theorem dX2_time_39 : decode cX2_time 39 = .ok (.aload_n 0, 1) := by decide +kernel
theorem dX2_time_40 : decode cX2_time 40 = .ok (.getfield 28, 3) := by decide +kernel
theorem dX2_time_43 : decode cX2_time 43 = .ok (.getfield 74, 3) := by decide +kernel
theorem dX2_time_46 : decode cX2_time 46 = .ok (.iload 5, 2) := by decide +kernel
theorem dX2_time_48 : decode cX2_time 48 = .ok (.iaload, 1) := by decide +kernel
theorem dX2_time_49 : decode cX2_time 49 = .ok (.iload_n 3, 1) := by decide +kernel
theorem dX2_time_50 : decode cX2_time 50 = .ok (.isub, 1) := by decide +kernel
theorem dX2_time_51 : decode cX2_time 51 = .ok (.invokestatic 77, 3) := by decide +kernel
theorem dX2_time_54 : decode cX2_time 54 = .ok (.iadd, 1) := by decide +kernel
theorem dX2_time_55 : decode cX2_time 55 = .ok (.istore_n 2, 1) := by decide +kernel
theorem dX2_time_56 : decode cX2_time 56 = .ok (.aload_n 0, 1) := by decide +kernel
theorem dX2_time_57 : decode cX2_time 57 = .ok (.getfield 19, 3) := by decide +kernel
theorem dX2_time_60 : decode cX2_time 60 = .ok (.iload 5, 2) := by decide +kernel
theorem dX2_time_62 : decode cX2_time 62 = .ok (.iload_n 2, 1) := by decide +kernel
theorem dX2_time_63 : decode cX2_time 63 = .ok (.iastore, 1) := by decide +kernel
theorem dX2_time_64 : decode cX2_time 64 = .ok (.iload_n 2, 1) := by decide +kernel
theorem dX2_time_65 : decode cX2_time 65 = .ok (.aload_n 0, 1) := by decide +kernel
theorem dX2_time_66 : decode cX2_time 66 = .ok (.getfield 28, 3) := by decide +kernel
theorem dX2_time_69 : decode cX2_time 69 = .ok (.getfield 82, 3) := by decide +kernel
theorem dX2_time_72 : decode cX2_time 72 = .ok (.iload 5, 2) := by decide +kernel
theorem dX2_time_74 : decode cX2_time 74 = .ok (.iaload, 1) := by decide +kernel
theorem dX2_time_75 : decode cX2_time 75 = .ok (.iadd, 1) := by decide +kernel
theorem dX2_time_76 : decode cX2_time 76 = .ok (.istore_n 2, 1) := by decide +kernel
theorem dX2_time_77 : decode cX2_time 77 = .ok (.aload_n 0, 1) := by decide +kernel
theorem dX2_time_78 : decode cX2_time 78 = .ok (.getfield 28, 3) := by decide +kernel
theorem dX2_time_81 : decode cX2_time 81 = .ok (.getfield 74, 3) := by decide +kernel
theorem dX2_time_84 : decode cX2_time 84 = .ok (.iload 5, 2) := by decide +kernel
theorem dX2_time_86 : decode cX2_time 86 = .ok (.iaload, 1) := by decide +kernel
theorem dX2_time_87 : decode cX2_time 87 = .ok (.istore_n 3, 1) := by decide +kernel
theorem dX2_time_88 : decode cX2_time 88 = .ok (.iinc 4 1, 3) := by decide +kernel
theorem dX2_time_91 : decode cX2_time 91 = .ok (.goto (-71), 3) := by decide +kernel
theorem dX2_time_94 : decode cX2_time 94 = .ok (.aload_n 0, 1) := by decide +kernel
theorem dX2_time_95 : decode cX2_time 95 = .ok (.getfield 9, 3) := by decide +kernel
theorem dX2_time_98 : decode cX2_time 98 = .ok (.iconst 0, 1) := by decide +kernel
theorem dX2_time_99 : decode cX2_time 99 = .ok (.iaload, 1) := by decide +kernel
theorem dX2_time_100 : decode cX2_time 100 = .ok (.istore 4, 2) := by decide +kernel
theorem dX2_time_102 : decode cX2_time 102 = .ok (.aload_n 0, 1) := by decide +kernel
theorem dX2_time_103 : decode cX2_time 103 = .ok (.iload_n 2, 1) := by decide +kernel
theorem dX2_time_104 : decode cX2_time 104 = .ok (.aload_n 0, 1) := by decide +kernel
theorem dX2_time_105 : decode cX2_time 105 = .ok (.getfield 28, 3) := by decide +kernel
theorem dX2_time_108 : decode cX2_time 108 = .ok (.getfield 74, 3) := by decide +kernel
theorem dX2_time_111 : decode cX2_time 111 = .ok (.iload 4, 2) := by decide +kernel
theorem dX2_time_113 : decode cX2_time 113 = .ok (.iaload, 1) := by decide +kernel
theorem dX2_time_114 : decode cX2_time 114 = .ok (.iload_n 3, 1) := by decide +kernel
theorem dX2_time_115 : decode cX2_time 115 = .ok (.isub, 1) := by decide +kernel
theorem dX2_time_116 : decode cX2_time 116 = .ok (.invokestatic 77, 3) := by decide +kernel
theorem dX2_time_119 : decode cX2_time 119 = .ok (.iadd, 1) := by decide +kernel
theorem dX2_time_120 : decode cX2_time 120 = .ok (.aload_n 0, 1) := by decide +kernel
theorem dX2_time_121 : decode cX2_time 121 = .ok (.getfield 19, 3) := by decide +kernel
theorem dX2_time_124 : decode cX2_time 124 = .ok (.iload 4, 2) := by decide +kernel
theorem dX2_time_126 : decode cX2_time 126 = .ok (.iaload, 1) := by decide +kernel
theorem dX2_time_127 : decode cX2_time 127 = .ok (.isub, 1) := by decide +kernel
theorem dX2_time_128 : decode cX2_time 128 = .ok (.putfield 22, 3) := by decide +kernel
theorem dX2_time_131 : decode cX2_time 131 = .ok (.return_, 1) := by decide +kernel
set_option maxRecDepth 20000 in
theorem ggX2_harmBelow_X2_fallsBelow : GoodIn wsX2_harmBelow wsX2_fallsBelow := goodIn_r _ [9, 3, 10, 11, 12, 13, 14, 15, 16, 17, 18, 19, 20, 21, 22, 23, 24, 25, 26, 27] (by decide +kernel) (by decide +kernel)
set_option maxRecDepth 20000 in
theorem gX2_harmBelow_X2_fallsBelow : GoodIn wsX2_harmBelow (wsV RX2 85 RX2 yX2_fallsBelow wsX2_fallsBelow) := goodIn_app (goodIn_of _ (by decide +kernel)) ggX2_harmBelow_X2_fallsBelow
theorem dX2_harmBelow_0 : decode cX2_harmBelow 0 = .ok (.iconst 0, 1) := by decide +kernel
theorem dX2_harmBelow_1 : decode cX2_harmBelow 1 = .ok (.istore_n 3, 1) := by decide +kernel
theorem dX2_harmBelow_2 : decode cX2_harmBelow 2 = .ok (.iconst 0, 1) := by decide +kernel
theorem dX2_harmBelow_3 : decode cX2_harmBelow 3 = .ok (.istore 4, 2) := by decide +kernel
theorem dX2_harmBelow_5 : decode cX2_harmBelow 5 = .ok (.iload 4, 2) := by decide +kernel
theorem dX2_harmBelow_7 : decode cX2_harmBelow 7 = .ok (.aload_n 0, 1) := by decide +kernel
theorem dX2_harmBelow_8 : decode cX2_harmBelow 8 = .ok (.getfield 15, 3) := by decide +kernel
theorem dX2_harmBelow_11 : decode cX2_harmBelow 11 = .ok (.if_icmp .ge 45, 3) := by decide +kernel
theorem dX2_harmBelow_14 : decode cX2_harmBelow 14 = .ok (.iload_n 3, 1) := by decide +kernel
theorem dX2_harmBelow_15 : decode cX2_harmBelow 15 = .ok (.iload_n 2, 1) := by decide +kernel
theorem dX2_harmBelow_16 : decode cX2_harmBelow 16 = .ok (.if_icmp .ge 40, 3) := by decide +kernel
theorem dX2_harmBelow_19 : decode cX2_harmBelow 19 = .ok (.iload_n 3, 1) := by decide +kernel
theorem dX2_harmBelow_20 : decode cX2_harmBelow 20 = .ok (.aload_n 0, 1) := by decide +kernel
theorem dX2_harmBelow_21 : decode cX2_harmBelow 21 = .ok (.aload_n 0, 1) := by decide +kernel
theorem dX2_harmBelow_22 : decode cX2_harmBelow 22 = .ok (.getfield 9, 3) := by decide +kernel
theorem dX2_harmBelow_25 : decode cX2_harmBelow 25 = .ok (.iload 4, 2) := by decide +kernel
theorem dX2_harmBelow_27 : decode cX2_harmBelow 27 = .ok (.iaload, 1) := by decide +kernel
theorem dX2_harmBelow_28 : decode cX2_harmBelow 28 = .ok (.iload_n 1, 1) := by decide +kernel
theorem dX2_harmBelow_29 : decode cX2_harmBelow 29 = .ok (.invokevirtual 85, 3) := by decide +kernel
theorem dX2_harmBelow_32 : decode cX2_harmBelow 32 = .ok (.aload_n 0, 1) := by decide +kernel
theorem dX2_harmBelow_33 : decode cX2_harmBelow 33 = .ok (.getfield 28, 3) := by decide +kernel
theorem dX2_harmBelow_36 : decode cX2_harmBelow 36 = .ok (.getfield 88, 3) := by decide +kernel
theorem dX2_harmBelow_39 : decode cX2_harmBelow 39 = .ok (.aload_n 0, 1) := by decide +kernel
theorem dX2_harmBelow_40 : decode cX2_harmBelow 40 = .ok (.getfield 9, 3) := by decide +kernel
theorem dX2_harmBelow_43 : decode cX2_harmBelow 43 = .ok (.iload 4, 2) := by decide +kernel
theorem dX2_harmBelow_45 : decode cX2_harmBelow 45 = .ok (.iaload, 1) := by decide +kernel
theorem dX2_harmBelow_46 : decode cX2_harmBelow 46 = .ok (.iaload, 1) := by decide +kernel
theorem dX2_harmBelow_47 : decode cX2_harmBelow 47 = .ok (.imul, 1) := by decide +kernel
theorem dX2_harmBelow_48 : decode cX2_harmBelow 48 = .ok (.iadd, 1) := by decide +kernel
theorem dX2_harmBelow_49 : decode cX2_harmBelow 49 = .ok (.istore_n 3, 1) := by decide +kernel
theorem dX2_harmBelow_50 : decode cX2_harmBelow 50 = .ok (.iinc 4 1, 3) := by decide +kernel
theorem dX2_harmBelow_53 : decode cX2_harmBelow 53 = .ok (.goto (-48), 3) := by decide +kernel
theorem dX2_harmBelow_56 : decode cX2_harmBelow 56 = .ok (.iload_n 3, 1) := by decide +kernel
theorem dX2_harmBelow_57 : decode cX2_harmBelow 57 = .ok (.ireturn, 1) := by decide +kernel
theorem dX2_fallsBelow_0 : decode cX2_fallsBelow 0 = .ok (.aload_n 0, 1) := by decide +kernel
theorem dX2_fallsBelow_1 : decode cX2_fallsBelow 1 = .ok (.getfield 28, 3) := by decide +kernel
theorem dX2_fallsBelow_4 : decode cX2_fallsBelow 4 = .ok (.getfield 91, 3) := by decide +kernel
theorem dX2_fallsBelow_7 : decode cX2_fallsBelow 7 = .ok (.iload_n 1, 1) := by decide +kernel
theorem dX2_fallsBelow_8 : decode cX2_fallsBelow 8 = .ok (.iaload, 1) := by decide +kernel
theorem dX2_fallsBelow_9 : decode cX2_fallsBelow 9 = .ok (.istore_n 3, 1) := by decide +kernel
theorem dX2_fallsBelow_10 : decode cX2_fallsBelow 10 = .ok (.iload_n 3, 1) := by decide +kernel
theorem dX2_fallsBelow_11 : decode cX2_fallsBelow 11 = .ok (.aload_n 0, 1) := by decide +kernel
theorem dX2_fallsBelow_12 : decode cX2_fallsBelow 12 = .ok (.getfield 19, 3) := by decide +kernel
theorem dX2_fallsBelow_15 : decode cX2_fallsBelow 15 = .ok (.iload_n 1, 1) := by decide +kernel
theorem dX2_fallsBelow_16 : decode cX2_fallsBelow 16 = .ok (.iaload, 1) := by decide +kernel
theorem dX2_fallsBelow_17 : decode cX2_fallsBelow 17 = .ok (.if_icmp .ge 12, 3) := by decide +kernel
theorem dX2_fallsBelow_20 : decode cX2_fallsBelow 20 = .ok (.iload_n 3, 1) := by decide +kernel
theorem dX2_fallsBelow_21 : decode cX2_fallsBelow 21 = .ok (.iload_n 2, 1) := by decide +kernel
theorem dX2_fallsBelow_22 : decode cX2_fallsBelow 22 = .ok (.if_icmp .ge 7, 3) := by decide +kernel
theorem dX2_fallsBelow_25 : decode cX2_fallsBelow 25 = .ok (.iconst 1, 1) := by decide +kernel
theorem dX2_fallsBelow_26 : decode cX2_fallsBelow 26 = .ok (.goto 4, 3) := by decide +kernel
theorem dX2_fallsBelow_29 : decode cX2_fallsBelow 29 = .ok (.iconst 0, 1) := by decide +kernel
theorem dX2_fallsBelow_30 : decode cX2_fallsBelow 30 = .ok (.istore 4, 2) := by decide +kernel
theorem dX2_fallsBelow_32 : decode cX2_fallsBelow 32 = .ok (.aload_n 0, 1) := by decide +kernel
theorem dX2_fallsBelow_33 : decode cX2_fallsBelow 33 = .ok (.getfield 28, 3) := by decide +kernel
theorem dX2_fallsBelow_36 : decode cX2_fallsBelow 36 = .ok (.getfield 82, 3) := by decide +kernel
theorem dX2_fallsBelow_39 : decode cX2_fallsBelow 39 = .ok (.iload_n 1, 1) := by decide +kernel
theorem dX2_fallsBelow_40 : decode cX2_fallsBelow 40 = .ok (.iaload, 1) := by decide +kernel
theorem dX2_fallsBelow_41 : decode cX2_fallsBelow 41 = .ok (.iload_n 3, 1) := by decide +kernel
theorem dX2_fallsBelow_42 : decode cX2_fallsBelow 42 = .ok (.iadd, 1) := by decide +kernel
theorem dX2_fallsBelow_43 : decode cX2_fallsBelow 43 = .ok (.istore 5, 2) := by decide +kernel
theorem dX2_fallsBelow_45 : decode cX2_fallsBelow 45 = .ok (.aload_n 0, 1) := by decide +kernel
theorem dX2_fallsBelow_46 : decode cX2_fallsBelow 46 = .ok (.getfield 19, 3) := by decide +kernel
theorem dX2_fallsBelow_49 : decode cX2_fallsBelow 49 = .ok (.iload_n 1, 1) := by decide +kernel
theorem dX2_fallsBelow_50 : decode cX2_fallsBelow 50 = .ok (.iaload, 1) := by decide +kernel
theorem dX2_fallsBelow_51 : decode cX2_fallsBelow 51 = .ok (.iload 5, 2) := by decide +kernel
theorem dX2_fallsBelow_53 : decode cX2_fallsBelow 53 = .ok (.iadd, 1) := by decide +kernel
theorem dX2_fallsBelow_54 : decode cX2_fallsBelow 54 = .ok (.istore 6, 2) := by decide +kernel
theorem dX2_fallsBelow_56 : decode cX2_fallsBelow 56 = .ok (.aload_n 0, 1) := by decide +kernel
theorem dX2_fallsBelow_57 : decode cX2_fallsBelow 57 = .ok (.getfield 22, 3) := by decide +kernel
theorem dX2_fallsBelow_60 : decode cX2_fallsBelow 60 = .ok (.ifCond .le 36, 3) := by decide +kernel
theorem dX2_fallsBelow_63 : decode cX2_fallsBelow 63 = .ok (.aload_n 0, 1) := by decide +kernel
theorem dX2_fallsBelow_64 : decode cX2_fallsBelow 64 = .ok (.getfield 22, 3) := by decide +kernel
theorem dX2_fallsBelow_67 : decode cX2_fallsBelow 67 = .ok (.iload 5, 2) := by decide +kernel
theorem dX2_fallsBelow_69 : decode cX2_fallsBelow 69 = .ok (.if_icmp .le 27, 3) := by decide +kernel
theorem dX2_fallsBelow_72 : decode cX2_fallsBelow 72 = .ok (.iload 6, 2) := by decide +kernel
theorem dX2_fallsBelow_74 : decode cX2_fallsBelow 74 = .ok (.iload_n 2, 1) := by decide +kernel
theorem dX2_fallsBelow_75 : decode cX2_fallsBelow 75 = .ok (.if_icmp .ge 21, 3) := by decide +kernel
theorem dX2_fallsBelow_78 : decode cX2_fallsBelow 78 = .ok (.iload 4, 2) := by decide +kernel
theorem dX2_fallsBelow_80 : decode cX2_fallsBelow 80 = .ok (.iconst 1, 1) := by decide +kernel
theorem dX2_fallsBelow_81 : decode cX2_fallsBelow 81 = .ok (.iload_n 2, 1) := by decide +kernel
theorem dX2_fallsBelow_82 : decode cX2_fallsBelow 82 = .ok (.iconst 1, 1) := by decide +kernel
theorem dX2_fallsBelow_83 : decode cX2_fallsBelow 83 = .ok (.isub, 1) := by decide +kernel
theorem dX2_fallsBelow_84 : decode cX2_fallsBelow 84 = .ok (.iload 6, 2) := by decide +kernel
theorem dX2_fallsBelow_86 : decode cX2_fallsBelow 86 = .ok (.isub, 1) := by decide +kernel
theorem dX2_fallsBelow_87 : decode cX2_fallsBelow 87 = .ok (.aload_n 0, 1) := by decide +kernel
theorem dX2_fallsBelow_88 : decode cX2_fallsBelow 88 = .ok (.getfield 22, 3) := by decide +kernel
theorem dX2_fallsBelow_91 : decode cX2_fallsBelow 91 = .ok (.idiv, 1) := by decide +kernel
theorem dX2_fallsBelow_92 : decode cX2_fallsBelow 92 = .ok (.iadd, 1) := by decide +kernel
theorem dX2_fallsBelow_93 : decode cX2_fallsBelow 93 = .ok (.iadd, 1) := by decide +kernel
theorem dX2_fallsBelow_94 : decode cX2_fallsBelow 94 = .ok (.istore 4, 2) := by decide +kernel
theorem dX2_fallsBelow_96 : decode cX2_fallsBelow 96 = .ok (.iload 4, 2) := by decide +kernel
theorem dX2_fallsBelow_98 : decode cX2_fallsBelow 98 = .ok (.ireturn, 1) := by decide +kernel
theorem dX2_nothingEverFalls_0 : decode cX2_nothingEverFalls 0 = .ok (.iconst 0, 1) := by decide +kernel
theorem dX2_nothingEverFalls_1 : decode cX2_nothingEverFalls 1 = .ok (.istore_n 1, 1) := by decide +kernel
theorem dX2_nothingEverFalls_2 : decode cX2_nothingEverFalls 2 = .ok (.iload_n 1, 1) := by decide +kernel
theorem dX2_nothingEverFalls_3 : decode cX2_nothingEverFalls 3 = .ok (.aload_n 0, 1) := by decide +kernel
theorem dX2_nothingEverFalls_4 : decode cX2_nothingEverFalls 4 = .ok (.getfield 15, 3) := by decide +kernel
theorem dX2_nothingEverFalls_7 : decode cX2_nothingEverFalls 7 = .ok (.if_icmp .ge 56, 3) := by decide +kernel
theorem dX2_nothingEverFalls_10 : decode cX2_nothingEverFalls 10 = .ok (.aload_n 0, 1) := by decide +kernel
theorem dX2_nothingEverFalls_11 : decode cX2_nothingEverFalls 11 = .ok (.getfield 9, 3) := by decide +kernel
theorem dX2_nothingEverFalls_14 : decode cX2_nothingEverFalls 14 = .ok (.iload_n 1, 1) := by decide +kernel
theorem dX2_nothingEverFalls_15 : decode cX2_nothingEverFalls 15 = .ok (.iaload, 1) := by decide +kernel
theorem dX2_nothingEverFalls_16 : decode cX2_nothingEverFalls 16 = .ok (.istore_n 2, 1) := by decide +kernel
theorem dX2_nothingEverFalls_17 : decode cX2_nothingEverFalls 17 = .ok (.aload_n 0, 1) := by decide +kernel
theorem dX2_nothingEverFalls_18 : decode cX2_nothingEverFalls 18 = .ok (.getfield 28, 3) := by decide +kernel
theorem dX2_nothingEverFalls_21 : decode cX2_nothingEverFalls 21 = .ok (.getfield 91, 3) := by decide +kernel
theorem dX2_nothingEverFalls_24 : decode cX2_nothingEverFalls 24 = .ok (.iload_n 2, 1) := by decide +kernel
theorem dX2_nothingEverFalls_25 : decode cX2_nothingEverFalls 25 = .ok (.iaload, 1) := by decide +kernel
theorem dX2_nothingEverFalls_26 : decode cX2_nothingEverFalls 26 = .ok (.istore_n 3, 1) := by decide +kernel
theorem dX2_nothingEverFalls_27 : decode cX2_nothingEverFalls 27 = .ok (.iload_n 3, 1) := by decide +kernel
theorem dX2_nothingEverFalls_28 : decode cX2_nothingEverFalls 28 = .ok (.aload_n 0, 1) := by decide +kernel
theorem dX2_nothingEverFalls_29 : decode cX2_nothingEverFalls 29 = .ok (.getfield 19, 3) := by decide +kernel
theorem dX2_nothingEverFalls_32 : decode cX2_nothingEverFalls 32 = .ok (.iload_n 2, 1) := by decide +kernel
theorem dX2_nothingEverFalls_33 : decode cX2_nothingEverFalls 33 = .ok (.iaload, 1) := by decide +kernel
theorem dX2_nothingEverFalls_34 : decode cX2_nothingEverFalls 34 = .ok (.if_icmp .lt 21, 3) := by decide +kernel
theorem dX2_nothingEverFalls_37 : decode cX2_nothingEverFalls 37 = .ok (.aload_n 0, 1) := by decide +kernel
theorem dX2_nothingEverFalls_38 : decode cX2_nothingEverFalls 38 = .ok (.getfield 28, 3) := by decide +kernel
theorem dX2_nothingEverFalls_41 : decode cX2_nothingEverFalls 41 = .ok (.getfield 82, 3) := by decide +kernel
theorem dX2_nothingEverFalls_44 : decode cX2_nothingEverFalls 44 = .ok (.iload_n 2, 1) := by decide +kernel
theorem dX2_nothingEverFalls_45 : decode cX2_nothingEverFalls 45 = .ok (.iaload, 1) := by decide +kernel
theorem dX2_nothingEverFalls_46 : decode cX2_nothingEverFalls 46 = .ok (.iload_n 3, 1) := by decide +kernel
theorem dX2_nothingEverFalls_47 : decode cX2_nothingEverFalls 47 = .ok (.iadd, 1) := by decide +kernel
theorem dX2_nothingEverFalls_48 : decode cX2_nothingEverFalls 48 = .ok (.aload_n 0, 1) := by decide +kernel
theorem dX2_nothingEverFalls_49 : decode cX2_nothingEverFalls 49 = .ok (.getfield 22, 3) := by decide +kernel
theorem dX2_nothingEverFalls_52 : decode cX2_nothingEverFalls 52 = .ok (.if_icmp .ge 5, 3) := by decide +kernel
theorem dX2_nothingEverFalls_55 : decode cX2_nothingEverFalls 55 = .ok (.iconst 0, 1) := by decide +kernel
theorem dX2_nothingEverFalls_56 : decode cX2_nothingEverFalls 56 = .ok (.ireturn, 1) := by decide +kernel
theorem dX2_nothingEverFalls_57 : decode cX2_nothingEverFalls 57 = .ok (.iinc 1 1, 3) := by decide +kernel
theorem dX2_nothingEverFalls_60 : decode cX2_nothingEverFalls 60 = .ok (.goto (-58), 3) := by decide +kernel
theorem dX2_nothingEverFalls_63 : decode cX2_nothingEverFalls 63 = .ok (.iconst 1, 1) := by decide +kernel
theorem dX2_nothingEverFalls_64 : decode cX2_nothingEverFalls 64 = .ok (.ireturn, 1) := by decide +kernel
set_option maxRecDepth 20000 in
theorem ggX2_allAreSo_X2_isUp : GoodIn wsX2_allAreSo wsX2_isUp := goodIn_r _ [9, 10, 11, 12, 13, 14, 19, 20, 21, 22, 23, 24, 25, 26, 27, 28, 29, 30, 31, 32] (by decide +kernel) (by decide +kernel)
set_option maxRecDepth 20000 in
theorem gX2_allAreSo_X2_isUp : GoodIn wsX2_allAreSo (wsV RX2 103 RX2 yX2_isUp wsX2_isUp) := goodIn_app (goodIn_of _ (by decide +kernel)) ggX2_allAreSo_X2_isUp
theorem dX2_allAreSo_0 : decode cX2_allAreSo 0 = .ok (.iconst 0, 1) := by decide +kernel
theorem dX2_allAreSo_1 : decode cX2_allAreSo 1 = .ok (.istore_n 2, 1) := by decide +kernel
theorem dX2_allAreSo_2 : decode cX2_allAreSo 2 = .ok (.iload_n 2, 1) := by decide +kernel
theorem dX2_allAreSo_3 : decode cX2_allAreSo 3 = .ok (.aload_n 1, 1) := by decide +kernel
theorem dX2_allAreSo_4 : decode cX2_allAreSo 4 = .ok (.getfield 94, 3) := by decide +kernel
theorem dX2_allAreSo_7 : decode cX2_allAreSo 7 = .ok (.if_icmp .ge 36, 3) := by decide +kernel
theorem dX2_allAreSo_10 : decode cX2_allAreSo 10 = .ok (.aload_n 0, 1) := by decide +kernel
theorem dX2_allAreSo_11 : decode cX2_allAreSo 11 = .ok (.aload_n 1, 1) := by decide +kernel
theorem dX2_allAreSo_12 : decode cX2_allAreSo 12 = .ok (.getfield 97, 3) := by decide +kernel
theorem dX2_allAreSo_15 : decode cX2_allAreSo 15 = .ok (.iload_n 2, 1) := by decide +kernel
theorem dX2_allAreSo_16 : decode cX2_allAreSo 16 = .ok (.iaload, 1) := by decide +kernel
theorem dX2_allAreSo_17 : decode cX2_allAreSo 17 = .ok (.aload_n 1, 1) := by decide +kernel
theorem dX2_allAreSo_18 : decode cX2_allAreSo 18 = .ok (.getfield 100, 3) := by decide +kernel
theorem dX2_allAreSo_21 : decode cX2_allAreSo 21 = .ok (.iload_n 2, 1) := by decide +kernel
theorem dX2_allAreSo_22 : decode cX2_allAreSo 22 = .ok (.iaload, 1) := by decide +kernel
theorem dX2_allAreSo_23 : decode cX2_allAreSo 23 = .ok (.invokevirtual 103, 3) := by decide +kernel
theorem dX2_allAreSo_26 : decode cX2_allAreSo 26 = .ok (.aload_n 1, 1) := by decide +kernel
theorem dX2_allAreSo_27 : decode cX2_allAreSo 27 = .ok (.getfield 107, 3) := by decide +kernel
theorem dX2_allAreSo_30 : decode cX2_allAreSo 30 = .ok (.iload_n 2, 1) := by decide +kernel
theorem dX2_allAreSo_31 : decode cX2_allAreSo 31 = .ok (.baload, 1) := by decide +kernel
theorem dX2_allAreSo_32 : decode cX2_allAreSo 32 = .ok (.if_icmp .eq 5, 3) := by decide +kernel
theorem dX2_allAreSo_35 : decode cX2_allAreSo 35 = .ok (.iconst 0, 1) := by decide +kernel
theorem dX2_allAreSo_36 : decode cX2_allAreSo 36 = .ok (.ireturn, 1) := by decide +kernel
theorem dX2_allAreSo_37 : decode cX2_allAreSo 37 = .ok (.iinc 2 1, 3) := by decide +kernel
theorem dX2_allAreSo_40 : decode cX2_allAreSo 40 = .ok (.goto (-38), 3) := by decide +kernel
theorem dX2_allAreSo_43 : decode cX2_allAreSo 43 = .ok (.iconst 1, 1) := by decide +kernel
theorem dX2_allAreSo_44 : decode cX2_allAreSo 44 = .ok (.ireturn, 1) := by decide +kernel
theorem dX2_isUp_0 : decode cX2_isUp 0 = .ok (.iload_n 2, 1) := by decide +kernel
theorem dX2_isUp_1 : decode cX2_isUp 1 = .ok (.aload_n 0, 1) := by decide +kernel
theorem dX2_isUp_2 : decode cX2_isUp 2 = .ok (.getfield 19, 3) := by decide +kernel
theorem dX2_isUp_5 : decode cX2_isUp 5 = .ok (.iload_n 1, 1) := by decide +kernel
theorem dX2_isUp_6 : decode cX2_isUp 6 = .ok (.iaload, 1) := by decide +kernel
theorem dX2_isUp_7 : decode cX2_isUp 7 = .ok (.isub, 1) := by decide +kernel
theorem dX2_isUp_8 : decode cX2_isUp 8 = .ok (.istore_n 3, 1) := by decide +kernel
theorem dX2_isUp_9 : decode cX2_isUp 9 = .ok (.iload_n 3, 1) := by decide +kernel
theorem dX2_isUp_10 : decode cX2_isUp 10 = .ok (.ifCond .ge 22, 3) := by decide +kernel
theorem dX2_isUp_13 : decode cX2_isUp 13 = .ok (.iload_n 2, 1) := by decide +kernel
theorem dX2_isUp_14 : decode cX2_isUp 14 = .ok (.aload_n 0, 1) := by decide +kernel
theorem dX2_isUp_15 : decode cX2_isUp 15 = .ok (.getfield 28, 3) := by decide +kernel
theorem dX2_isUp_18 : decode cX2_isUp 18 = .ok (.getfield 91, 3) := by decide +kernel
theorem dX2_isUp_21 : decode cX2_isUp 21 = .ok (.iload_n 1, 1) := by decide +kernel
theorem dX2_isUp_22 : decode cX2_isUp 22 = .ok (.iaload, 1) := by decide +kernel
theorem dX2_isUp_23 : decode cX2_isUp 23 = .ok (.if_icmp .ge 7, 3) := by decide +kernel
theorem dX2_isUp_26 : decode cX2_isUp 26 = .ok (.iconst 1, 1) := by decide +kernel
theorem dX2_isUp_27 : decode cX2_isUp 27 = .ok (.goto 4, 3) := by decide +kernel
theorem dX2_isUp_30 : decode cX2_isUp 30 = .ok (.iconst 0, 1) := by decide +kernel
theorem dX2_isUp_31 : decode cX2_isUp 31 = .ok (.ireturn, 1) := by decide +kernel
theorem dX2_isUp_32 : decode cX2_isUp 32 = .ok (.aload_n 0, 1) := by decide +kernel
theorem dX2_isUp_33 : decode cX2_isUp 33 = .ok (.getfield 22, 3) := by decide +kernel
theorem dX2_isUp_36 : decode cX2_isUp 36 = .ok (.ifCond .le 35, 3) := by decide +kernel
theorem dX2_isUp_39 : decode cX2_isUp 39 = .ok (.iload_n 3, 1) := by decide +kernel
theorem dX2_isUp_40 : decode cX2_isUp 40 = .ok (.aload_n 0, 1) := by decide +kernel
theorem dX2_isUp_41 : decode cX2_isUp 41 = .ok (.getfield 22, 3) := by decide +kernel
theorem dX2_isUp_44 : decode cX2_isUp 44 = .ok (.irem, 1) := by decide +kernel
theorem dX2_isUp_45 : decode cX2_isUp 45 = .ok (.aload_n 0, 1) := by decide +kernel
theorem dX2_isUp_46 : decode cX2_isUp 46 = .ok (.getfield 28, 3) := by decide +kernel
theorem dX2_isUp_49 : decode cX2_isUp 49 = .ok (.getfield 82, 3) := by decide +kernel
theorem dX2_isUp_52 : decode cX2_isUp 52 = .ok (.iload_n 1, 1) := by decide +kernel
theorem dX2_isUp_53 : decode cX2_isUp 53 = .ok (.iaload, 1) := by decide +kernel
theorem dX2_isUp_54 : decode cX2_isUp 54 = .ok (.aload_n 0, 1) := by decide +kernel
theorem dX2_isUp_55 : decode cX2_isUp 55 = .ok (.getfield 28, 3) := by decide +kernel
theorem dX2_isUp_58 : decode cX2_isUp 58 = .ok (.getfield 91, 3) := by decide +kernel
theorem dX2_isUp_61 : decode cX2_isUp 61 = .ok (.iload_n 1, 1) := by decide +kernel
theorem dX2_isUp_62 : decode cX2_isUp 62 = .ok (.iaload, 1) := by decide +kernel
theorem dX2_isUp_63 : decode cX2_isUp 63 = .ok (.iadd, 1) := by decide +kernel
theorem dX2_isUp_64 : decode cX2_isUp 64 = .ok (.if_icmp .ge 7, 3) := by decide +kernel
theorem dX2_isUp_67 : decode cX2_isUp 67 = .ok (.iconst 1, 1) := by decide +kernel
theorem dX2_isUp_68 : decode cX2_isUp 68 = .ok (.goto 4, 3) := by decide +kernel
theorem dX2_isUp_71 : decode cX2_isUp 71 = .ok (.iconst 0, 1) := by decide +kernel
theorem dX2_isUp_72 : decode cX2_isUp 72 = .ok (.ireturn, 1) := by decide +kernel
theorem dX3_init_0 : decode cX3_init 0 = .ok (.aload_n 0, 1) := by decide +kernel
theorem dX3_init_1 : decode cX3_init 1 = .ok (.invokespecial 3, 3) := by decide +kernel
theorem dX3_init_4 : decode cX3_init 4 = .ok (.aload_n 0, 1) := by decide +kernel
theorem dX3_init_5 : decode cX3_init 5 = .ok (.iconst 0, 1) := by decide +kernel
theorem dX3_init_6 : decode cX3_init 6 = .ok (.putfield 9, 3) := by decide +kernel
theorem dX3_init_9 : decode cX3_init 9 = .ok (.aload_n 0, 1) := by decide +kernel
theorem dX3_init_10 : decode cX3_init 10 = .ok (.bipush 8, 2) := by decide +kernel
theorem dX3_init_12 : decode cX3_init 12 = .ok (.newarray .int, 2) := by decide +kernel
theorem dX3_init_14 : decode cX3_init 14 = .ok (.putfield 15, 3) := by decide +kernel
theorem dX3_init_17 : decode cX3_init 17 = .ok (.aload_n 0, 1) := by decide +kernel
theorem dX3_init_18 : decode cX3_init 18 = .ok (.bipush 8, 2) := by decide +kernel
theorem dX3_init_20 : decode cX3_init 20 = .ok (.newarray .int, 2) := by decide +kernel
theorem dX3_init_22 : decode cX3_init 22 = .ok (.putfield 19, 3) := by decide +kernel
theorem dX3_init_25 : decode cX3_init 25 = .ok (.aload_n 0, 1) := by decide +kernel
theorem dX3_init_26 : decode cX3_init 26 = .ok (.bipush 8, 2) := by decide +kernel
theorem dX3_init_28 : decode cX3_init 28 = .ok (.newarray .boolean, 2) := by decide +kernel
theorem dX3_init_30 : decode cX3_init 30 = .ok (.putfield 22, 3) := by decide +kernel
theorem dX3_init_33 : decode cX3_init 33 = .ok (.return_, 1) := by decide +kernel
theorem dX3_note_0 : decode cX3_note 0 = .ok (.aload_n 0, 1) := by decide +kernel
theorem dX3_note_1 : decode cX3_note 1 = .ok (.getfield 9, 3) := by decide +kernel
theorem dX3_note_4 : decode cX3_note 4 = .ok (.bipush 8, 2) := by decide +kernel
theorem dX3_note_6 : decode cX3_note 6 = .ok (.if_icmp .lt 6, 3) := by decide +kernel
theorem dX3_note_9 : decode cX3_note 9 = .ok (.bipush (-4), 2) := by decide +kernel
theorem dX3_note_11 : decode cX3_note 11 = .ok (.ireturn, 1) := by decide +kernel
theorem dX3_note_12 : decode cX3_note 12 = .ok (.aload_n 0, 1) := by decide +kernel
theorem dX3_note_13 : decode cX3_note 13 = .ok (.getfield 15, 3) := by decide +kernel
theorem dX3_note_16 : decode cX3_note 16 = .ok (.aload_n 0, 1) := by decide +kernel
theorem dX3_note_17 : decode cX3_note 17 = .ok (.getfield 9, 3) := by decide +kernel
theorem dX3_note_20 : decode cX3_note 20 = .ok (.iload_n 1, 1) := by decide +kernel
theorem dX3_note_21 : decode cX3_note 21 = .ok (.iastore, 1) := by decide +kernel
theorem dX3_note_22 : decode cX3_note 22 = .ok (.aload_n 0, 1) := by decide +kernel
theorem dX3_note_23 : decode cX3_note 23 = .ok (.getfield 19, 3) := by decide +kernel
theorem dX3_note_26 : decode cX3_note 26 = .ok (.aload_n 0, 1) := by decide +kernel
theorem dX3_note_27 : decode cX3_note 27 = .ok (.getfield 9, 3) := by decide +kernel
theorem dX3_note_30 : decode cX3_note 30 = .ok (.iload_n 2, 1) := by decide +kernel
theorem dX3_note_31 : decode cX3_note 31 = .ok (.iastore, 1) := by decide +kernel
theorem dX3_note_32 : decode cX3_note 32 = .ok (.aload_n 0, 1) := by decide +kernel
theorem dX3_note_33 : decode cX3_note 33 = .ok (.getfield 22, 3) := by decide +kernel
theorem dX3_note_36 : decode cX3_note 36 = .ok (.aload_n 0, 1) := by decide +kernel
theorem dX3_note_37 : decode cX3_note 37 = .ok (.getfield 9, 3) := by decide +kernel
theorem dX3_note_40 : decode cX3_note 40 = .ok (.iload_n 3, 1) := by decide +kernel
theorem dX3_note_41 : decode cX3_note 41 = .ok (.bastore, 1) := by decide +kernel
theorem dX3_note_42 : decode cX3_note 42 = .ok (.aload_n 0, 1) := by decide +kernel
theorem dX3_note_43 : decode cX3_note 43 = .ok (.dup, 1) := by decide +kernel
theorem dX3_note_44 : decode cX3_note 44 = .ok (.getfield 9, 3) := by decide +kernel
theorem dX3_note_47 : decode cX3_note 47 = .ok (.iconst 1, 1) := by decide +kernel
theorem dX3_note_48 : decode cX3_note 48 = .ok (.iadd, 1) := by decide +kernel
theorem dX3_note_49 : decode cX3_note 49 = .ok (.putfield 9, 3) := by decide +kernel
theorem dX3_note_52 : decode cX3_note 52 = .ok (.aload_n 0, 1) := by decide +kernel
theorem dX3_note_53 : decode cX3_note 53 = .ok (.getfield 9, 3) := by decide +kernel
theorem dX3_note_56 : decode cX3_note 56 = .ok (.iconst 1, 1) := by decide +kernel
theorem dX3_note_57 : decode cX3_note 57 = .ok (.isub, 1) := by decide +kernel
theorem dX3_note_58 : decode cX3_note 58 = .ok (.ireturn, 1) := by decide +kernel
theorem dX4_init_0 : decode cX4_init 0 = .ok (.aload_n 0, 1) := by decide +kernel
theorem dX4_init_1 : decode cX4_init 1 = .ok (.invokespecial 3, 3) := by decide +kernel
theorem dX4_init_4 : decode cX4_init 4 = .ok (.aload_n 0, 1) := by decide +kernel
theorem dX4_init_5 : decode cX4_init 5 = .ok (.iconst (-1), 1) := by decide +kernel
theorem dX4_init_6 : decode cX4_init 6 = .ok (.putfield 11, 3) := by decide +kernel
theorem dX4_init_9 : decode cX4_init 9 = .ok (.aload_n 0, 1) := by decide +kernel
theorem dX4_init_10 : decode cX4_init 10 = .ok (.iconst 0, 1) := by decide +kernel
theorem dX4_init_11 : decode cX4_init 11 = .ok (.putfield 15, 3) := by decide +kernel
theorem dX4_init_14 : decode cX4_init 14 = .ok (.aload_n 0, 1) := by decide +kernel
theorem dX4_init_15 : decode cX4_init 15 = .ok (.bipush 60, 2) := by decide +kernel
theorem dX4_init_17 : decode cX4_init 17 = .ok (.newarray .int, 2) := by decide +kernel
theorem dX4_init_19 : decode cX4_init 19 = .ok (.putfield 18, 3) := by decide +kernel
theorem dX4_init_22 : decode cX4_init 22 = .ok (.return_, 1) := by decide +kernel
theorem dX4_isNothing_0 : decode cX4_isNothing 0 = .ok (.aload_n 0, 1) := by decide +kernel
theorem dX4_isNothing_1 : decode cX4_isNothing 1 = .ok (.getfield 11, 3) := by decide +kernel
theorem dX4_isNothing_4 : decode cX4_isNothing 4 = .ok (.iconst (-1), 1) := by decide +kernel
theorem dX4_isNothing_5 : decode cX4_isNothing 5 = .ok (.if_icmp .ne 7, 3) := by decide +kernel
theorem dX4_isNothing_8 : decode cX4_isNothing 8 = .ok (.iconst 1, 1) := by decide +kernel
theorem dX4_isNothing_9 : decode cX4_isNothing 9 = .ok (.goto 4, 3) := by decide +kernel
theorem dX4_isNothing_12 : decode cX4_isNothing 12 = .ok (.iconst 0, 1) := by decide +kernel
theorem dX4_isNothing_13 : decode cX4_isNothing 13 = .ok (.ireturn, 1) := by decide +kernel
theorem dX4_makeNothing_0 : decode cX4_makeNothing 0 = .ok (.aload_n 0, 1) := by decide +kernel
theorem dX4_makeNothing_1 : decode cX4_makeNothing 1 = .ok (.iconst (-1), 1) := by decide +kernel
theorem dX4_makeNothing_2 : decode cX4_makeNothing 2 = .ok (.putfield 11, 3) := by decide +kernel
theorem dX4_makeNothing_5 : decode cX4_makeNothing 5 = .ok (.aload_n 0, 1) := by decide +kernel
theorem dX4_makeNothing_6 : decode cX4_makeNothing 6 = .ok (.iconst 0, 1) := by decide +kernel
theorem dX4_makeNothing_7 : decode cX4_makeNothing 7 = .ok (.putfield 15, 3) := by decide +kernel
theorem dX4_makeNothing_10 : decode cX4_makeNothing 10 = .ok (.return_, 1) := by decide +kernel
theorem dX4_makeRow_0 : decode cX4_makeRow 0 = .ok (.aload_n 0, 1) := by decide +kernel
theorem dX4_makeRow_1 : decode cX4_makeRow 1 = .ok (.iload_n 1, 1) := by decide +kernel
theorem dX4_makeRow_2 : decode cX4_makeRow 2 = .ok (.putfield 11, 3) := by decide +kernel
theorem dX4_makeRow_5 : decode cX4_makeRow 5 = .ok (.aload_n 0, 1) := by decide +kernel
theorem dX4_makeRow_6 : decode cX4_makeRow 6 = .ok (.iconst 0, 1) := by decide +kernel
theorem dX4_makeRow_7 : decode cX4_makeRow 7 = .ok (.iload_n 2, 1) := by decide +kernel
theorem dX4_makeRow_8 : decode cX4_makeRow 8 = .ok (.bipush 60, 2) := by decide +kernel
theorem dX4_makeRow_10 : decode cX4_makeRow 10 = .ok (.invokestatic 22, 3) := by decide +kernel
theorem dX4_makeRow_13 : decode cX4_makeRow 13 = .ok (.invokestatic 28, 3) := by decide +kernel
theorem dX4_makeRow_16 : decode cX4_makeRow 16 = .ok (.putfield 15, 3) := by decide +kernel
theorem dX4_makeRow_19 : decode cX4_makeRow 19 = .ok (.iconst 0, 1) := by decide +kernel
theorem dX4_makeRow_20 : decode cX4_makeRow 20 = .ok (.istore_n 3, 1) := by decide +kernel
theorem dX4_makeRow_21 : decode cX4_makeRow 21 = .ok (.iload_n 3, 1) := by decide +kernel
theorem dX4_makeRow_22 : decode cX4_makeRow 22 = .ok (.aload_n 0, 1) := by decide +kernel
theorem dX4_makeRow_23 : decode cX4_makeRow 23 = .ok (.getfield 15, 3) := by decide +kernel
theorem dX4_makeRow_26 : decode cX4_makeRow 26 = .ok (.if_icmp .ge 16, 3) := by decide +kernel
theorem dX4_makeRow_29 : decode cX4_makeRow 29 = .ok (.aload_n 0, 1) := by decide +kernel
theorem dX4_makeRow_30 : decode cX4_makeRow 30 = .ok (.getfield 18, 3) := by decide +kernel
theorem dX4_makeRow_33 : decode cX4_makeRow 33 = .ok (.iload_n 3, 1) := by decide +kernel
theorem dX4_makeRow_34 : decode cX4_makeRow 34 = .ok (.iconst 0, 1) := by decide +kernel
theorem dX4_makeRow_35 : decode cX4_makeRow 35 = .ok (.iastore, 1) := by decide +kernel
theorem dX4_makeRow_36 : decode cX4_makeRow 36 = .ok (.iinc 3 1, 3) := by decide +kernel
theorem dX4_makeRow_39 : decode cX4_makeRow 39 = .ok (.goto (-18), 3) := by decide +kernel
theorem dX4_makeRow_42 : decode cX4_makeRow 42 = .ok (.return_, 1) := by decide +kernel
theorem dX4_hasCell_0 : decode cX4_hasCell 0 = .ok (.iload_n 1, 1) := by decide +kernel
theorem dX4_hasCell_1 : decode cX4_hasCell 1 = .ok (.ifCond .lt 15, 3) := by decide +kernel
theorem dX4_hasCell_4 : decode cX4_hasCell 4 = .ok (.iload_n 1, 1) := by decide +kernel
theorem dX4_hasCell_5 : decode cX4_hasCell 5 = .ok (.aload_n 0, 1) := by decide +kernel
theorem dX4_hasCell_6 : decode cX4_hasCell 6 = .ok (.getfield 15, 3) := by decide +kernel
theorem dX4_hasCell_9 : decode cX4_hasCell 9 = .ok (.if_icmp .ge 7, 3) := by decide +kernel
theorem dX4_hasCell_12 : decode cX4_hasCell 12 = .ok (.iconst 1, 1) := by decide +kernel
theorem dX4_hasCell_13 : decode cX4_hasCell 13 = .ok (.goto 4, 3) := by decide +kernel
theorem dX4_hasCell_16 : decode cX4_hasCell 16 = .ok (.iconst 0, 1) := by decide +kernel
theorem dX4_hasCell_17 : decode cX4_hasCell 17 = .ok (.ireturn, 1) := by decide +kernel
theorem dX4_spans_0 : decode cX4_spans 0 = .ok (.iload_n 2, 1) := by decide +kernel
theorem dX4_spans_1 : decode cX4_spans 1 = .ok (.ifCond .lt 29, 3) := by decide +kernel
theorem dX4_spans_4 : decode cX4_spans 4 = .ok (.iload_n 1, 1) := by decide +kernel
theorem dX4_spans_5 : decode cX4_spans 5 = .ok (.ifCond .lt 25, 3) := by decide +kernel
theorem dX4_spans_8 : decode cX4_spans 8 = .ok (.iload_n 1, 1) := by decide +kernel
theorem dX4_spans_9 : decode cX4_spans 9 = .ok (.aload_n 0, 1) := by decide +kernel
theorem dX4_spans_10 : decode cX4_spans 10 = .ok (.getfield 15, 3) := by decide +kernel
theorem dX4_spans_13 : decode cX4_spans 13 = .ok (.if_icmp .gt 17, 3) := by decide +kernel
theorem dX4_spans_16 : decode cX4_spans 16 = .ok (.iload_n 2, 1) := by decide +kernel
theorem dX4_spans_17 : decode cX4_spans 17 = .ok (.aload_n 0, 1) := by decide +kernel
theorem dX4_spans_18 : decode cX4_spans 18 = .ok (.getfield 15, 3) := by decide +kernel
theorem dX4_spans_21 : decode cX4_spans 21 = .ok (.iload_n 1, 1) := by decide +kernel
theorem dX4_spans_22 : decode cX4_spans 22 = .ok (.isub, 1) := by decide +kernel
theorem dX4_spans_23 : decode cX4_spans 23 = .ok (.if_icmp .gt 7, 3) := by decide +kernel
theorem dX4_spans_26 : decode cX4_spans 26 = .ok (.iconst 1, 1) := by decide +kernel
theorem dX4_spans_27 : decode cX4_spans 27 = .ok (.goto 4, 3) := by decide +kernel
theorem dX4_spans_30 : decode cX4_spans 30 = .ok (.iconst 0, 1) := by decide +kernel
theorem dX4_spans_31 : decode cX4_spans 31 = .ok (.ireturn, 1) := by decide +kernel
set_option maxRecDepth 20000 in
theorem ggX4_read_X4_hasCell : GoodIn wsX4_read wsX4_hasCell := goodIn_r _ [6, 7, 8, 9, 10] (by decide +kernel) (by decide +kernel)
set_option maxRecDepth 20000 in
theorem gX4_read_X4_hasCell : GoodIn wsX4_read (wsV RX4 31 RX4 yX4_hasCell wsX4_hasCell) := goodIn_app (goodIn_of _ (by decide +kernel)) ggX4_read_X4_hasCell
theorem dX4_read_0 : decode cX4_read 0 = .ok (.aload_n 0, 1) := by decide +kernel
theorem dX4_read_1 : decode cX4_read 1 = .ok (.iload_n 1, 1) := by decide +kernel
theorem dX4_read_2 : decode cX4_read 2 = .ok (.invokevirtual 31, 3) := by decide +kernel
theorem dX4_read_5 : decode cX4_read 5 = .ok (.ifCond .eq 12, 3) := by decide +kernel
theorem dX4_read_8 : decode cX4_read 8 = .ok (.aload_n 0, 1) := by decide +kernel
theorem dX4_read_9 : decode cX4_read 9 = .ok (.getfield 18, 3) := by decide +kernel
theorem dX4_read_12 : decode cX4_read 12 = .ok (.iload_n 1, 1) := by decide +kernel
theorem dX4_read_13 : decode cX4_read 13 = .ok (.iaload, 1) := by decide +kernel
theorem dX4_read_14 : decode cX4_read 14 = .ok (.goto 4, 3) := by decide +kernel
theorem dX4_read_17 : decode cX4_read 17 = .ok (.iconst 0, 1) := by decide +kernel
theorem dX4_read_18 : decode cX4_read 18 = .ok (.ireturn, 1) := by decide +kernel
set_option maxRecDepth 20000 in
theorem ggX4_write_X4_hasCell : GoodIn wsX4_write wsX4_hasCell := goodIn_r _ [7, 8, 9, 10, 11] (by decide +kernel) (by decide +kernel)
set_option maxRecDepth 20000 in
theorem gX4_write_X4_hasCell : GoodIn wsX4_write (wsV RX4 31 RX4 yX4_hasCell wsX4_hasCell) := goodIn_app (goodIn_of _ (by decide +kernel)) ggX4_write_X4_hasCell
theorem dX4_write_0 : decode cX4_write 0 = .ok (.aload_n 0, 1) := by decide +kernel
theorem dX4_write_1 : decode cX4_write 1 = .ok (.iload_n 1, 1) := by decide +kernel
theorem dX4_write_2 : decode cX4_write 2 = .ok (.invokevirtual 31, 3) := by decide +kernel
theorem dX4_write_5 : decode cX4_write 5 = .ok (.ifCond .ne 4, 3) := by decide +kernel
theorem dX4_write_8 : decode cX4_write 8 = .ok (.return_, 1) := by decide +kernel
theorem dX4_write_9 : decode cX4_write 9 = .ok (.aload_n 0, 1) := by decide +kernel
theorem dX4_write_10 : decode cX4_write 10 = .ok (.getfield 11, 3) := by decide +kernel
theorem dX4_write_13 : decode cX4_write 13 = .ok (.ifCond .ne 14, 3) := by decide +kernel
theorem dX4_write_16 : decode cX4_write 16 = .ok (.aload_n 0, 1) := by decide +kernel
theorem dX4_write_17 : decode cX4_write 17 = .ok (.getfield 18, 3) := by decide +kernel
theorem dX4_write_20 : decode cX4_write 20 = .ok (.iload_n 1, 1) := by decide +kernel
theorem dX4_write_21 : decode cX4_write 21 = .ok (.iload_n 2, 1) := by decide +kernel
theorem dX4_write_22 : decode cX4_write 22 = .ok (.i2b, 1) := by decide +kernel
theorem dX4_write_23 : decode cX4_write 23 = .ok (.iastore, 1) := by decide +kernel
theorem dX4_write_24 : decode cX4_write 24 = .ok (.goto 29, 3) := by decide +kernel
theorem dX4_write_27 : decode cX4_write 27 = .ok (.aload_n 0, 1) := by decide +kernel
theorem dX4_write_28 : decode cX4_write 28 = .ok (.getfield 11, 3) := by decide +kernel
theorem dX4_write_31 : decode cX4_write 31 = .ok (.iconst 1, 1) := by decide +kernel
theorem dX4_write_32 : decode cX4_write 32 = .ok (.if_icmp .ne 14, 3) := by decide +kernel
theorem dX4_write_35 : decode cX4_write 35 = .ok (.aload_n 0, 1) := by decide +kernel
theorem dX4_write_36 : decode cX4_write 36 = .ok (.getfield 18, 3) := by decide +kernel
theorem dX4_write_39 : decode cX4_write 39 = .ok (.iload_n 1, 1) := by decide +kernel
theorem dX4_write_40 : decode cX4_write 40 = .ok (.iload_n 2, 1) := by decide +kernel
theorem dX4_write_41 : decode cX4_write 41 = .ok (.i2s, 1) := by decide +kernel
theorem dX4_write_42 : decode cX4_write 42 = .ok (.iastore, 1) := by decide +kernel
theorem dX4_write_43 : decode cX4_write 43 = .ok (.goto 10, 3) := by decide +kernel
theorem dX4_write_46 : decode cX4_write 46 = .ok (.aload_n 0, 1) := by decide +kernel
theorem dX4_write_47 : decode cX4_write 47 = .ok (.getfield 18, 3) := by decide +kernel
theorem dX4_write_50 : decode cX4_write 50 = .ok (.iload_n 1, 1) := by decide +kernel
theorem dX4_write_51 : decode cX4_write 51 = .ok (.iload_n 2, 1) := by decide +kernel
theorem dX4_write_52 : decode cX4_write 52 = .ok (.iastore, 1) := by decide +kernel
theorem dX4_write_53 : decode cX4_write 53 = .ok (.return_, 1) := by decide +kernel
theorem dX5_init_0 : decode cX5_init 0 = .ok (.aload_n 0, 1) := by decide +kernel
theorem dX5_init_1 : decode cX5_init 1 = .ok (.invokespecial 3, 3) := by decide +kernel
theorem dX5_init_4 : decode cX5_init 4 = .ok (.aload_n 0, 1) := by decide +kernel
theorem dX5_init_5 : decode cX5_init 5 = .ok (.iconst 0, 1) := by decide +kernel
theorem dX5_init_6 : decode cX5_init 6 = .ok (.putfield 9, 3) := by decide +kernel
theorem dX5_init_9 : decode cX5_init 9 = .ok (.aload_n 0, 1) := by decide +kernel
theorem dX5_init_10 : decode cX5_init 10 = .ok (.iconst 0, 1) := by decide +kernel
theorem dX5_init_11 : decode cX5_init 11 = .ok (.putfield 15, 3) := by decide +kernel
theorem dX5_init_14 : decode cX5_init 14 = .ok (.aload_n 0, 1) := by decide +kernel
theorem dX5_init_15 : decode cX5_init 15 = .ok (.iconst 0, 1) := by decide +kernel
theorem dX5_init_16 : decode cX5_init 16 = .ok (.putfield 18, 3) := by decide +kernel
theorem dX5_init_19 : decode cX5_init 19 = .ok (.aload_n 0, 1) := by decide +kernel
theorem dX5_init_20 : decode cX5_init 20 = .ok (.bipush 6, 2) := by decide +kernel
theorem dX5_init_22 : decode cX5_init 22 = .ok (.anewarray 21, 3) := by decide +kernel
theorem dX5_init_25 : decode cX5_init 25 = .ok (.putfield 23, 3) := by decide +kernel
theorem dX5_init_28 : decode cX5_init 28 = .ok (.aload_n 0, 1) := by decide +kernel
theorem dX5_init_29 : decode cX5_init 29 = .ok (.bipush 6, 2) := by decide +kernel
theorem dX5_init_31 : decode cX5_init 31 = .ok (.newarray .int, 2) := by decide +kernel
theorem dX5_init_33 : decode cX5_init 33 = .ok (.putfield 27, 3) := by decide +kernel
theorem dX5_init_36 : decode cX5_init 36 = .ok (.aload_n 0, 1) := by decide +kernel
theorem dX5_init_37 : decode cX5_init 37 = .ok (.bipush 6, 2) := by decide +kernel
theorem dX5_init_39 : decode cX5_init 39 = .ok (.newarray .int, 2) := by decide +kernel
theorem dX5_init_41 : decode cX5_init 41 = .ok (.putfield 31, 3) := by decide +kernel
theorem dX5_init_44 : decode cX5_init 44 = .ok (.aload_n 0, 1) := by decide +kernel
theorem dX5_init_45 : decode cX5_init 45 = .ok (.bipush 6, 2) := by decide +kernel
theorem dX5_init_47 : decode cX5_init 47 = .ok (.newarray .int, 2) := by decide +kernel
theorem dX5_init_49 : decode cX5_init 49 = .ok (.putfield 34, 3) := by decide +kernel
theorem dX5_init_52 : decode cX5_init 52 = .ok (.aload_n 0, 1) := by decide +kernel
theorem dX5_init_53 : decode cX5_init 53 = .ok (.bipush 6, 2) := by decide +kernel
theorem dX5_init_55 : decode cX5_init 55 = .ok (.newarray .int, 2) := by decide +kernel
theorem dX5_init_57 : decode cX5_init 57 = .ok (.putfield 37, 3) := by decide +kernel
theorem dX5_init_60 : decode cX5_init 60 = .ok (.return_, 1) := by decide +kernel
theorem dX5_empty_0 : decode cX5_empty 0 = .ok (.aload_n 0, 1) := by decide +kernel
theorem dX5_empty_1 : decode cX5_empty 1 = .ok (.iconst 0, 1) := by decide +kernel
theorem dX5_empty_2 : decode cX5_empty 2 = .ok (.putfield 9, 3) := by decide +kernel
theorem dX5_empty_5 : decode cX5_empty 5 = .ok (.aload_n 0, 1) := by decide +kernel
theorem dX5_empty_6 : decode cX5_empty 6 = .ok (.iload_n 1, 1) := by decide +kernel
theorem dX5_empty_7 : decode cX5_empty 7 = .ok (.putfield 15, 3) := by decide +kernel
theorem dX5_empty_10 : decode cX5_empty 10 = .ok (.return_, 1) := by decide +kernel
theorem dX5_addThing_0 : decode cX5_addThing 0 = .ok (.aload_n 0, 1) := by decide +kernel
theorem dX5_addThing_1 : decode cX5_addThing 1 = .ok (.getfield 9, 3) := by decide +kernel
theorem dX5_addThing_4 : decode cX5_addThing 4 = .ok (.bipush 6, 2) := by decide +kernel
theorem dX5_addThing_6 : decode cX5_addThing 6 = .ok (.if_icmp .lt 4, 3) := by decide +kernel
theorem dX5_addThing_9 : decode cX5_addThing 9 = .ok (.return_, 1) := by decide +kernel
theorem dX5_addThing_10 : decode cX5_addThing 10 = .ok (.aload_n 0, 1) := by decide +kernel
theorem dX5_addThing_11 : decode cX5_addThing 11 = .ok (.getfield 23, 3) := by decide +kernel
theorem dX5_addThing_14 : decode cX5_addThing 14 = .ok (.aload_n 0, 1) := by decide +kernel
theorem dX5_addThing_15 : decode cX5_addThing 15 = .ok (.getfield 9, 3) := by decide +kernel
theorem dX5_addThing_18 : decode cX5_addThing 18 = .ok (.aload_n 1, 1) := by decide +kernel
theorem dX5_addThing_19 : decode cX5_addThing 19 = .ok (.aastore, 1) := by decide +kernel
theorem dX5_addThing_20 : decode cX5_addThing 20 = .ok (.aload_n 0, 1) := by decide +kernel
theorem dX5_addThing_21 : decode cX5_addThing 21 = .ok (.getfield 27, 3) := by decide +kernel
theorem dX5_addThing_24 : decode cX5_addThing 24 = .ok (.aload_n 0, 1) := by decide +kernel
theorem dX5_addThing_25 : decode cX5_addThing 25 = .ok (.getfield 9, 3) := by decide +kernel
theorem dX5_addThing_28 : decode cX5_addThing 28 = .ok (.aload_n 1, 1) := by decide +kernel
theorem dX5_addThing_29 : decode cX5_addThing 29 = .ok (.getfield 40, 3) := by decide +kernel
theorem dX5_addThing_32 : decode cX5_addThing 32 = .ok (.iastore, 1) := by decide +kernel
theorem dX5_addThing_33 : decode cX5_addThing 33 = .ok (.aload_n 0, 1) := by decide +kernel
theorem dX5_addThing_34 : decode cX5_addThing 34 = .ok (.getfield 31, 3) := by decide +kernel
theorem dX5_addThing_37 : decode cX5_addThing 37 = .ok (.aload_n 0, 1) := by decide +kernel
theorem dX5_addThing_38 : decode cX5_addThing 38 = .ok (.getfield 9, 3) := by decide +kernel
theorem dX5_addThing_41 : decode cX5_addThing 41 = .ok (.aload_n 1, 1) := by decide +kernel
theorem dX5_addThing_42 : decode cX5_addThing 42 = .ok (.getfield 43, 3) := by decide +kernel
theorem dX5_addThing_45 : decode cX5_addThing 45 = .ok (.iastore, 1) := by decide +kernel
theorem dX5_addThing_46 : decode cX5_addThing 46 = .ok (.aload_n 0, 1) := by decide +kernel
theorem dX5_addThing_47 : decode cX5_addThing 47 = .ok (.getfield 34, 3) := by decide +kernel
theorem dX5_addThing_50 : decode cX5_addThing 50 = .ok (.aload_n 0, 1) := by decide +kernel
theorem dX5_addThing_51 : decode cX5_addThing 51 = .ok (.getfield 9, 3) := by decide +kernel
theorem dX5_addThing_54 : decode cX5_addThing 54 = .ok (.aload_n 1, 1) := by decide +kernel
theorem dX5_addThing_55 : decode cX5_addThing 55 = .ok (.getfield 46, 3) := by decide +kernel
theorem dX5_addThing_58 : decode cX5_addThing 58 = .ok (.iastore, 1) := by decide +kernel
theorem dX5_addThing_59 : decode cX5_addThing 59 = .ok (.aload_n 0, 1) := by decide +kernel
theorem dX5_addThing_60 : decode cX5_addThing 60 = .ok (.dup, 1) := by decide +kernel
theorem dX5_addThing_61 : decode cX5_addThing 61 = .ok (.getfield 9, 3) := by decide +kernel
theorem dX5_addThing_64 : decode cX5_addThing 64 = .ok (.iconst 1, 1) := by decide +kernel
theorem dX5_addThing_65 : decode cX5_addThing 65 = .ok (.iadd, 1) := by decide +kernel
theorem dX5_addThing_66 : decode cX5_addThing 66 = .ok (.putfield 9, 3) := by decide +kernel
theorem dX5_addThing_69 : decode cX5_addThing 69 = .ok (.return_, 1) := by decide +kernel
set_option maxRecDepth 20000 in
theorem ggX5_becomeRusty_X0_holdsBy : GoodIn wsX5_becomeRusty wsX0_holdsBy := goodIn_r _ [11, 12, 13, 14, 15, 16, 17, 18, 6, 19, 20, 21, 22, 23, 24, 25, 26, 27, 39, 40, 41, 42, 43, 44, 45, 46, 47, 48, 49, 50, 51, 52, 53] (by decide +kernel) (by decide +kernel)
set_option maxRecDepth 20000 in
theorem gX5_becomeRusty_X0_holdsBy_u49X0 : GoodIn wsX5_becomeRusty (va_wsO RX5 49 RX0 "OneNail$Thing" ⟨"OneNail$Thing", "holdsBy", "(I)I"⟩ yX0_holdsBy wsX0_holdsBy) := goodIn_app (goodIn_of _ (by decide +kernel)) ggX5_becomeRusty_X0_holdsBy
set_option maxRecDepth 20000 in
theorem ggX5_becomeRusty_X1_holdsBy : GoodIn wsX5_becomeRusty wsX1_holdsBy := goodIn_r _ [17, 18, 6, 19, 20, 21, 22, 23, 24, 25, 26, 27, 39, 40, 41, 42, 43, 44, 45, 46, 47, 48, 49, 50, 51, 52, 53] (by decide +kernel) (by decide +kernel)
set_option maxRecDepth 20000 in
theorem gX5_becomeRusty_X1_holdsBy_u49X1 : GoodIn wsX5_becomeRusty (va_wsO RX5 49 RX1 "OneNail$Thing" ⟨"OneNail$Thing", "holdsBy", "(I)I"⟩ yX1_holdsBy wsX1_holdsBy) := goodIn_app (goodIn_of _ (by decide +kernel)) ggX5_becomeRusty_X1_holdsBy
set_option maxRecDepth 20000 in
theorem ggX5_becomeRusty_X6_holdsBy : GoodIn wsX5_becomeRusty wsX6_holdsBy := goodIn_r _ [22, 23, 24, 25, 26, 27, 39, 40, 41, 42, 43, 44, 45, 46, 47, 48, 49, 50, 51, 52, 53] (by decide +kernel) (by decide +kernel)
set_option maxRecDepth 20000 in
theorem gX5_becomeRusty_X6_holdsBy : GoodIn wsX5_becomeRusty (wsV RX5 49 RX6 yX6_holdsBy wsX6_holdsBy) := goodIn_app (goodIn_of _ (by decide +kernel)) ggX5_becomeRusty_X6_holdsBy
theorem dX5_becomeRusty_0 : decode cX5_becomeRusty 0 = .ok (.aload_n 0, 1) := by decide +kernel
theorem dX5_becomeRusty_1 : decode cX5_becomeRusty 1 = .ok (.iload_n 1, 1) := by decide +kernel
theorem dX5_becomeRusty_2 : decode cX5_becomeRusty 2 = .ok (.putfield 18, 3) := by decide +kernel
theorem dX5_becomeRusty_5 : decode cX5_becomeRusty 5 = .ok (.iconst 0, 1) := by decide +kernel
theorem dX5_becomeRusty_6 : decode cX5_becomeRusty 6 = .ok (.istore_n 2, 1) := by decide +kernel
theorem dX5_becomeRusty_7 : decode cX5_becomeRusty 7 = .ok (.iload_n 2, 1) := by decide +kernel
theorem dX5_becomeRusty_8 : decode cX5_becomeRusty 8 = .ok (.aload_n 0, 1) := by decide +kernel
theorem dX5_becomeRusty_9 : decode cX5_becomeRusty 9 = .ok (.getfield 9, 3) := by decide +kernel
theorem dX5_becomeRusty_12 : decode cX5_becomeRusty 12 = .ok (.if_icmp .ge 31, 3) := by decide +kernel
theorem dX5_becomeRusty_15 : decode cX5_becomeRusty 15 = .ok (.aload_n 0, 1) := by decide +kernel
theorem dX5_becomeRusty_16 : decode cX5_becomeRusty 16 = .ok (.getfield 23, 3) := by decide +kernel
theorem dX5_becomeRusty_19 : decode cX5_becomeRusty 19 = .ok (.iload_n 2, 1) := by decide +kernel
theorem dX5_becomeRusty_20 : decode cX5_becomeRusty 20 = .ok (.aaload, 1) := by decide +kernel
theorem dX5_becomeRusty_21 : decode cX5_becomeRusty 21 = .ok (.astore_n 3, 1) := by decide +kernel
theorem dX5_becomeRusty_22 : decode cX5_becomeRusty 22 = .ok (.aload_n 3, 1) := by decide +kernel
theorem dX5_becomeRusty_23 : decode cX5_becomeRusty 23 = .ok (.ifnull 14, 3) := by decide +kernel
theorem dX5_becomeRusty_26 : decode cX5_becomeRusty 26 = .ok (.aload_n 0, 1) := by decide +kernel
theorem dX5_becomeRusty_27 : decode cX5_becomeRusty 27 = .ok (.getfield 37, 3) := by decide +kernel
theorem dX5_becomeRusty_30 : decode cX5_becomeRusty 30 = .ok (.iload_n 2, 1) := by decide +kernel
theorem dX5_becomeRusty_31 : decode cX5_becomeRusty 31 = .ok (.aload_n 3, 1) := by decide +kernel
theorem dX5_becomeRusty_32 : decode cX5_becomeRusty 32 = .ok (.iload_n 1, 1) := by decide +kernel
theorem dX5_becomeRusty_33 : decode cX5_becomeRusty 33 = .ok (.invokevirtual 49, 3) := by decide +kernel
theorem dX5_becomeRusty_36 : decode cX5_becomeRusty 36 = .ok (.iastore, 1) := by decide +kernel
theorem dX5_becomeRusty_37 : decode cX5_becomeRusty 37 = .ok (.iinc 2 1, 3) := by decide +kernel
theorem dX5_becomeRusty_40 : decode cX5_becomeRusty 40 = .ok (.goto (-33), 3) := by decide +kernel
theorem dX5_becomeRusty_43 : decode cX5_becomeRusty 43 = .ok (.return_, 1) := by decide +kernel
theorem dX5_has_0 : decode cX5_has 0 = .ok (.iload_n 1, 1) := by decide +kernel
theorem dX5_has_1 : decode cX5_has 1 = .ok (.ifCond .lt 15, 3) := by decide +kernel
theorem dX5_has_4 : decode cX5_has 4 = .ok (.iload_n 1, 1) := by decide +kernel
theorem dX5_has_5 : decode cX5_has 5 = .ok (.aload_n 0, 1) := by decide +kernel
theorem dX5_has_6 : decode cX5_has 6 = .ok (.getfield 9, 3) := by decide +kernel
theorem dX5_has_9 : decode cX5_has 9 = .ok (.if_icmp .ge 7, 3) := by decide +kernel
theorem dX5_has_12 : decode cX5_has 12 = .ok (.iconst 1, 1) := by decide +kernel
theorem dX5_has_13 : decode cX5_has 13 = .ok (.goto 4, 3) := by decide +kernel
theorem dX5_has_16 : decode cX5_has 16 = .ok (.iconst 0, 1) := by decide +kernel
theorem dX5_has_17 : decode cX5_has 17 = .ok (.ireturn, 1) := by decide +kernel
set_option maxRecDepth 20000 in
theorem ggX5_thingAt_X5_has : GoodIn wsX5_thingAt wsX5_has := goodIn_r _ [6, 7, 8, 9, 10, 11, 12, 13, 14, 15] (by decide +kernel) (by decide +kernel)
set_option maxRecDepth 20000 in
theorem gX5_thingAt_X5_has : GoodIn wsX5_thingAt (wsV RX5 53 RX5 yX5_has wsX5_has) := goodIn_app (goodIn_of _ (by decide +kernel)) ggX5_thingAt_X5_has
theorem dX5_thingAt_0 : decode cX5_thingAt 0 = .ok (.aload_n 0, 1) := by decide +kernel
theorem dX5_thingAt_1 : decode cX5_thingAt 1 = .ok (.iload_n 1, 1) := by decide +kernel
theorem dX5_thingAt_2 : decode cX5_thingAt 2 = .ok (.invokevirtual 53, 3) := by decide +kernel
theorem dX5_thingAt_5 : decode cX5_thingAt 5 = .ok (.ifCond .eq 12, 3) := by decide +kernel
theorem dX5_thingAt_8 : decode cX5_thingAt 8 = .ok (.aload_n 0, 1) := by decide +kernel
theorem dX5_thingAt_9 : decode cX5_thingAt 9 = .ok (.getfield 23, 3) := by decide +kernel
theorem dX5_thingAt_12 : decode cX5_thingAt 12 = .ok (.iload_n 1, 1) := by decide +kernel
theorem dX5_thingAt_13 : decode cX5_thingAt 13 = .ok (.aaload, 1) := by decide +kernel
theorem dX5_thingAt_14 : decode cX5_thingAt 14 = .ok (.goto 4, 3) := by decide +kernel
theorem dX5_thingAt_17 : decode cX5_thingAt 17 = .ok (.aconst_null, 1) := by decide +kernel
theorem dX5_thingAt_18 : decode cX5_thingAt 18 = .ok (.areturn, 1) := by decide +kernel
theorem dX5_all_0 : decode cX5_all 0 = .ok (.iconst 1, 1) := by decide +kernel
theorem dX5_all_1 : decode cX5_all 1 = .ok (.aload_n 0, 1) := by decide +kernel
theorem dX5_all_2 : decode cX5_all 2 = .ok (.getfield 9, 3) := by decide +kernel
theorem dX5_all_5 : decode cX5_all 5 = .ok (.ishl, 1) := by decide +kernel
theorem dX5_all_6 : decode cX5_all 6 = .ok (.iconst 1, 1) := by decide +kernel
theorem dX5_all_7 : decode cX5_all 7 = .ok (.isub, 1) := by decide +kernel
theorem dX5_all_8 : decode cX5_all 8 = .ok (.ireturn, 1) := by decide +kernel
theorem dX6_init_0 : decode cX6_init 0 = .ok (.aload_n 0, 1) := by decide +kernel
theorem dX6_init_1 : decode cX6_init 1 = .ok (.invokespecial 1, 3) := by decide +kernel
theorem dX6_init_4 : decode cX6_init 4 = .ok (.aload_n 0, 1) := by decide +kernel
theorem dX6_init_5 : decode cX6_init 5 = .ok (.iload_n 1, 1) := by decide +kernel
theorem dX6_init_6 : decode cX6_init 6 = .ok (.putfield 7, 3) := by decide +kernel
theorem dX6_init_9 : decode cX6_init 9 = .ok (.aload_n 0, 1) := by decide +kernel
theorem dX6_init_10 : decode cX6_init 10 = .ok (.iload_n 2, 1) := by decide +kernel
theorem dX6_init_11 : decode cX6_init 11 = .ok (.putfield 13, 3) := by decide +kernel
theorem dX6_init_14 : decode cX6_init 14 = .ok (.aload_n 0, 1) := by decide +kernel
theorem dX6_init_15 : decode cX6_init 15 = .ok (.iload_n 3, 1) := by decide +kernel
theorem dX6_init_16 : decode cX6_init 16 = .ok (.putfield 16, 3) := by decide +kernel
theorem dX6_init_19 : decode cX6_init 19 = .ok (.aload_n 0, 1) := by decide +kernel
theorem dX6_init_20 : decode cX6_init 20 = .ok (.iload 4, 2) := by decide +kernel
theorem dX6_init_22 : decode cX6_init 22 = .ok (.putfield 19, 3) := by decide +kernel
theorem dX6_init_25 : decode cX6_init 25 = .ok (.aload_n 0, 1) := by decide +kernel
theorem dX6_init_26 : decode cX6_init 26 = .ok (.iload 5, 2) := by decide +kernel
theorem dX6_init_28 : decode cX6_init 28 = .ok (.putfield 22, 3) := by decide +kernel
theorem dX6_init_31 : decode cX6_init 31 = .ok (.return_, 1) := by decide +kernel
theorem dX6_kindNumber_0 : decode cX6_kindNumber 0 = .ok (.iconst 0, 1) := by decide +kernel
theorem dX6_kindNumber_1 : decode cX6_kindNumber 1 = .ok (.ireturn, 1) := by decide +kernel
theorem dX6_holdsBy_0 : decode cX6_holdsBy 0 = .ok (.iconst 1, 1) := by decide +kernel
theorem dX6_holdsBy_1 : decode cX6_holdsBy 1 = .ok (.aload_n 0, 1) := by decide +kernel
theorem dX6_holdsBy_2 : decode cX6_holdsBy 2 = .ok (.getfield 19, 3) := by decide +kernel
theorem dX6_holdsBy_5 : decode cX6_holdsBy 5 = .ok (.iload_n 1, 1) := by decide +kernel
theorem dX6_holdsBy_6 : decode cX6_holdsBy 6 = .ok (.isub, 1) := by decide +kernel
theorem dX6_holdsBy_7 : decode cX6_holdsBy 7 = .ok (.invokestatic 25, 3) := by decide +kernel
theorem dX6_holdsBy_10 : decode cX6_holdsBy 10 = .ok (.ireturn, 1) := by decide +kernel
set_option maxRecDepth 20000 in
theorem ggX6_telling_X6_plainTelling : GoodIn wsX6_telling wsX6_plainTelling := goodIn_r _ [6, 7, 8, 9, 10, 11, 12, 13, 17, 18, 19, 20, 21, 22, 23, 24, 25, 26, 27, 28, 29, 30, 31, 32] (by decide +kernel) (by decide +kernel)
set_option maxRecDepth 20000 in
theorem gX6_telling_X6_plainTelling_u31X0 : GoodIn wsX6_telling (va_wsU RX6 31 RX0 "OneNail$Thing" ⟨"OneNail$Thing", "plainTelling", "(LOneNail$Trace;)I"⟩ yX6_plainTelling wsX6_plainTelling) := goodIn_app (goodIn_of _ (by decide +kernel)) ggX6_telling_X6_plainTelling
set_option maxRecDepth 20000 in
theorem gX6_telling_X6_plainTelling_u31X1 : GoodIn wsX6_telling (va_wsU RX6 31 RX1 "OneNail$Thing" ⟨"OneNail$Thing", "plainTelling", "(LOneNail$Trace;)I"⟩ yX6_plainTelling wsX6_plainTelling) := goodIn_app (goodIn_of _ (by decide +kernel)) ggX6_telling_X6_plainTelling
set_option maxRecDepth 20000 in
theorem gX6_telling_X6_plainTelling : GoodIn wsX6_telling (wsV RX6 31 RX6 yX6_plainTelling wsX6_plainTelling) := goodIn_app (goodIn_of _ (by decide +kernel)) ggX6_telling_X6_plainTelling
theorem dX6_telling_0 : decode cX6_telling 0 = .ok (.aload_n 0, 1) := by decide +kernel
theorem dX6_telling_1 : decode cX6_telling 1 = .ok (.aload_n 1, 1) := by decide +kernel
theorem dX6_telling_2 : decode cX6_telling 2 = .ok (.invokevirtual 31, 3) := by decide +kernel
theorem dX6_telling_5 : decode cX6_telling 5 = .ok (.ireturn, 1) := by decide +kernel
set_option maxRecDepth 20000 in
theorem ggX6_plainTelling_X7_leave : GoodIn wsX6_plainTelling wsX7_leave := goodIn_r _ [6, 7, 23] (by decide +kernel) (by decide +kernel)
set_option maxRecDepth 20000 in
theorem gX6_plainTelling_X7_leave : GoodIn wsX6_plainTelling (wsV RX6 35 RX7 yX7_leave wsX7_leave) := goodIn_app (goodIn_of _ (by decide +kernel)) ggX6_plainTelling_X7_leave
theorem dX6_plainTelling_0 : decode cX6_plainTelling 0 = .ok (.aload_n 1, 1) := by decide +kernel
theorem dX6_plainTelling_1 : decode cX6_plainTelling 1 = .ok (.iconst 1, 1) := by decide +kernel
theorem dX6_plainTelling_2 : decode cX6_plainTelling 2 = .ok (.invokevirtual 35, 3) := by decide +kernel
theorem dX6_plainTelling_5 : decode cX6_plainTelling 5 = .ok (.aload_n 0, 1) := by decide +kernel
theorem dX6_plainTelling_6 : decode cX6_plainTelling 6 = .ok (.getfield 19, 3) := by decide +kernel
theorem dX6_plainTelling_9 : decode cX6_plainTelling 9 = .ok (.ireturn, 1) := by decide +kernel
set_option maxRecDepth 20000 in
theorem ggX6_struck_X7_leave : GoodIn wsX6_struck wsX7_leave := goodIn_r _ [6, 7, 23] (by decide +kernel) (by decide +kernel)
set_option maxRecDepth 20000 in
theorem gX6_struck_X7_leave : GoodIn wsX6_struck (wsV RX6 35 RX7 yX7_leave wsX7_leave) := goodIn_app (goodIn_of _ (by decide +kernel)) ggX6_struck_X7_leave
theorem dX6_struck_0 : decode cX6_struck 0 = .ok (.aload_n 1, 1) := by decide +kernel
theorem dX6_struck_1 : decode cX6_struck 1 = .ok (.iconst 4, 1) := by decide +kernel
theorem dX6_struck_2 : decode cX6_struck 2 = .ok (.invokevirtual 35, 3) := by decide +kernel
theorem dX6_struck_5 : decode cX6_struck 5 = .ok (.aload_n 0, 1) := by decide +kernel
theorem dX6_struck_6 : decode cX6_struck 6 = .ok (.getfield 7, 3) := by decide +kernel
theorem dX6_struck_9 : decode cX6_struck 9 = .ok (.ireturn, 1) := by decide +kernel
theorem dX7_init_0 : decode cX7_init 0 = .ok (.aload_n 0, 1) := by decide +kernel
theorem dX7_init_1 : decode cX7_init 1 = .ok (.invokespecial 1, 3) := by decide +kernel
theorem dX7_init_4 : decode cX7_init 4 = .ok (.aload_n 0, 1) := by decide +kernel
theorem dX7_init_5 : decode cX7_init 5 = .ok (.iconst 0, 1) := by decide +kernel
theorem dX7_init_6 : decode cX7_init 6 = .ok (.putfield 7, 3) := by decide +kernel
theorem dX7_init_9 : decode cX7_init 9 = .ok (.return_, 1) := by decide +kernel
theorem dX7_leave_0 : decode cX7_leave 0 = .ok (.aload_n 0, 1) := by decide +kernel
theorem dX7_leave_1 : decode cX7_leave 1 = .ok (.bipush 31, 2) := by decide +kernel
theorem dX7_leave_3 : decode cX7_leave 3 = .ok (.aload_n 0, 1) := by decide +kernel
theorem dX7_leave_4 : decode cX7_leave 4 = .ok (.getfield 7, 3) := by decide +kernel
theorem dX7_leave_7 : decode cX7_leave 7 = .ok (.imul, 1) := by decide +kernel
theorem dX7_leave_8 : decode cX7_leave 8 = .ok (.iload_n 1, 1) := by decide +kernel
theorem dX7_leave_9 : decode cX7_leave 9 = .ok (.iadd, 1) := by decide +kernel
theorem dX7_leave_10 : decode cX7_leave 10 = .ok (.putfield 7, 3) := by decide +kernel
theorem dX7_leave_13 : decode cX7_leave 13 = .ok (.return_, 1) := by decide +kernel
theorem dX8_init_0 : decode cX8_init 0 = .ok (.aload_n 0, 1) := by decide +kernel
theorem dX8_init_1 : decode cX8_init 1 = .ok (.invokespecial 3, 3) := by decide +kernel
theorem dX8_init_4 : decode cX8_init 4 = .ok (.aload_n 0, 1) := by decide +kernel
theorem dX8_init_5 : decode cX8_init 5 = .ok (.bipush 8, 2) := by decide +kernel
theorem dX8_init_7 : decode cX8_init 7 = .ok (.newarray .int, 2) := by decide +kernel
theorem dX8_init_9 : decode cX8_init 9 = .ok (.putfield 9, 3) := by decide +kernel
theorem dX8_init_12 : decode cX8_init 12 = .ok (.aload_n 0, 1) := by decide +kernel
theorem dX8_init_13 : decode cX8_init 13 = .ok (.iconst 0, 1) := by decide +kernel
theorem dX8_init_14 : decode cX8_init 14 = .ok (.putfield 15, 3) := by decide +kernel
theorem dX8_init_17 : decode cX8_init 17 = .ok (.aload_n 0, 1) := by decide +kernel
theorem dX8_init_18 : decode cX8_init 18 = .ok (.bipush 6, 2) := by decide +kernel
theorem dX8_init_20 : decode cX8_init 20 = .ok (.newarray .int, 2) := by decide +kernel
theorem dX8_init_22 : decode cX8_init 22 = .ok (.putfield 19, 3) := by decide +kernel
theorem dX8_init_25 : decode cX8_init 25 = .ok (.aload_n 0, 1) := by decide +kernel
theorem dX8_init_26 : decode cX8_init 26 = .ok (.sipush 300, 3) := by decide +kernel
theorem dX8_init_29 : decode cX8_init 29 = .ok (.newarray .int, 2) := by decide +kernel
theorem dX8_init_31 : decode cX8_init 31 = .ok (.putfield 22, 3) := by decide +kernel
theorem dX8_init_34 : decode cX8_init 34 = .ok (.aload_n 0, 1) := by decide +kernel
theorem dX8_init_35 : decode cX8_init 35 = .ok (.iconst 0, 1) := by decide +kernel
theorem dX8_init_36 : decode cX8_init 36 = .ok (.putfield 25, 3) := by decide +kernel
theorem dX8_init_39 : decode cX8_init 39 = .ok (.aload_n 0, 1) := by decide +kernel
theorem dX8_init_40 : decode cX8_init 40 = .ok (.iconst 0, 1) := by decide +kernel
theorem dX8_init_41 : decode cX8_init 41 = .ok (.putfield 28, 3) := by decide +kernel
theorem dX8_init_44 : decode cX8_init 44 = .ok (.aload_n 0, 1) := by decide +kernel
theorem dX8_init_45 : decode cX8_init 45 = .ok (.iconst 0, 1) := by decide +kernel
theorem dX8_init_46 : decode cX8_init 46 = .ok (.putfield 31, 3) := by decide +kernel
theorem dX8_init_49 : decode cX8_init 49 = .ok (.aload_n 0, 1) := by decide +kernel
theorem dX8_init_50 : decode cX8_init 50 = .ok (.iconst 0, 1) := by decide +kernel
theorem dX8_init_51 : decode cX8_init 51 = .ok (.putfield 34, 3) := by decide +kernel
theorem dX8_init_54 : decode cX8_init 54 = .ok (.aload_n 0, 1) := by decide +kernel
theorem dX8_init_55 : decode cX8_init 55 = .ok (.iconst 0, 1) := by decide +kernel
theorem dX8_init_56 : decode cX8_init 56 = .ok (.putfield 37, 3) := by decide +kernel
theorem dX8_init_59 : decode cX8_init 59 = .ok (.aload_n 0, 1) := by decide +kernel
theorem dX8_init_60 : decode cX8_init 60 = .ok (.aload_n 1, 1) := by decide +kernel
theorem dX8_init_61 : decode cX8_init 61 = .ok (.putfield 40, 3) := by decide +kernel
theorem dX8_init_64 : decode cX8_init 64 = .ok (.return_, 1) := by decide +kernel
set_option maxRecDepth 20000 in
theorem ggX8_layRound_X4_read : GoodIn wsX8_layRound wsX4_read := goodIn_r _ [11, 12, 13, 14, 15, 10, 16, 17, 28, 29, 30] (by decide +kernel) (by decide +kernel)
set_option maxRecDepth 20000 in
theorem gX8_layRound_X4_read : GoodIn wsX8_layRound (wsV RX8 50 RX4 yX4_read wsX4_read) := goodIn_app (goodIn_of _ (by decide +kernel)) ggX8_layRound_X4_read
theorem dX8_layRound_0 : decode cX8_layRound 0 = .ok (.aload_n 0, 1) := by decide +kernel
theorem dX8_layRound_1 : decode cX8_layRound 1 = .ok (.iload_n 3, 1) := by decide +kernel
theorem dX8_layRound_2 : decode cX8_layRound 2 = .ok (.bipush 8, 2) := by decide +kernel
theorem dX8_layRound_4 : decode cX8_layRound 4 = .ok (.invokestatic 44, 3) := by decide +kernel
theorem dX8_layRound_7 : decode cX8_layRound 7 = .ok (.putfield 15, 3) := by decide +kernel
theorem dX8_layRound_10 : decode cX8_layRound 10 = .ok (.iconst 0, 1) := by decide +kernel
theorem dX8_layRound_11 : decode cX8_layRound 11 = .ok (.istore 4, 2) := by decide +kernel
theorem dX8_layRound_13 : decode cX8_layRound 13 = .ok (.iload 4, 2) := by decide +kernel
theorem dX8_layRound_15 : decode cX8_layRound 15 = .ok (.aload_n 0, 1) := by decide +kernel
theorem dX8_layRound_16 : decode cX8_layRound 16 = .ok (.getfield 15, 3) := by decide +kernel
theorem dX8_layRound_19 : decode cX8_layRound 19 = .ok (.if_icmp .ge 24, 3) := by decide +kernel
theorem dX8_layRound_22 : decode cX8_layRound 22 = .ok (.aload_n 0, 1) := by decide +kernel
theorem dX8_layRound_23 : decode cX8_layRound 23 = .ok (.getfield 9, 3) := by decide +kernel
theorem dX8_layRound_26 : decode cX8_layRound 26 = .ok (.iload 4, 2) := by decide +kernel
theorem dX8_layRound_28 : decode cX8_layRound 28 = .ok (.aload_n 1, 1) := by decide +kernel
theorem dX8_layRound_29 : decode cX8_layRound 29 = .ok (.iload_n 2, 1) := by decide +kernel
theorem dX8_layRound_30 : decode cX8_layRound 30 = .ok (.iload 4, 2) := by decide +kernel
theorem dX8_layRound_32 : decode cX8_layRound 32 = .ok (.iadd, 1) := by decide +kernel
theorem dX8_layRound_33 : decode cX8_layRound 33 = .ok (.invokevirtual 50, 3) := by decide +kernel
theorem dX8_layRound_36 : decode cX8_layRound 36 = .ok (.iastore, 1) := by decide +kernel
theorem dX8_layRound_37 : decode cX8_layRound 37 = .ok (.iinc 4 1, 3) := by decide +kernel
theorem dX8_layRound_40 : decode cX8_layRound 40 = .ok (.goto (-27), 3) := by decide +kernel
theorem dX8_layRound_43 : decode cX8_layRound 43 = .ok (.return_, 1) := by decide +kernel
theorem dX8_begin_0 : decode cX8_begin 0 = .ok (.aload_n 0, 1) := by decide +kernel
theorem dX8_begin_1 : decode cX8_begin 1 = .ok (.iconst 0, 1) := by decide +kernel
theorem dX8_begin_2 : decode cX8_begin 2 = .ok (.putfield 25, 3) := by decide +kernel
theorem dX8_begin_5 : decode cX8_begin 5 = .ok (.aload_n 0, 1) := by decide +kernel
theorem dX8_begin_6 : decode cX8_begin 6 = .ok (.aload_n 0, 1) := by decide +kernel
theorem dX8_begin_7 : decode cX8_begin 7 = .ok (.getfield 40, 3) := by decide +kernel
theorem dX8_begin_10 : decode cX8_begin 10 = .ok (.getfield 56, 3) := by decide +kernel
theorem dX8_begin_13 : decode cX8_begin 13 = .ok (.putfield 28, 3) := by decide +kernel
theorem dX8_begin_16 : decode cX8_begin 16 = .ok (.aload_n 0, 1) := by decide +kernel
theorem dX8_begin_17 : decode cX8_begin 17 = .ok (.iconst 0, 1) := by decide +kernel
theorem dX8_begin_18 : decode cX8_begin 18 = .ok (.putfield 31, 3) := by decide +kernel
theorem dX8_begin_21 : decode cX8_begin 21 = .ok (.iconst 0, 1) := by decide +kernel
theorem dX8_begin_22 : decode cX8_begin 22 = .ok (.istore_n 1, 1) := by decide +kernel
theorem dX8_begin_23 : decode cX8_begin 23 = .ok (.iload_n 1, 1) := by decide +kernel
theorem dX8_begin_24 : decode cX8_begin 24 = .ok (.aload_n 0, 1) := by decide +kernel
theorem dX8_begin_25 : decode cX8_begin 25 = .ok (.getfield 40, 3) := by decide +kernel
theorem dX8_begin_28 : decode cX8_begin 28 = .ok (.getfield 61, 3) := by decide +kernel
theorem dX8_begin_31 : decode cX8_begin 31 = .ok (.if_icmp .ge 24, 3) := by decide +kernel
theorem dX8_begin_34 : decode cX8_begin 34 = .ok (.aload_n 0, 1) := by decide +kernel
theorem dX8_begin_35 : decode cX8_begin 35 = .ok (.getfield 19, 3) := by decide +kernel
theorem dX8_begin_38 : decode cX8_begin 38 = .ok (.iload_n 1, 1) := by decide +kernel
theorem dX8_begin_39 : decode cX8_begin 39 = .ok (.aload_n 0, 1) := by decide +kernel
theorem dX8_begin_40 : decode cX8_begin 40 = .ok (.getfield 40, 3) := by decide +kernel
theorem dX8_begin_43 : decode cX8_begin 43 = .ok (.getfield 64, 3) := by decide +kernel
theorem dX8_begin_46 : decode cX8_begin 46 = .ok (.iload_n 1, 1) := by decide +kernel
theorem dX8_begin_47 : decode cX8_begin 47 = .ok (.iaload, 1) := by decide +kernel
theorem dX8_begin_48 : decode cX8_begin 48 = .ok (.iastore, 1) := by decide +kernel
theorem dX8_begin_49 : decode cX8_begin 49 = .ok (.iinc 1 1, 3) := by decide +kernel
theorem dX8_begin_52 : decode cX8_begin 52 = .ok (.goto (-29), 3) := by decide +kernel
theorem dX8_begin_55 : decode cX8_begin 55 = .ok (.return_, 1) := by decide +kernel
theorem dX8_goOn_0 : decode cX8_goOn 0 = .ok (.aload_n 0, 1) := by decide +kernel
theorem dX8_goOn_1 : decode cX8_goOn 1 = .ok (.aload_n 0, 1) := by decide +kernel
theorem dX8_goOn_2 : decode cX8_goOn 2 = .ok (.getfield 9, 3) := by decide +kernel
theorem dX8_goOn_5 : decode cX8_goOn 5 = .ok (.aload_n 0, 1) := by decide +kernel
theorem dX8_goOn_6 : decode cX8_goOn 6 = .ok (.getfield 25, 3) := by decide +kernel
theorem dX8_goOn_9 : decode cX8_goOn 9 = .ok (.iaload, 1) := by decide +kernel
theorem dX8_goOn_10 : decode cX8_goOn 10 = .ok (.putfield 34, 3) := by decide +kernel
theorem dX8_goOn_13 : decode cX8_goOn 13 = .ok (.aload_n 0, 1) := by decide +kernel
theorem dX8_goOn_14 : decode cX8_goOn 14 = .ok (.aload_n 0, 1) := by decide +kernel
theorem dX8_goOn_15 : decode cX8_goOn 15 = .ok (.getfield 31, 3) := by decide +kernel
theorem dX8_goOn_18 : decode cX8_goOn 18 = .ok (.aload_n 0, 1) := by decide +kernel
theorem dX8_goOn_19 : decode cX8_goOn 19 = .ok (.getfield 40, 3) := by decide +kernel
theorem dX8_goOn_22 : decode cX8_goOn 22 = .ok (.getfield 67, 3) := by decide +kernel
theorem dX8_goOn_25 : decode cX8_goOn 25 = .ok (.aload_n 0, 1) := by decide +kernel
theorem dX8_goOn_26 : decode cX8_goOn 26 = .ok (.getfield 34, 3) := by decide +kernel
theorem dX8_goOn_29 : decode cX8_goOn 29 = .ok (.iaload, 1) := by decide +kernel
theorem dX8_goOn_30 : decode cX8_goOn 30 = .ok (.aload_n 0, 1) := by decide +kernel
theorem dX8_goOn_31 : decode cX8_goOn 31 = .ok (.getfield 28, 3) := by decide +kernel
theorem dX8_goOn_34 : decode cX8_goOn 34 = .ok (.isub, 1) := by decide +kernel
theorem dX8_goOn_35 : decode cX8_goOn 35 = .ok (.invokestatic 70, 3) := by decide +kernel
theorem dX8_goOn_38 : decode cX8_goOn 38 = .ok (.iadd, 1) := by decide +kernel
theorem dX8_goOn_39 : decode cX8_goOn 39 = .ok (.putfield 37, 3) := by decide +kernel
theorem dX8_goOn_42 : decode cX8_goOn 42 = .ok (.aload_n 0, 1) := by decide +kernel
theorem dX8_goOn_43 : decode cX8_goOn 43 = .ok (.aload_n 0, 1) := by decide +kernel
theorem dX8_goOn_44 : decode cX8_goOn 44 = .ok (.getfield 40, 3) := by decide +kernel
theorem dX8_goOn_47 : decode cX8_goOn 47 = .ok (.getfield 67, 3) := by decide +kernel
theorem dX8_goOn_50 : decode cX8_goOn 50 = .ok (.aload_n 0, 1) := by decide +kernel
theorem dX8_goOn_51 : decode cX8_goOn 51 = .ok (.getfield 34, 3) := by decide +kernel
theorem dX8_goOn_54 : decode cX8_goOn 54 = .ok (.iaload, 1) := by decide +kernel
theorem dX8_goOn_55 : decode cX8_goOn 55 = .ok (.putfield 28, 3) := by decide +kernel
theorem dX8_goOn_58 : decode cX8_goOn 58 = .ok (.aload_n 0, 1) := by decide +kernel
theorem dX8_goOn_59 : decode cX8_goOn 59 = .ok (.aload_n 0, 1) := by decide +kernel
theorem dX8_goOn_60 : decode cX8_goOn 60 = .ok (.getfield 37, 3) := by decide +kernel
theorem dX8_goOn_63 : decode cX8_goOn 63 = .ok (.aload_n 0, 1) := by decide +kernel
theorem dX8_goOn_64 : decode cX8_goOn 64 = .ok (.getfield 40, 3) := by decide +kernel
theorem dX8_goOn_67 : decode cX8_goOn 67 = .ok (.getfield 73, 3) := by decide +kernel
theorem dX8_goOn_70 : decode cX8_goOn 70 = .ok (.aload_n 0, 1) := by decide +kernel
theorem dX8_goOn_71 : decode cX8_goOn 71 = .ok (.getfield 34, 3) := by decide +kernel
theorem dX8_goOn_74 : decode cX8_goOn 74 = .ok (.iaload, 1) := by decide +kernel
theorem dX8_goOn_75 : decode cX8_goOn 75 = .ok (.iadd, 1) := by decide +kernel
theorem dX8_goOn_76 : decode cX8_goOn 76 = .ok (.putfield 31, 3) := by decide +kernel
theorem dX8_goOn_79 : decode cX8_goOn 79 = .ok (.aload_n 0, 1) := by decide +kernel
theorem dX8_goOn_80 : decode cX8_goOn 80 = .ok (.aload_n 0, 1) := by decide +kernel
theorem dX8_goOn_81 : decode cX8_goOn 81 = .ok (.getfield 25, 3) := by decide +kernel
theorem dX8_goOn_84 : decode cX8_goOn 84 = .ok (.iconst 1, 1) := by decide +kernel
theorem dX8_goOn_85 : decode cX8_goOn 85 = .ok (.iadd, 1) := by decide +kernel
theorem dX8_goOn_86 : decode cX8_goOn 86 = .ok (.aload_n 0, 1) := by decide +kernel
theorem dX8_goOn_87 : decode cX8_goOn 87 = .ok (.getfield 15, 3) := by decide +kernel
theorem dX8_goOn_90 : decode cX8_goOn 90 = .ok (.if_icmp .ge 12, 3) := by decide +kernel
theorem dX8_goOn_93 : decode cX8_goOn 93 = .ok (.aload_n 0, 1) := by decide +kernel
theorem dX8_goOn_94 : decode cX8_goOn 94 = .ok (.getfield 25, 3) := by decide +kernel
theorem dX8_goOn_97 : decode cX8_goOn 97 = .ok (.iconst 1, 1) := by decide +kernel
theorem dX8_goOn_98 : decode cX8_goOn 98 = .ok (.iadd, 1) := by decide +kernel
theorem dX8_goOn_99 : decode cX8_goOn 99 = .ok (.goto 4, 3) := by decide +kernel
theorem dX8_goOn_102 : decode cX8_goOn 102 = .ok (.iconst 0, 1) := by decide +kernel
theorem dX8_goOn_103 : decode cX8_goOn 103 = .ok (.putfield 25, 3) := by decide +kernel
theorem dX8_goOn_106 : decode cX8_goOn 106 = .ok (.return_, 1) := by decide +kernel
theorem dX8_nailed_0 : decode cX8_nailed 0 = .ok (.aload_n 0, 1) := by decide +kernel
theorem dX8_nailed_1 : decode cX8_nailed 1 = .ok (.getfield 19, 3) := by decide +kernel
theorem dX8_nailed_4 : decode cX8_nailed 4 = .ok (.aload_n 0, 1) := by decide +kernel
theorem dX8_nailed_5 : decode cX8_nailed 5 = .ok (.getfield 34, 3) := by decide +kernel
theorem dX8_nailed_8 : decode cX8_nailed 8 = .ok (.aload_n 0, 1) := by decide +kernel
theorem dX8_nailed_9 : decode cX8_nailed 9 = .ok (.getfield 31, 3) := by decide +kernel
theorem dX8_nailed_12 : decode cX8_nailed 12 = .ok (.aload_n 0, 1) := by decide +kernel
theorem dX8_nailed_13 : decode cX8_nailed 13 = .ok (.getfield 40, 3) := by decide +kernel
theorem dX8_nailed_16 : decode cX8_nailed 16 = .ok (.getfield 64, 3) := by decide +kernel
theorem dX8_nailed_19 : decode cX8_nailed 19 = .ok (.aload_n 0, 1) := by decide +kernel
theorem dX8_nailed_20 : decode cX8_nailed 20 = .ok (.getfield 34, 3) := by decide +kernel
theorem dX8_nailed_23 : decode cX8_nailed 23 = .ok (.iaload, 1) := by decide +kernel
theorem dX8_nailed_24 : decode cX8_nailed 24 = .ok (.iadd, 1) := by decide +kernel
theorem dX8_nailed_25 : decode cX8_nailed 25 = .ok (.iastore, 1) := by decide +kernel
theorem dX8_nailed_26 : decode cX8_nailed 26 = .ok (.return_, 1) := by decide +kernel
theorem dX8_markFall_0 : decode cX8_markFall 0 = .ok (.aload_n 0, 1) := by decide +kernel
theorem dX8_markFall_1 : decode cX8_markFall 1 = .ok (.getfield 19, 3) := by decide +kernel
theorem dX8_markFall_4 : decode cX8_markFall 4 = .ok (.iload_n 1, 1) := by decide +kernel
theorem dX8_markFall_5 : decode cX8_markFall 5 = .ok (.iaload, 1) := by decide +kernel
theorem dX8_markFall_6 : decode cX8_markFall 6 = .ok (.istore_n 2, 1) := by decide +kernel
theorem dX8_markFall_7 : decode cX8_markFall 7 = .ok (.iload_n 2, 1) := by decide +kernel
theorem dX8_markFall_8 : decode cX8_markFall 8 = .ok (.ifCond .lt 22, 3) := by decide +kernel
theorem dX8_markFall_11 : decode cX8_markFall 11 = .ok (.iload_n 2, 1) := by decide +kernel
theorem dX8_markFall_12 : decode cX8_markFall 12 = .ok (.sipush 300, 3) := by decide +kernel
theorem dX8_markFall_15 : decode cX8_markFall 15 = .ok (.if_icmp .ge 15, 3) := by decide +kernel
theorem dX8_markFall_18 : decode cX8_markFall 18 = .ok (.aload_n 0, 1) := by decide +kernel
theorem dX8_markFall_19 : decode cX8_markFall 19 = .ok (.getfield 22, 3) := by decide +kernel
theorem dX8_markFall_22 : decode cX8_markFall 22 = .ok (.iload_n 2, 1) := by decide +kernel
theorem dX8_markFall_23 : decode cX8_markFall 23 = .ok (.dup2, 1) := by decide +kernel
theorem dX8_markFall_24 : decode cX8_markFall 24 = .ok (.iaload, 1) := by decide +kernel
theorem dX8_markFall_25 : decode cX8_markFall 25 = .ok (.iconst 1, 1) := by decide +kernel
theorem dX8_markFall_26 : decode cX8_markFall 26 = .ok (.iload_n 1, 1) := by decide +kernel
theorem dX8_markFall_27 : decode cX8_markFall 27 = .ok (.ishl, 1) := by decide +kernel
theorem dX8_markFall_28 : decode cX8_markFall 28 = .ok (.ior, 1) := by decide +kernel
theorem dX8_markFall_29 : decode cX8_markFall 29 = .ok (.iastore, 1) := by decide +kernel
theorem dX8_markFall_30 : decode cX8_markFall 30 = .ok (.return_, 1) := by decide +kernel
set_option maxRecDepth 20000 in
theorem ggX8_markFalls_X8_begin : GoodIn wsX8_markFalls wsX8_begin := goodIn_r _ [11, 12, 5, 13, 14, 15, 6, 3, 16, 37, 38, 39, 40, 41, 42, 43, 44, 45, 46, 47, 48, 49, 50, 51, 52, 53, 54] (by decide +kernel) (by decide +kernel)
set_option maxRecDepth 20000 in
theorem gX8_markFalls_X8_begin : GoodIn wsX8_markFalls (wsV RX8 76 RX8 yX8_begin wsX8_begin) := goodIn_app (goodIn_of _ (by decide +kernel)) ggX8_markFalls_X8_begin
set_option maxRecDepth 20000 in
theorem ggX8_markFalls_X8_goOn : GoodIn wsX8_markFalls wsX8_goOn := goodIn_r _ [20, 21, 12, 4, 15, 5, 22, 14, 23, 24, 25, 26, 2, 27, 28, 37, 38, 39, 40, 41, 42, 43, 44, 45, 46, 47, 48, 49, 50, 51, 52, 53, 54] (by decide +kernel) (by decide +kernel)
set_option maxRecDepth 20000 in
theorem gX8_markFalls_X8_goOn : GoodIn wsX8_markFalls (wsV RX8 79 RX8 yX8_goOn wsX8_goOn) := goodIn_app (goodIn_of _ (by decide +kernel)) ggX8_markFalls_X8_goOn
set_option maxRecDepth 20000 in
theorem ggX8_markFalls_X8_markFall : GoodIn wsX8_markFalls wsX8_markFall := goodIn_r _ [32, 3, 1, 37, 38, 39, 40, 41, 42, 43, 44, 45, 46] (by decide +kernel) (by decide +kernel)
set_option maxRecDepth 20000 in
theorem gX8_markFalls_X8_markFall : GoodIn wsX8_markFalls (wsV RX8 82 RX8 yX8_markFall wsX8_markFall) := goodIn_app (goodIn_of _ (by decide +kernel)) ggX8_markFalls_X8_markFall
set_option maxRecDepth 20000 in
theorem ggX8_markFalls_X8_nailed : GoodIn wsX8_markFalls wsX8_nailed := goodIn_r _ [36, 3, 4, 15, 5, 16, 37, 38, 39, 40, 41, 42, 43, 44, 45, 46, 47, 48, 49, 50, 51, 52, 53, 54] (by decide +kernel) (by decide +kernel)
set_option maxRecDepth 20000 in
theorem gX8_markFalls_X8_nailed : GoodIn wsX8_markFalls (wsV RX8 86 RX8 yX8_nailed wsX8_nailed) := goodIn_app (goodIn_of _ (by decide +kernel)) ggX8_markFalls_X8_nailed
theorem dX8_markFalls_0 : decode cX8_markFalls 0 = .ok (.iconst 0, 1) := by decide +kernel
theorem dX8_markFalls_1 : decode cX8_markFalls 1 = .ok (.istore_n 1, 1) := by decide +kernel
theorem dX8_markFalls_2 : decode cX8_markFalls 2 = .ok (.iload_n 1, 1) := by decide +kernel
theorem dX8_markFalls_3 : decode cX8_markFalls 3 = .ok (.sipush 300, 3) := by decide +kernel
theorem dX8_markFalls_6 : decode cX8_markFalls 6 = .ok (.if_icmp .ge 16, 3) := by decide +kernel
theorem dX8_markFalls_9 : decode cX8_markFalls 9 = .ok (.aload_n 0, 1) := by decide +kernel
theorem dX8_markFalls_10 : decode cX8_markFalls 10 = .ok (.getfield 22, 3) := by decide +kernel
theorem dX8_markFalls_13 : decode cX8_markFalls 13 = .ok (.iload_n 1, 1) := by decide +kernel
theorem dX8_markFalls_14 : decode cX8_markFalls 14 = .ok (.iconst 0, 1) := by decide +kernel
theorem dX8_markFalls_15 : decode cX8_markFalls 15 = .ok (.iastore, 1) := by decide +kernel
theorem dX8_markFalls_16 : decode cX8_markFalls 16 = .ok (.iinc 1 1, 3) := by decide +kernel
theorem dX8_markFalls_19 : decode cX8_markFalls 19 = .ok (.goto (-17), 3) := by decide +kernel
theorem dX8_markFalls_22 : decode cX8_markFalls 22 = .ok (.aload_n 0, 1) := by decide +kernel
theorem dX8_markFalls_23 : decode cX8_markFalls 23 = .ok (.invokevirtual 76, 3) := by decide +kernel
theorem dX8_markFalls_26 : decode cX8_markFalls 26 = .ok (.iconst 0, 1) := by decide +kernel
theorem dX8_markFalls_27 : decode cX8_markFalls 27 = .ok (.istore_n 1, 1) := by decide +kernel
theorem dX8_markFalls_28 : decode cX8_markFalls 28 = .ok (.iload_n 1, 1) := by decide +kernel
theorem dX8_markFalls_29 : decode cX8_markFalls 29 = .ok (.sipush 300, 3) := by decide +kernel
theorem dX8_markFalls_32 : decode cX8_markFalls 32 = .ok (.if_icmp .ge 54, 3) := by decide +kernel
theorem dX8_markFalls_35 : decode cX8_markFalls 35 = .ok (.aload_n 0, 1) := by decide +kernel
theorem dX8_markFalls_36 : decode cX8_markFalls 36 = .ok (.invokevirtual 79, 3) := by decide +kernel
theorem dX8_markFalls_39 : decode cX8_markFalls 39 = .ok (.aload_n 0, 1) := by decide +kernel
theorem dX8_markFalls_40 : decode cX8_markFalls 40 = .ok (.getfield 37, 3) := by decide +kernel
theorem dX8_markFalls_43 : decode cX8_markFalls 43 = .ok (.sipush 300, 3) := by decide +kernel
theorem dX8_markFalls_46 : decode cX8_markFalls 46 = .ok (.if_icmp .lt 6, 3) := by decide +kernel
theorem dX8_markFalls_49 : decode cX8_markFalls 49 = .ok (.goto 37, 3) := by decide +kernel
theorem dX8_markFalls_52 : decode cX8_markFalls 52 = .ok (.aload_n 0, 1) := by decide +kernel
theorem dX8_markFalls_53 : decode cX8_markFalls 53 = .ok (.getfield 19, 3) := by decide +kernel
theorem dX8_markFalls_56 : decode cX8_markFalls 56 = .ok (.aload_n 0, 1) := by decide +kernel
theorem dX8_markFalls_57 : decode cX8_markFalls 57 = .ok (.getfield 34, 3) := by decide +kernel
theorem dX8_markFalls_60 : decode cX8_markFalls 60 = .ok (.iaload, 1) := by decide +kernel
theorem dX8_markFalls_61 : decode cX8_markFalls 61 = .ok (.aload_n 0, 1) := by decide +kernel
theorem dX8_markFalls_62 : decode cX8_markFalls 62 = .ok (.getfield 37, 3) := by decide +kernel
theorem dX8_markFalls_65 : decode cX8_markFalls 65 = .ok (.if_icmp .ge 11, 3) := by decide +kernel
theorem dX8_markFalls_68 : decode cX8_markFalls 68 = .ok (.aload_n 0, 1) := by decide +kernel
theorem dX8_markFalls_69 : decode cX8_markFalls 69 = .ok (.aload_n 0, 1) := by decide +kernel
theorem dX8_markFalls_70 : decode cX8_markFalls 70 = .ok (.getfield 34, 3) := by decide +kernel
theorem dX8_markFalls_73 : decode cX8_markFalls 73 = .ok (.invokevirtual 82, 3) := by decide +kernel
theorem dX8_markFalls_76 : decode cX8_markFalls 76 = .ok (.aload_n 0, 1) := by decide +kernel
theorem dX8_markFalls_77 : decode cX8_markFalls 77 = .ok (.invokevirtual 86, 3) := by decide +kernel
theorem dX8_markFalls_80 : decode cX8_markFalls 80 = .ok (.iinc 1 1, 3) := by decide +kernel
theorem dX8_markFalls_83 : decode cX8_markFalls 83 = .ok (.goto (-55), 3) := by decide +kernel
theorem dX8_markFalls_86 : decode cX8_markFalls 86 = .ok (.iconst 0, 1) := by decide +kernel
theorem dX8_markFalls_87 : decode cX8_markFalls 87 = .ok (.istore_n 1, 1) := by decide +kernel
theorem dX8_markFalls_88 : decode cX8_markFalls 88 = .ok (.iload_n 1, 1) := by decide +kernel
theorem dX8_markFalls_89 : decode cX8_markFalls 89 = .ok (.aload_n 0, 1) := by decide +kernel
theorem dX8_markFalls_90 : decode cX8_markFalls 90 = .ok (.getfield 40, 3) := by decide +kernel
theorem dX8_markFalls_93 : decode cX8_markFalls 93 = .ok (.getfield 61, 3) := by decide +kernel
theorem dX8_markFalls_96 : decode cX8_markFalls 96 = .ok (.if_icmp .ge 14, 3) := by decide +kernel
theorem dX8_markFalls_99 : decode cX8_markFalls 99 = .ok (.aload_n 0, 1) := by decide +kernel
theorem dX8_markFalls_100 : decode cX8_markFalls 100 = .ok (.iload_n 1, 1) := by decide +kernel
theorem dX8_markFalls_101 : decode cX8_markFalls 101 = .ok (.invokevirtual 82, 3) := by decide +kernel
theorem dX8_markFalls_104 : decode cX8_markFalls 104 = .ok (.iinc 1 1, 3) := by decide +kernel
theorem dX8_markFalls_107 : decode cX8_markFalls 107 = .ok (.goto (-19), 3) := by decide +kernel
theorem dX8_markFalls_110 : decode cX8_markFalls 110 = .ok (.return_, 1) := by decide +kernel
theorem dX8_harmBelow_0 : decode cX8_harmBelow 0 = .ok (.iconst 0, 1) := by decide +kernel
theorem dX8_harmBelow_1 : decode cX8_harmBelow 1 = .ok (.istore_n 2, 1) := by decide +kernel
theorem dX8_harmBelow_2 : decode cX8_harmBelow 2 = .ok (.iconst 0, 1) := by decide +kernel
theorem dX8_harmBelow_3 : decode cX8_harmBelow 3 = .ok (.istore_n 3, 1) := by decide +kernel
theorem dX8_harmBelow_4 : decode cX8_harmBelow 4 = .ok (.iload_n 3, 1) := by decide +kernel
theorem dX8_harmBelow_5 : decode cX8_harmBelow 5 = .ok (.iload_n 1, 1) := by decide +kernel
theorem dX8_harmBelow_6 : decode cX8_harmBelow 6 = .ok (.if_icmp .ge 71, 3) := by decide +kernel
theorem dX8_harmBelow_9 : decode cX8_harmBelow 9 = .ok (.iload_n 3, 1) := by decide +kernel
theorem dX8_harmBelow_10 : decode cX8_harmBelow 10 = .ok (.sipush 300, 3) := by decide +kernel
theorem dX8_harmBelow_13 : decode cX8_harmBelow 13 = .ok (.if_icmp .ge 64, 3) := by decide +kernel
theorem dX8_harmBelow_16 : decode cX8_harmBelow 16 = .ok (.iconst 0, 1) := by decide +kernel
theorem dX8_harmBelow_17 : decode cX8_harmBelow 17 = .ok (.istore 4, 2) := by decide +kernel
theorem dX8_harmBelow_19 : decode cX8_harmBelow 19 = .ok (.aload_n 0, 1) := by decide +kernel
theorem dX8_harmBelow_20 : decode cX8_harmBelow 20 = .ok (.getfield 22, 3) := by decide +kernel
theorem dX8_harmBelow_23 : decode cX8_harmBelow 23 = .ok (.iload_n 3, 1) := by decide +kernel
theorem dX8_harmBelow_24 : decode cX8_harmBelow 24 = .ok (.iaload, 1) := by decide +kernel
theorem dX8_harmBelow_25 : decode cX8_harmBelow 25 = .ok (.ifCond .eq 46, 3) := by decide +kernel
theorem dX8_harmBelow_28 : decode cX8_harmBelow 28 = .ok (.iload 4, 2) := by decide +kernel
theorem dX8_harmBelow_30 : decode cX8_harmBelow 30 = .ok (.aload_n 0, 1) := by decide +kernel
theorem dX8_harmBelow_31 : decode cX8_harmBelow 31 = .ok (.getfield 40, 3) := by decide +kernel
theorem dX8_harmBelow_34 : decode cX8_harmBelow 34 = .ok (.getfield 61, 3) := by decide +kernel
theorem dX8_harmBelow_37 : decode cX8_harmBelow 37 = .ok (.if_icmp .ge 34, 3) := by decide +kernel
theorem dX8_harmBelow_40 : decode cX8_harmBelow 40 = .ok (.iload_n 2, 1) := by decide +kernel
theorem dX8_harmBelow_41 : decode cX8_harmBelow 41 = .ok (.aload_n 0, 1) := by decide +kernel
theorem dX8_harmBelow_42 : decode cX8_harmBelow 42 = .ok (.getfield 22, 3) := by decide +kernel
theorem dX8_harmBelow_45 : decode cX8_harmBelow 45 = .ok (.iload_n 3, 1) := by decide +kernel
theorem dX8_harmBelow_46 : decode cX8_harmBelow 46 = .ok (.iaload, 1) := by decide +kernel
theorem dX8_harmBelow_47 : decode cX8_harmBelow 47 = .ok (.iload 4, 2) := by decide +kernel
theorem dX8_harmBelow_49 : decode cX8_harmBelow 49 = .ok (.ishr, 1) := by decide +kernel
theorem dX8_harmBelow_50 : decode cX8_harmBelow 50 = .ok (.iconst 1, 1) := by decide +kernel
theorem dX8_harmBelow_51 : decode cX8_harmBelow 51 = .ok (.iand, 1) := by decide +kernel
theorem dX8_harmBelow_52 : decode cX8_harmBelow 52 = .ok (.aload_n 0, 1) := by decide +kernel
theorem dX8_harmBelow_53 : decode cX8_harmBelow 53 = .ok (.getfield 40, 3) := by decide +kernel
theorem dX8_harmBelow_56 : decode cX8_harmBelow 56 = .ok (.getfield 89, 3) := by decide +kernel
theorem dX8_harmBelow_59 : decode cX8_harmBelow 59 = .ok (.iload 4, 2) := by decide +kernel
theorem dX8_harmBelow_61 : decode cX8_harmBelow 61 = .ok (.iaload, 1) := by decide +kernel
theorem dX8_harmBelow_62 : decode cX8_harmBelow 62 = .ok (.imul, 1) := by decide +kernel
theorem dX8_harmBelow_63 : decode cX8_harmBelow 63 = .ok (.iadd, 1) := by decide +kernel
theorem dX8_harmBelow_64 : decode cX8_harmBelow 64 = .ok (.istore_n 2, 1) := by decide +kernel
theorem dX8_harmBelow_65 : decode cX8_harmBelow 65 = .ok (.iinc 4 1, 3) := by decide +kernel
theorem dX8_harmBelow_68 : decode cX8_harmBelow 68 = .ok (.goto (-49), 3) := by decide +kernel
theorem dX8_harmBelow_71 : decode cX8_harmBelow 71 = .ok (.iinc 3 1, 3) := by decide +kernel
theorem dX8_harmBelow_74 : decode cX8_harmBelow 74 = .ok (.goto (-70), 3) := by decide +kernel
theorem dX8_harmBelow_77 : decode cX8_harmBelow 77 = .ok (.iload_n 2, 1) := by decide +kernel
theorem dX8_harmBelow_78 : decode cX8_harmBelow 78 = .ok (.ireturn, 1) := by decide +kernel
set_option maxRecDepth 20000 in
theorem ggX8_countFalls_J6_bitCount_0f7a4 : GoodIn wsX8_countFalls wsJ6_bitCount_0f7a4 := goodIn_r _ [5, 6, 7, 8] (by decide +kernel) (by decide +kernel)
set_option maxRecDepth 20000 in
theorem gX8_countFalls_J6_bitCount_0f7a4 : GoodIn wsX8_countFalls (va_wsS RX8 92 yJ6_bitCount_0f7a4 wsJ6_bitCount_0f7a4) := goodIn_app (goodIn_of _ (by decide +kernel)) ggX8_countFalls_J6_bitCount_0f7a4
theorem dX8_countFalls_0 : decode cX8_countFalls 0 = .ok (.iconst 0, 1) := by decide +kernel
theorem dX8_countFalls_1 : decode cX8_countFalls 1 = .ok (.istore_n 1, 1) := by decide +kernel
theorem dX8_countFalls_2 : decode cX8_countFalls 2 = .ok (.iconst 0, 1) := by decide +kernel
theorem dX8_countFalls_3 : decode cX8_countFalls 3 = .ok (.istore_n 2, 1) := by decide +kernel
theorem dX8_countFalls_4 : decode cX8_countFalls 4 = .ok (.iload_n 2, 1) := by decide +kernel
theorem dX8_countFalls_5 : decode cX8_countFalls 5 = .ok (.sipush 300, 3) := by decide +kernel
theorem dX8_countFalls_8 : decode cX8_countFalls 8 = .ok (.if_icmp .ge 21, 3) := by decide +kernel
theorem dX8_countFalls_11 : decode cX8_countFalls 11 = .ok (.iload_n 1, 1) := by decide +kernel
theorem dX8_countFalls_12 : decode cX8_countFalls 12 = .ok (.aload_n 0, 1) := by decide +kernel
theorem dX8_countFalls_13 : decode cX8_countFalls 13 = .ok (.getfield 22, 3) := by decide +kernel
theorem dX8_countFalls_16 : decode cX8_countFalls 16 = .ok (.iload_n 2, 1) := by decide +kernel
theorem dX8_countFalls_17 : decode cX8_countFalls 17 = .ok (.iaload, 1) := by decide +kernel
theorem dX8_countFalls_18 : decode cX8_countFalls 18 = .ok (.invokestatic 92, 3) := by decide +kernel
theorem dX8_countFalls_21 : decode cX8_countFalls 21 = .ok (.iadd, 1) := by decide +kernel
theorem dX8_countFalls_22 : decode cX8_countFalls 22 = .ok (.istore_n 1, 1) := by decide +kernel
theorem dX8_countFalls_23 : decode cX8_countFalls 23 = .ok (.iinc 2 1, 3) := by decide +kernel
theorem dX8_countFalls_26 : decode cX8_countFalls 26 = .ok (.goto (-22), 3) := by decide +kernel
theorem dX8_countFalls_29 : decode cX8_countFalls 29 = .ok (.iload_n 1, 1) := by decide +kernel
theorem dX8_countFalls_30 : decode cX8_countFalls 30 = .ok (.ireturn, 1) := by decide +kernel
theorem dX8_fallNumber_0 : decode cX8_fallNumber 0 = .ok (.iload_n 1, 1) := by decide +kernel
theorem dX8_fallNumber_1 : decode cX8_fallNumber 1 = .ok (.istore_n 2, 1) := by decide +kernel
theorem dX8_fallNumber_2 : decode cX8_fallNumber 2 = .ok (.iconst 0, 1) := by decide +kernel
theorem dX8_fallNumber_3 : decode cX8_fallNumber 3 = .ok (.istore_n 3, 1) := by decide +kernel
theorem dX8_fallNumber_4 : decode cX8_fallNumber 4 = .ok (.iload_n 3, 1) := by decide +kernel
theorem dX8_fallNumber_5 : decode cX8_fallNumber 5 = .ok (.sipush 300, 3) := by decide +kernel
theorem dX8_fallNumber_8 : decode cX8_fallNumber 8 = .ok (.if_icmp .ge 69, 3) := by decide +kernel
theorem dX8_fallNumber_11 : decode cX8_fallNumber 11 = .ok (.iconst 0, 1) := by decide +kernel
theorem dX8_fallNumber_12 : decode cX8_fallNumber 12 = .ok (.istore 4, 2) := by decide +kernel
theorem dX8_fallNumber_14 : decode cX8_fallNumber 14 = .ok (.aload_n 0, 1) := by decide +kernel
theorem dX8_fallNumber_15 : decode cX8_fallNumber 15 = .ok (.getfield 22, 3) := by decide +kernel
theorem dX8_fallNumber_18 : decode cX8_fallNumber 18 = .ok (.iload_n 3, 1) := by decide +kernel
theorem dX8_fallNumber_19 : decode cX8_fallNumber 19 = .ok (.iaload, 1) := by decide +kernel
theorem dX8_fallNumber_20 : decode cX8_fallNumber 20 = .ok (.ifCond .eq 51, 3) := by decide +kernel
theorem dX8_fallNumber_23 : decode cX8_fallNumber 23 = .ok (.iload 4, 2) := by decide +kernel
theorem dX8_fallNumber_25 : decode cX8_fallNumber 25 = .ok (.aload_n 0, 1) := by decide +kernel
theorem dX8_fallNumber_26 : decode cX8_fallNumber 26 = .ok (.getfield 40, 3) := by decide +kernel
theorem dX8_fallNumber_29 : decode cX8_fallNumber 29 = .ok (.getfield 61, 3) := by decide +kernel
theorem dX8_fallNumber_32 : decode cX8_fallNumber 32 = .ok (.if_icmp .ge 39, 3) := by decide +kernel
theorem dX8_fallNumber_35 : decode cX8_fallNumber 35 = .ok (.aload_n 0, 1) := by decide +kernel
theorem dX8_fallNumber_36 : decode cX8_fallNumber 36 = .ok (.getfield 22, 3) := by decide +kernel
theorem dX8_fallNumber_39 : decode cX8_fallNumber 39 = .ok (.iload_n 3, 1) := by decide +kernel
theorem dX8_fallNumber_40 : decode cX8_fallNumber 40 = .ok (.iaload, 1) := by decide +kernel
theorem dX8_fallNumber_41 : decode cX8_fallNumber 41 = .ok (.iload 4, 2) := by decide +kernel
theorem dX8_fallNumber_43 : decode cX8_fallNumber 43 = .ok (.ishr, 1) := by decide +kernel
theorem dX8_fallNumber_44 : decode cX8_fallNumber 44 = .ok (.iconst 1, 1) := by decide +kernel
theorem dX8_fallNumber_45 : decode cX8_fallNumber 45 = .ok (.iand, 1) := by decide +kernel
theorem dX8_fallNumber_46 : decode cX8_fallNumber 46 = .ok (.iconst 1, 1) := by decide +kernel
theorem dX8_fallNumber_47 : decode cX8_fallNumber 47 = .ok (.if_icmp .ne 18, 3) := by decide +kernel
theorem dX8_fallNumber_50 : decode cX8_fallNumber 50 = .ok (.iload_n 2, 1) := by decide +kernel
theorem dX8_fallNumber_51 : decode cX8_fallNumber 51 = .ok (.ifCond .ne 11, 3) := by decide +kernel
theorem dX8_fallNumber_54 : decode cX8_fallNumber 54 = .ok (.bipush 10, 2) := by decide +kernel
theorem dX8_fallNumber_56 : decode cX8_fallNumber 56 = .ok (.iload_n 3, 1) := by decide +kernel
theorem dX8_fallNumber_57 : decode cX8_fallNumber 57 = .ok (.imul, 1) := by decide +kernel
theorem dX8_fallNumber_58 : decode cX8_fallNumber 58 = .ok (.iload 4, 2) := by decide +kernel
theorem dX8_fallNumber_60 : decode cX8_fallNumber 60 = .ok (.iadd, 1) := by decide +kernel
theorem dX8_fallNumber_61 : decode cX8_fallNumber 61 = .ok (.ireturn, 1) := by decide +kernel
theorem dX8_fallNumber_62 : decode cX8_fallNumber 62 = .ok (.iinc 2 (-1), 3) := by decide +kernel
theorem dX8_fallNumber_65 : decode cX8_fallNumber 65 = .ok (.iinc 4 1, 3) := by decide +kernel
theorem dX8_fallNumber_68 : decode cX8_fallNumber 68 = .ok (.goto (-54), 3) := by decide +kernel
theorem dX8_fallNumber_71 : decode cX8_fallNumber 71 = .ok (.iinc 3 1, 3) := by decide +kernel
theorem dX8_fallNumber_74 : decode cX8_fallNumber 74 = .ok (.goto (-70), 3) := by decide +kernel
theorem dX8_fallNumber_77 : decode cX8_fallNumber 77 = .ok (.bipush (-9), 2) := by decide +kernel
theorem dX8_fallNumber_79 : decode cX8_fallNumber 79 = .ok (.ireturn, 1) := by decide +kernel
set_option maxRecDepth 20000 in
theorem ggX8_nothingEverFalls_X8_begin : GoodIn wsX8_nothingEverFalls wsX8_begin := goodIn_r _ [10, 11, 5, 12, 13, 14, 15, 2, 16, 38, 39, 40, 41, 42, 43, 44, 45, 46, 47, 48, 49, 50, 51, 52, 53, 54, 55] (by decide +kernel) (by decide +kernel)
set_option maxRecDepth 20000 in
theorem gX8_nothingEverFalls_X8_begin : GoodIn wsX8_nothingEverFalls (wsV RX8 76 RX8 yX8_begin wsX8_begin) := goodIn_app (goodIn_of _ (by decide +kernel)) ggX8_nothingEverFalls_X8_begin
set_option maxRecDepth 20000 in
theorem ggX8_nothingEverFalls_X8_goOn : GoodIn wsX8_nothingEverFalls wsX8_goOn := goodIn_r _ [20, 21, 11, 3, 14, 5, 22, 13, 23, 24, 25, 26, 4, 27, 1, 38, 39, 40, 41, 42, 43, 44, 45, 46, 47, 48, 49, 50, 51, 52, 53, 54, 55] (by decide +kernel) (by decide +kernel)
set_option maxRecDepth 20000 in
theorem gX8_nothingEverFalls_X8_goOn : GoodIn wsX8_nothingEverFalls (wsV RX8 79 RX8 yX8_goOn wsX8_goOn) := goodIn_app (goodIn_of _ (by decide +kernel)) ggX8_nothingEverFalls_X8_goOn
set_option maxRecDepth 20000 in
theorem ggX8_nothingEverFalls_X8_nailed : GoodIn wsX8_nothingEverFalls wsX8_nailed := goodIn_r _ [31, 2, 3, 14, 5, 16, 38, 39, 40, 41, 42, 43, 44, 45, 46, 47, 48, 49, 50, 51, 52, 53, 54, 55] (by decide +kernel) (by decide +kernel)
set_option maxRecDepth 20000 in
theorem gX8_nothingEverFalls_X8_nailed : GoodIn wsX8_nothingEverFalls (wsV RX8 86 RX8 yX8_nailed wsX8_nailed) := goodIn_app (goodIn_of _ (by decide +kernel)) ggX8_nothingEverFalls_X8_nailed
set_option maxRecDepth 20000 in
theorem ggX8_nothingEverFalls_X5_all : GoodIn wsX8_nothingEverFalls wsX5_all := goodIn_r _ [36, 37, 48, 49, 50, 51, 52, 53, 54, 55] (by decide +kernel) (by decide +kernel)
set_option maxRecDepth 20000 in
theorem gX8_nothingEverFalls_X5_all : GoodIn wsX8_nothingEverFalls (wsV RX8 97 RX5 yX5_all wsX5_all) := goodIn_app (goodIn_of _ (by decide +kernel)) ggX8_nothingEverFalls_X5_all
theorem dX8_nothingEverFalls_0 : decode cX8_nothingEverFalls 0 = .ok (.aload_n 0, 1) := by decide +kernel
theorem dX8_nothingEverFalls_1 : decode cX8_nothingEverFalls 1 = .ok (.invokevirtual 76, 3) := by decide +kernel
theorem dX8_nothingEverFalls_4 : decode cX8_nothingEverFalls 4 = .ok (.iconst 0, 1) := by decide +kernel
theorem dX8_nothingEverFalls_5 : decode cX8_nothingEverFalls 5 = .ok (.istore_n 1, 1) := by decide +kernel
theorem dX8_nothingEverFalls_6 : decode cX8_nothingEverFalls 6 = .ok (.iconst 0, 1) := by decide +kernel
theorem dX8_nothingEverFalls_7 : decode cX8_nothingEverFalls 7 = .ok (.istore_n 2, 1) := by decide +kernel
theorem dX8_nothingEverFalls_8 : decode cX8_nothingEverFalls 8 = .ok (.iload_n 2, 1) := by decide +kernel
theorem dX8_nothingEverFalls_9 : decode cX8_nothingEverFalls 9 = .ok (.iconst 2, 1) := by decide +kernel
theorem dX8_nothingEverFalls_10 : decode cX8_nothingEverFalls 10 = .ok (.aload_n 0, 1) := by decide +kernel
theorem dX8_nothingEverFalls_11 : decode cX8_nothingEverFalls 11 = .ok (.getfield 15, 3) := by decide +kernel
theorem dX8_nothingEverFalls_14 : decode cX8_nothingEverFalls 14 = .ok (.imul, 1) := by decide +kernel
theorem dX8_nothingEverFalls_15 : decode cX8_nothingEverFalls 15 = .ok (.if_icmp .ge 44, 3) := by decide +kernel
theorem dX8_nothingEverFalls_18 : decode cX8_nothingEverFalls 18 = .ok (.aload_n 0, 1) := by decide +kernel
theorem dX8_nothingEverFalls_19 : decode cX8_nothingEverFalls 19 = .ok (.invokevirtual 79, 3) := by decide +kernel
theorem dX8_nothingEverFalls_22 : decode cX8_nothingEverFalls 22 = .ok (.aload_n 0, 1) := by decide +kernel
theorem dX8_nothingEverFalls_23 : decode cX8_nothingEverFalls 23 = .ok (.getfield 19, 3) := by decide +kernel
theorem dX8_nothingEverFalls_26 : decode cX8_nothingEverFalls 26 = .ok (.aload_n 0, 1) := by decide +kernel
theorem dX8_nothingEverFalls_27 : decode cX8_nothingEverFalls 27 = .ok (.getfield 34, 3) := by decide +kernel
theorem dX8_nothingEverFalls_30 : decode cX8_nothingEverFalls 30 = .ok (.iaload, 1) := by decide +kernel
theorem dX8_nothingEverFalls_31 : decode cX8_nothingEverFalls 31 = .ok (.aload_n 0, 1) := by decide +kernel
theorem dX8_nothingEverFalls_32 : decode cX8_nothingEverFalls 32 = .ok (.getfield 37, 3) := by decide +kernel
theorem dX8_nothingEverFalls_35 : decode cX8_nothingEverFalls 35 = .ok (.if_icmp .ge 5, 3) := by decide +kernel
theorem dX8_nothingEverFalls_38 : decode cX8_nothingEverFalls 38 = .ok (.iconst 0, 1) := by decide +kernel
theorem dX8_nothingEverFalls_39 : decode cX8_nothingEverFalls 39 = .ok (.ireturn, 1) := by decide +kernel
theorem dX8_nothingEverFalls_40 : decode cX8_nothingEverFalls 40 = .ok (.iload_n 1, 1) := by decide +kernel
theorem dX8_nothingEverFalls_41 : decode cX8_nothingEverFalls 41 = .ok (.iconst 1, 1) := by decide +kernel
theorem dX8_nothingEverFalls_42 : decode cX8_nothingEverFalls 42 = .ok (.aload_n 0, 1) := by decide +kernel
theorem dX8_nothingEverFalls_43 : decode cX8_nothingEverFalls 43 = .ok (.getfield 34, 3) := by decide +kernel
theorem dX8_nothingEverFalls_46 : decode cX8_nothingEverFalls 46 = .ok (.ishl, 1) := by decide +kernel
theorem dX8_nothingEverFalls_47 : decode cX8_nothingEverFalls 47 = .ok (.ior, 1) := by decide +kernel
theorem dX8_nothingEverFalls_48 : decode cX8_nothingEverFalls 48 = .ok (.istore_n 1, 1) := by decide +kernel
theorem dX8_nothingEverFalls_49 : decode cX8_nothingEverFalls 49 = .ok (.aload_n 0, 1) := by decide +kernel
theorem dX8_nothingEverFalls_50 : decode cX8_nothingEverFalls 50 = .ok (.invokevirtual 86, 3) := by decide +kernel
theorem dX8_nothingEverFalls_53 : decode cX8_nothingEverFalls 53 = .ok (.iinc 2 1, 3) := by decide +kernel
theorem dX8_nothingEverFalls_56 : decode cX8_nothingEverFalls 56 = .ok (.goto (-48), 3) := by decide +kernel
theorem dX8_nothingEverFalls_59 : decode cX8_nothingEverFalls 59 = .ok (.iload_n 1, 1) := by decide +kernel
theorem dX8_nothingEverFalls_60 : decode cX8_nothingEverFalls 60 = .ok (.aload_n 0, 1) := by decide +kernel
theorem dX8_nothingEverFalls_61 : decode cX8_nothingEverFalls 61 = .ok (.getfield 40, 3) := by decide +kernel
theorem dX8_nothingEverFalls_64 : decode cX8_nothingEverFalls 64 = .ok (.invokevirtual 97, 3) := by decide +kernel
theorem dX8_nothingEverFalls_67 : decode cX8_nothingEverFalls 67 = .ok (.if_icmp .ne 7, 3) := by decide +kernel
theorem dX8_nothingEverFalls_70 : decode cX8_nothingEverFalls 70 = .ok (.iconst 1, 1) := by decide +kernel
theorem dX8_nothingEverFalls_71 : decode cX8_nothingEverFalls 71 = .ok (.goto 4, 3) := by decide +kernel
theorem dX8_nothingEverFalls_74 : decode cX8_nothingEverFalls 74 = .ok (.iconst 0, 1) := by decide +kernel
theorem dX8_nothingEverFalls_75 : decode cX8_nothingEverFalls 75 = .ok (.ireturn, 1) := by decide +kernel
set_option maxRecDepth 20000 in
theorem ggX8_whereAt_X8_begin : GoodIn wsX8_whereAt wsX8_begin := goodIn_r _ [8, 9, 10, 11, 12, 2, 13, 14, 15, 28, 29, 30, 31, 32, 33, 34, 35, 36, 37, 38, 39, 40, 41, 42, 43, 44, 45] (by decide +kernel) (by decide +kernel)
set_option maxRecDepth 20000 in
theorem gX8_whereAt_X8_begin : GoodIn wsX8_whereAt (wsV RX8 76 RX8 yX8_begin wsX8_begin) := goodIn_app (goodIn_of _ (by decide +kernel)) ggX8_whereAt_X8_begin
set_option maxRecDepth 20000 in
theorem ggX8_whereAt_X8_goOn : GoodIn wsX8_whereAt wsX8_goOn := goodIn_r _ [19, 20, 9, 3, 2, 10, 21, 12, 22, 23, 24, 25, 1, 26, 27, 28, 29, 30, 31, 32, 33, 34, 35, 36, 37, 38, 39, 40, 41, 42, 43, 44, 45] (by decide +kernel) (by decide +kernel)
set_option maxRecDepth 20000 in
theorem gX8_whereAt_X8_goOn : GoodIn wsX8_whereAt (wsV RX8 79 RX8 yX8_goOn wsX8_goOn) := goodIn_app (goodIn_of _ (by decide +kernel)) ggX8_whereAt_X8_goOn
theorem dX8_whereAt_0 : decode cX8_whereAt 0 = .ok (.aload_n 0, 1) := by decide +kernel
theorem dX8_whereAt_1 : decode cX8_whereAt 1 = .ok (.invokevirtual 76, 3) := by decide +kernel
theorem dX8_whereAt_4 : decode cX8_whereAt 4 = .ok (.iconst 0, 1) := by decide +kernel
theorem dX8_whereAt_5 : decode cX8_whereAt 5 = .ok (.istore_n 2, 1) := by decide +kernel
theorem dX8_whereAt_6 : decode cX8_whereAt 6 = .ok (.iload_n 2, 1) := by decide +kernel
theorem dX8_whereAt_7 : decode cX8_whereAt 7 = .ok (.sipush 300, 3) := by decide +kernel
theorem dX8_whereAt_10 : decode cX8_whereAt 10 = .ok (.if_icmp .gt 37, 3) := by decide +kernel
theorem dX8_whereAt_13 : decode cX8_whereAt 13 = .ok (.aload_n 0, 1) := by decide +kernel
theorem dX8_whereAt_14 : decode cX8_whereAt 14 = .ok (.invokevirtual 79, 3) := by decide +kernel
theorem dX8_whereAt_17 : decode cX8_whereAt 17 = .ok (.iload_n 1, 1) := by decide +kernel
theorem dX8_whereAt_18 : decode cX8_whereAt 18 = .ok (.aload_n 0, 1) := by decide +kernel
theorem dX8_whereAt_19 : decode cX8_whereAt 19 = .ok (.getfield 37, 3) := by decide +kernel
theorem dX8_whereAt_22 : decode cX8_whereAt 22 = .ok (.if_icmp .ge 6, 3) := by decide +kernel
theorem dX8_whereAt_25 : decode cX8_whereAt 25 = .ok (.bipush (-9), 2) := by decide +kernel
theorem dX8_whereAt_27 : decode cX8_whereAt 27 = .ok (.ireturn, 1) := by decide +kernel
theorem dX8_whereAt_28 : decode cX8_whereAt 28 = .ok (.iload_n 1, 1) := by decide +kernel
theorem dX8_whereAt_29 : decode cX8_whereAt 29 = .ok (.aload_n 0, 1) := by decide +kernel
theorem dX8_whereAt_30 : decode cX8_whereAt 30 = .ok (.getfield 31, 3) := by decide +kernel
theorem dX8_whereAt_33 : decode cX8_whereAt 33 = .ok (.if_icmp .ge 8, 3) := by decide +kernel
theorem dX8_whereAt_36 : decode cX8_whereAt 36 = .ok (.aload_n 0, 1) := by decide +kernel
theorem dX8_whereAt_37 : decode cX8_whereAt 37 = .ok (.getfield 34, 3) := by decide +kernel
theorem dX8_whereAt_40 : decode cX8_whereAt 40 = .ok (.ireturn, 1) := by decide +kernel
theorem dX8_whereAt_41 : decode cX8_whereAt 41 = .ok (.iinc 2 1, 3) := by decide +kernel
theorem dX8_whereAt_44 : decode cX8_whereAt 44 = .ok (.goto (-38), 3) := by decide +kernel
theorem dX8_whereAt_47 : decode cX8_whereAt 47 = .ok (.bipush (-9), 2) := by decide +kernel
theorem dX8_whereAt_49 : decode cX8_whereAt 49 = .ok (.ireturn, 1) := by decide +kernel
set_option maxRecDepth 20000 in
theorem ggX9_init_X5_init : GoodIn wsX9_init wsX5_init := goodIn_r _ [33, 34, 2, 3, 35, 36, 37, 38, 39, 22, 40, 41, 42, 43, 89, 90, 91, 92, 93, 94, 95, 96] (by decide +kernel) (by decide +kernel)
set_option maxRecDepth 20000 in
theorem gX9_init_X5_init : GoodIn wsX9_init (wsX5_init) := ggX9_init_X5_init
set_option maxRecDepth 20000 in
theorem ggX9_init_X3_init : GoodIn wsX9_init wsX3_init := goodIn_r _ [46, 47, 2, 3, 48, 22, 49, 50, 51, 52, 105, 106, 107, 108] (by decide +kernel) (by decide +kernel)
set_option maxRecDepth 20000 in
theorem gX9_init_X3_init : GoodIn wsX9_init (wsX3_init) := ggX9_init_X3_init
set_option maxRecDepth 20000 in
theorem ggX9_init_X8_init : GoodIn wsX9_init wsX8_init := goodIn_r _ [55, 56, 2, 3, 22, 57, 58, 59, 60, 61, 62, 63, 64, 65, 66, 109, 110, 111, 112, 113, 114, 115, 116, 117, 118] (by decide +kernel) (by decide +kernel)
set_option maxRecDepth 20000 in
theorem gX9_init_X8_init : GoodIn wsX9_init (wsX8_init) := ggX9_init_X8_init
set_option maxRecDepth 20000 in
theorem ggX9_init_X2_init : GoodIn wsX9_init wsX2_init := goodIn_r _ [69, 70, 2, 3, 22, 71, 72, 73, 74, 75, 76, 119, 120, 121, 122, 123, 124] (by decide +kernel) (by decide +kernel)
set_option maxRecDepth 20000 in
theorem gX9_init_X2_init : GoodIn wsX9_init (wsX2_init) := ggX9_init_X2_init
set_option maxRecDepth 20000 in
theorem ggX9_init_X7_init : GoodIn wsX9_init wsX7_init := goodIn_r _ [79, 80, 2, 3, 81, 125] (by decide +kernel) (by decide +kernel)
set_option maxRecDepth 20000 in
theorem gX9_init_X7_init : GoodIn wsX9_init (wsX7_init) := ggX9_init_X7_init
set_option maxRecDepth 20000 in
theorem ggX9_init_X4_init : GoodIn wsX9_init wsX4_init := goodIn_r _ [84, 85, 2, 3, 86, 87, 22, 88, 126, 127, 128] (by decide +kernel) (by decide +kernel)
set_option maxRecDepth 20000 in
theorem gX9_init_X4_init : GoodIn wsX9_init (wsX4_init) := ggX9_init_X4_init
theorem dX9_init_0 : decode cX9_init 0 = .ok (.aload_n 0, 1) := by decide +kernel
theorem dX9_init_1 : decode cX9_init 1 = .ok (.invokespecial 3, 3) := by decide +kernel
theorem dX9_init_4 : decode cX9_init 4 = .ok (.aload_n 0, 1) := by decide +kernel
theorem dX9_init_5 : decode cX9_init 5 = .ok (.new 9, 3) := by decide +kernel
theorem dX9_init_8 : decode cX9_init 8 = .ok (.dup, 1) := by decide +kernel
theorem dX9_init_9 : decode cX9_init 9 = .ok (.invokespecial 11, 3) := by decide +kernel
theorem dX9_init_12 : decode cX9_init 12 = .ok (.putfield 12, 3) := by decide +kernel
theorem dX9_init_15 : decode cX9_init 15 = .ok (.aload_n 0, 1) := by decide +kernel
theorem dX9_init_16 : decode cX9_init 16 = .ok (.new 18, 3) := by decide +kernel
theorem dX9_init_19 : decode cX9_init 19 = .ok (.dup, 1) := by decide +kernel
theorem dX9_init_20 : decode cX9_init 20 = .ok (.invokespecial 20, 3) := by decide +kernel
theorem dX9_init_23 : decode cX9_init 23 = .ok (.putfield 21, 3) := by decide +kernel
theorem dX9_init_26 : decode cX9_init 26 = .ok (.aload_n 0, 1) := by decide +kernel
theorem dX9_init_27 : decode cX9_init 27 = .ok (.new 25, 3) := by decide +kernel
theorem dX9_init_30 : decode cX9_init 30 = .ok (.dup, 1) := by decide +kernel
theorem dX9_init_31 : decode cX9_init 31 = .ok (.aload_n 0, 1) := by decide +kernel
theorem dX9_init_32 : decode cX9_init 32 = .ok (.getfield 12, 3) := by decide +kernel
theorem dX9_init_35 : decode cX9_init 35 = .ok (.invokespecial 27, 3) := by decide +kernel
theorem dX9_init_38 : decode cX9_init 38 = .ok (.putfield 30, 3) := by decide +kernel
theorem dX9_init_41 : decode cX9_init 41 = .ok (.aload_n 0, 1) := by decide +kernel
theorem dX9_init_42 : decode cX9_init 42 = .ok (.new 34, 3) := by decide +kernel
theorem dX9_init_45 : decode cX9_init 45 = .ok (.dup, 1) := by decide +kernel
theorem dX9_init_46 : decode cX9_init 46 = .ok (.aload_n 0, 1) := by decide +kernel
theorem dX9_init_47 : decode cX9_init 47 = .ok (.getfield 12, 3) := by decide +kernel
theorem dX9_init_50 : decode cX9_init 50 = .ok (.invokespecial 36, 3) := by decide +kernel
theorem dX9_init_53 : decode cX9_init 53 = .ok (.putfield 37, 3) := by decide +kernel
theorem dX9_init_56 : decode cX9_init 56 = .ok (.aload_n 0, 1) := by decide +kernel
theorem dX9_init_57 : decode cX9_init 57 = .ok (.iconst 4, 1) := by decide +kernel
theorem dX9_init_58 : decode cX9_init 58 = .ok (.anewarray 41, 3) := by decide +kernel
theorem dX9_init_61 : decode cX9_init 61 = .ok (.putfield 43, 3) := by decide +kernel
theorem dX9_init_64 : decode cX9_init 64 = .ok (.aload_n 0, 1) := by decide +kernel
theorem dX9_init_65 : decode cX9_init 65 = .ok (.bipush 64, 2) := by decide +kernel
theorem dX9_init_67 : decode cX9_init 67 = .ok (.newarray .int, 2) := by decide +kernel
theorem dX9_init_69 : decode cX9_init 69 = .ok (.putfield 47, 3) := by decide +kernel
theorem dX9_init_72 : decode cX9_init 72 = .ok (.aload_n 0, 1) := by decide +kernel
theorem dX9_init_73 : decode cX9_init 73 = .ok (.new 51, 3) := by decide +kernel
theorem dX9_init_76 : decode cX9_init 76 = .ok (.dup, 1) := by decide +kernel
theorem dX9_init_77 : decode cX9_init 77 = .ok (.invokespecial 53, 3) := by decide +kernel
theorem dX9_init_80 : decode cX9_init 80 = .ok (.putfield 54, 3) := by decide +kernel
theorem dX9_init_83 : decode cX9_init 83 = .ok (.aload_n 0, 1) := by decide +kernel
theorem dX9_init_84 : decode cX9_init 84 = .ok (.iconst 0, 1) := by decide +kernel
theorem dX9_init_85 : decode cX9_init 85 = .ok (.putfield 58, 3) := by decide +kernel
theorem dX9_init_88 : decode cX9_init 88 = .ok (.iconst 0, 1) := by decide +kernel
theorem dX9_init_89 : decode cX9_init 89 = .ok (.istore_n 1, 1) := by decide +kernel
theorem dX9_init_90 : decode cX9_init 90 = .ok (.iload_n 1, 1) := by decide +kernel
theorem dX9_init_91 : decode cX9_init 91 = .ok (.aload_n 0, 1) := by decide +kernel
theorem dX9_init_92 : decode cX9_init 92 = .ok (.getfield 43, 3) := by decide +kernel
theorem dX9_init_95 : decode cX9_init 95 = .ok (.arraylength, 1) := by decide +kernel
theorem dX9_init_96 : decode cX9_init 96 = .ok (.if_icmp .ge 22, 3) := by decide +kernel
theorem dX9_init_99 : decode cX9_init 99 = .ok (.aload_n 0, 1) := by decide +kernel
theorem dX9_init_100 : decode cX9_init 100 = .ok (.getfield 43, 3) := by decide +kernel

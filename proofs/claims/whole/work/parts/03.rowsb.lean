theorem dX9_init_103 : decode cX9_init 103 = .ok (.iload_n 1, 1) := by decide +kernel
theorem dX9_init_104 : decode cX9_init 104 = .ok (.new 41, 3) := by decide +kernel
theorem dX9_init_107 : decode cX9_init 107 = .ok (.dup, 1) := by decide +kernel
theorem dX9_init_108 : decode cX9_init 108 = .ok (.invokespecial 62, 3) := by decide +kernel
theorem dX9_init_111 : decode cX9_init 111 = .ok (.aastore, 1) := by decide +kernel
theorem dX9_init_112 : decode cX9_init 112 = .ok (.iinc 1 1, 3) := by decide +kernel
theorem dX9_init_115 : decode cX9_init 115 = .ok (.goto (-25), 3) := by decide +kernel
theorem dX9_init_118 : decode cX9_init 118 = .ok (.return_, 1) := by decide +kernel
set_option maxRecDepth 20000 in
theorem ggX9_street_X9_isLane : GoodIn wsX9_street wsX9_isLane := goodIn_r _ [6] (by decide +kernel) (by decide +kernel)
set_option maxRecDepth 20000 in
theorem gX9_street_X9_isLane : GoodIn wsX9_street (va_wsS RX9 63 yX9_isLane wsX9_isLane) := goodIn_app (goodIn_of _ (by decide +kernel)) ggX9_street_X9_isLane
set_option maxRecDepth 20000 in
theorem ggX9_street_X9_refuseCells : GoodIn wsX9_street wsX9_refuseCells := goodIn_r _ [10, 11, 12, 13, 14, 5, 15, 16, 17, 18, 19, 20, 21, 22, 23, 24, 25, 26, 27, 28, 29, 30, 31, 32, 33, 34, 35, 36, 138, 139, 140, 141, 142, 143, 144, 145, 154, 155, 156] (by decide +kernel) (by decide +kernel)
set_option maxRecDepth 20000 in
theorem gX9_street_X9_refuseCells : GoodIn wsX9_street (wsV RX9 67 RX9 yX9_refuseCells wsX9_refuseCells) := goodIn_app (goodIn_of _ (by decide +kernel)) ggX9_street_X9_refuseCells
set_option maxRecDepth 20000 in
theorem ggX9_street_X9_sheetAt : GoodIn wsX9_street wsX9_sheetAt := goodIn_r _ [15, 16, 138, 139, 140, 141, 142, 143, 144, 145] (by decide +kernel) (by decide +kernel)
set_option maxRecDepth 20000 in
theorem gX9_street_X9_sheetAt : GoodIn wsX9_street (wsV RX9 71 RX9 yX9_sheetAt wsX9_sheetAt) := goodIn_app (goodIn_of _ (by decide +kernel)) ggX9_street_X9_sheetAt
set_option maxRecDepth 20000 in
theorem ggX9_street_X9_firstFault : GoodIn wsX9_street wsX9_firstFault := goodIn_r _ [39, 40, 41, 42, 25, 43, 44, 45, 46, 47, 48, 36, 49, 50, 5, 51, 52, 53, 54, 154, 155, 156] (by decide +kernel) (by decide +kernel)
set_option maxRecDepth 20000 in
theorem gX9_street_X9_firstFault : GoodIn wsX9_street (va_wsS RX9 75 yX9_firstFault wsX9_firstFault) := goodIn_app (goodIn_of _ (by decide +kernel)) ggX9_street_X9_firstFault
set_option maxRecDepth 20000 in
theorem ggX9_street_X9_takeText : GoodIn wsX9_street wsX9_takeText := goodIn_r _ [58, 1, 59, 60, 40, 41, 42, 25, 43, 44, 45, 46, 47, 48, 36, 61, 62, 63, 64, 65, 66, 67, 68, 69, 5, 70, 71, 72, 73, 74, 75, 76, 77, 78, 79, 80, 81, 82, 83, 84, 85, 86, 87, 88, 89, 90, 91, 92, 93, 94, 95, 96, 97, 98, 99, 100, 101, 102, 103, 104, 105, 106, 107, 108, 109, 110, 111, 112, 113, 114, 115, 116, 117, 118, 119, 120, 121, 122, 123, 124, 125, 126, 127, 128, 129, 130, 131, 132, 133, 134, 135, 136, 137, 138, 139, 140, 141, 142, 143, 144, 145, 157, 158, 159, 160, 154, 155, 156, 146, 147, 148, 149, 150, 151, 152, 153, 161, 162, 163, 164, 165, 166, 167, 168, 169, 170, 171, 172, 173, 174, 175] (by decide +kernel) (by decide +kernel)
set_option maxRecDepth 20000 in
theorem gX9_street_X9_takeText : GoodIn wsX9_street (wsV RX9 79 RX9 yX9_takeText wsX9_takeText) := goodIn_app (goodIn_of _ (by decide +kernel)) ggX9_street_X9_takeText
theorem dX9_street_0 : decode cX9_street 0 = .ok (.aload_n 0, 1) := by decide +kernel
theorem dX9_street_1 : decode cX9_street 1 = .ok (.iload_n 1, 1) := by decide +kernel
theorem dX9_street_2 : decode cX9_street 2 = .ok (.iload_n 2, 1) := by decide +kernel
theorem dX9_street_3 : decode cX9_street 3 = .ok (.invokestatic 63, 3) := by decide +kernel
theorem dX9_street_6 : decode cX9_street 6 = .ok (.iload_n 2, 1) := by decide +kernel
theorem dX9_street_7 : decode cX9_street 7 = .ok (.iload_n 3, 1) := by decide +kernel
theorem dX9_street_8 : decode cX9_street 8 = .ok (.iload 4, 2) := by decide +kernel
theorem dX9_street_10 : decode cX9_street 10 = .ok (.invokevirtual 67, 3) := by decide +kernel
theorem dX9_street_13 : decode cX9_street 13 = .ok (.istore 5, 2) := by decide +kernel
theorem dX9_street_15 : decode cX9_street 15 = .ok (.aload_n 0, 1) := by decide +kernel
theorem dX9_street_16 : decode cX9_street 16 = .ok (.iload_n 1, 1) := by decide +kernel
theorem dX9_street_17 : decode cX9_street 17 = .ok (.invokevirtual 71, 3) := by decide +kernel
theorem dX9_street_20 : decode cX9_street 20 = .ok (.astore 6, 2) := by decide +kernel
theorem dX9_street_22 : decode cX9_street 22 = .ok (.iload 5, 2) := by decide +kernel
theorem dX9_street_24 : decode cX9_street 24 = .ok (.ifCond .ne 8, 3) := by decide +kernel
theorem dX9_street_27 : decode cX9_street 27 = .ok (.aload 6, 2) := by decide +kernel
theorem dX9_street_29 : decode cX9_street 29 = .ok (.ifnonnull 6, 3) := by decide +kernel
theorem dX9_street_32 : decode cX9_street 32 = .ok (.iload 5, 2) := by decide +kernel
theorem dX9_street_34 : decode cX9_street 34 = .ok (.ireturn, 1) := by decide +kernel
theorem dX9_street_35 : decode cX9_street 35 = .ok (.aload 6, 2) := by decide +kernel
theorem dX9_street_37 : decode cX9_street 37 = .ok (.iload_n 3, 1) := by decide +kernel
theorem dX9_street_38 : decode cX9_street 38 = .ok (.iload 4, 2) := by decide +kernel
theorem dX9_street_40 : decode cX9_street 40 = .ok (.invokestatic 75, 3) := by decide +kernel
theorem dX9_street_43 : decode cX9_street 43 = .ok (.istore 7, 2) := by decide +kernel
theorem dX9_street_45 : decode cX9_street 45 = .ok (.iload 7, 2) := by decide +kernel
theorem dX9_street_47 : decode cX9_street 47 = .ok (.ifCond .lt 9, 3) := by decide +kernel
theorem dX9_street_50 : decode cX9_street 50 = .ok (.bipush (-100), 2) := by decide +kernel
theorem dX9_street_52 : decode cX9_street 52 = .ok (.iload 7, 2) := by decide +kernel
theorem dX9_street_54 : decode cX9_street 54 = .ok (.isub, 1) := by decide +kernel
theorem dX9_street_55 : decode cX9_street 55 = .ok (.ireturn, 1) := by decide +kernel
theorem dX9_street_56 : decode cX9_street 56 = .ok (.aload_n 0, 1) := by decide +kernel
theorem dX9_street_57 : decode cX9_street 57 = .ok (.aload 6, 2) := by decide +kernel
theorem dX9_street_59 : decode cX9_street 59 = .ok (.iload_n 3, 1) := by decide +kernel
theorem dX9_street_60 : decode cX9_street 60 = .ok (.iload 4, 2) := by decide +kernel
theorem dX9_street_62 : decode cX9_street 62 = .ok (.invokevirtual 79, 3) := by decide +kernel
theorem dX9_street_65 : decode cX9_street 65 = .ok (.aload_n 0, 1) := by decide +kernel
theorem dX9_street_66 : decode cX9_street 66 = .ok (.getfield 12, 3) := by decide +kernel
theorem dX9_street_69 : decode cX9_street 69 = .ok (.getfield 83, 3) := by decide +kernel
theorem dX9_street_72 : decode cX9_street 72 = .ok (.ireturn, 1) := by decide +kernel
set_option maxRecDepth 20000 in
theorem ggX9_ofThing_X5_thingAt : GoodIn wsX9_ofThing wsX5_thingAt := goodIn_r _ [11, 12, 13, 14, 15, 10, 16, 17, 80, 81, 82, 83, 84, 85, 86, 87] (by decide +kernel) (by decide +kernel)
set_option maxRecDepth 20000 in
theorem gX9_ofThing_X5_thingAt : GoodIn wsX9_ofThing (wsV RX9 86 RX5 yX5_thingAt wsX5_thingAt) := goodIn_app (goodIn_of _ (by decide +kernel)) ggX9_ofThing_X5_thingAt
set_option maxRecDepth 20000 in
theorem ggX9_ofThing_X0_kindNumber : GoodIn wsX9_ofThing wsX0_kindNumber := goodIn_r _ [24] (by decide +kernel) (by decide +kernel)
set_option maxRecDepth 20000 in
theorem gX9_ofThing_X0_kindNumber_u90X0 : GoodIn wsX9_ofThing (va_wsO RX9 90 RX0 "OneNail$Thing" ⟨"OneNail$Thing", "kindNumber", "()I"⟩ yX0_kindNumber wsX0_kindNumber) := goodIn_app (goodIn_of _ (by decide +kernel)) ggX9_ofThing_X0_kindNumber
set_option maxRecDepth 20000 in
theorem ggX9_ofThing_X1_kindNumber : GoodIn wsX9_ofThing wsX1_kindNumber := goodIn_r _ [29] (by decide +kernel) (by decide +kernel)
set_option maxRecDepth 20000 in
theorem gX9_ofThing_X1_kindNumber_u90X1 : GoodIn wsX9_ofThing (va_wsO RX9 90 RX1 "OneNail$Thing" ⟨"OneNail$Thing", "kindNumber", "()I"⟩ yX1_kindNumber wsX1_kindNumber) := goodIn_app (goodIn_of _ (by decide +kernel)) ggX9_ofThing_X1_kindNumber
set_option maxRecDepth 20000 in
theorem ggX9_ofThing_X6_kindNumber : GoodIn wsX9_ofThing wsX6_kindNumber := goodIn_r _ [25] (by decide +kernel) (by decide +kernel)
set_option maxRecDepth 20000 in
theorem gX9_ofThing_X6_kindNumber : GoodIn wsX9_ofThing (wsV RX9 90 RX6 yX6_kindNumber wsX6_kindNumber) := goodIn_app (goodIn_of _ (by decide +kernel)) ggX9_ofThing_X6_kindNumber
set_option maxRecDepth 20000 in
theorem ggX9_ofThing_X0_holdsBy : GoodIn wsX9_ofThing wsX0_holdsBy := goodIn_r _ [39, 40, 41, 42, 43, 28, 44, 45, 35, 46, 47, 33, 48, 49, 50, 51, 52, 53, 65, 66, 67, 68, 69, 70, 71, 72, 73, 74, 75, 76, 77, 78, 79] (by decide +kernel) (by decide +kernel)
set_option maxRecDepth 20000 in
theorem gX9_ofThing_X0_holdsBy_u111X0 : GoodIn wsX9_ofThing (va_wsO RX9 111 RX0 "OneNail$Thing" ⟨"OneNail$Thing", "holdsBy", "(I)I"⟩ yX0_holdsBy wsX0_holdsBy) := goodIn_app (goodIn_of _ (by decide +kernel)) ggX9_ofThing_X0_holdsBy
set_option maxRecDepth 20000 in
theorem ggX9_ofThing_X1_holdsBy : GoodIn wsX9_ofThing wsX1_holdsBy := goodIn_r _ [44, 45, 35, 46, 47, 33, 48, 49, 50, 51, 52, 53, 65, 66, 67, 68, 69, 70, 71, 72, 73, 74, 75, 76, 77, 78, 79] (by decide +kernel) (by decide +kernel)
set_option maxRecDepth 20000 in
theorem gX9_ofThing_X1_holdsBy_u111X1 : GoodIn wsX9_ofThing (va_wsO RX9 111 RX1 "OneNail$Thing" ⟨"OneNail$Thing", "holdsBy", "(I)I"⟩ yX1_holdsBy wsX1_holdsBy) := goodIn_app (goodIn_of _ (by decide +kernel)) ggX9_ofThing_X1_holdsBy
set_option maxRecDepth 20000 in
theorem ggX9_ofThing_X6_holdsBy : GoodIn wsX9_ofThing wsX6_holdsBy := goodIn_r _ [48, 49, 50, 51, 52, 53, 65, 66, 67, 68, 69, 70, 71, 72, 73, 74, 75, 76, 77, 78, 79] (by decide +kernel) (by decide +kernel)
set_option maxRecDepth 20000 in
theorem gX9_ofThing_X6_holdsBy : GoodIn wsX9_ofThing (wsV RX9 111 RX6 yX6_holdsBy wsX6_holdsBy) := goodIn_app (goodIn_of _ (by decide +kernel)) ggX9_ofThing_X6_holdsBy
theorem dX9_ofThing_0 : decode cX9_ofThing 0 = .ok (.aload_n 0, 1) := by decide +kernel
theorem dX9_ofThing_1 : decode cX9_ofThing 1 = .ok (.getfield 12, 3) := by decide +kernel
theorem dX9_ofThing_4 : decode cX9_ofThing 4 = .ok (.iload_n 1, 1) := by decide +kernel
theorem dX9_ofThing_5 : decode cX9_ofThing 5 = .ok (.invokevirtual 86, 3) := by decide +kernel
theorem dX9_ofThing_8 : decode cX9_ofThing 8 = .ok (.astore_n 3, 1) := by decide +kernel
theorem dX9_ofThing_9 : decode cX9_ofThing 9 = .ok (.aload_n 3, 1) := by decide +kernel
theorem dX9_ofThing_10 : decode cX9_ofThing 10 = .ok (.ifnonnull 5, 3) := by decide +kernel
theorem dX9_ofThing_13 : decode cX9_ofThing 13 = .ok (.iconst (-1), 1) := by decide +kernel
theorem dX9_ofThing_14 : decode cX9_ofThing 14 = .ok (.ireturn, 1) := by decide +kernel
theorem dX9_ofThing_15 : decode cX9_ofThing 15 = .ok (.iload_n 2, 1) := by decide +kernel
theorem dX9_ofThing_16 : decode cX9_ofThing 16 = .ok (.tableswitch 77 0 5 #[40, 45, 50, 55, 60, 65], 40) := by decide +kernel
theorem dX9_ofThing_56 : decode cX9_ofThing 56 = .ok (.aload_n 3, 1) := by decide +kernel
theorem dX9_ofThing_57 : decode cX9_ofThing 57 = .ok (.invokevirtual 90, 3) := by decide +kernel
theorem dX9_ofThing_60 : decode cX9_ofThing 60 = .ok (.ireturn, 1) := by decide +kernel
theorem dX9_ofThing_61 : decode cX9_ofThing 61 = .ok (.aload_n 3, 1) := by decide +kernel
theorem dX9_ofThing_62 : decode cX9_ofThing 62 = .ok (.getfield 96, 3) := by decide +kernel
theorem dX9_ofThing_65 : decode cX9_ofThing 65 = .ok (.ireturn, 1) := by decide +kernel
theorem dX9_ofThing_66 : decode cX9_ofThing 66 = .ok (.aload_n 3, 1) := by decide +kernel
theorem dX9_ofThing_67 : decode cX9_ofThing 67 = .ok (.getfield 99, 3) := by decide +kernel
theorem dX9_ofThing_70 : decode cX9_ofThing 70 = .ok (.ireturn, 1) := by decide +kernel
theorem dX9_ofThing_71 : decode cX9_ofThing 71 = .ok (.aload_n 3, 1) := by decide +kernel
theorem dX9_ofThing_72 : decode cX9_ofThing 72 = .ok (.getfield 102, 3) := by decide +kernel
theorem dX9_ofThing_75 : decode cX9_ofThing 75 = .ok (.ireturn, 1) := by decide +kernel
theorem dX9_ofThing_76 : decode cX9_ofThing 76 = .ok (.aload_n 3, 1) := by decide +kernel
theorem dX9_ofThing_77 : decode cX9_ofThing 77 = .ok (.getfield 105, 3) := by decide +kernel
theorem dX9_ofThing_80 : decode cX9_ofThing 80 = .ok (.ireturn, 1) := by decide +kernel
theorem dX9_ofThing_81 : decode cX9_ofThing 81 = .ok (.aload_n 3, 1) := by decide +kernel
theorem dX9_ofThing_82 : decode cX9_ofThing 82 = .ok (.aload_n 0, 1) := by decide +kernel
theorem dX9_ofThing_83 : decode cX9_ofThing 83 = .ok (.getfield 12, 3) := by decide +kernel
theorem dX9_ofThing_86 : decode cX9_ofThing 86 = .ok (.getfield 108, 3) := by decide +kernel
theorem dX9_ofThing_89 : decode cX9_ofThing 89 = .ok (.invokevirtual 111, 3) := by decide +kernel
theorem dX9_ofThing_92 : decode cX9_ofThing 92 = .ok (.ireturn, 1) := by decide +kernel
theorem dX9_ofThing_93 : decode cX9_ofThing 93 = .ok (.bipush (-2), 2) := by decide +kernel
theorem dX9_ofThing_95 : decode cX9_ofThing 95 = .ok (.ireturn, 1) := by decide +kernel
theorem dX9_smithy_0 : decode cX9_smithy 0 = .ok (.iload_n 1, 1) := by decide +kernel
theorem dX9_smithy_1 : decode cX9_smithy 1 = .ok (.ifCond .lt 9, 3) := by decide +kernel
theorem dX9_smithy_4 : decode cX9_smithy 4 = .ok (.iload_n 1, 1) := by decide +kernel
theorem dX9_smithy_5 : decode cX9_smithy 5 = .ok (.bipush 9, 2) := by decide +kernel
theorem dX9_smithy_7 : decode cX9_smithy 7 = .ok (.if_icmp .le 6, 3) := by decide +kernel
theorem dX9_smithy_10 : decode cX9_smithy 10 = .ok (.bipush (-2), 2) := by decide +kernel
theorem dX9_smithy_12 : decode cX9_smithy 12 = .ok (.ireturn, 1) := by decide +kernel
theorem dX9_smithy_13 : decode cX9_smithy 13 = .ok (.aload_n 0, 1) := by decide +kernel
theorem dX9_smithy_14 : decode cX9_smithy 14 = .ok (.getfield 12, 3) := by decide +kernel
theorem dX9_smithy_17 : decode cX9_smithy 17 = .ok (.getfield 83, 3) := by decide +kernel
theorem dX9_smithy_20 : decode cX9_smithy 20 = .ok (.ifCond .ne 6, 3) := by decide +kernel
theorem dX9_smithy_23 : decode cX9_smithy 23 = .ok (.bipush (-3), 2) := by decide +kernel
theorem dX9_smithy_25 : decode cX9_smithy 25 = .ok (.ireturn, 1) := by decide +kernel
theorem dX9_smithy_26 : decode cX9_smithy 26 = .ok (.aload_n 0, 1) := by decide +kernel
theorem dX9_smithy_27 : decode cX9_smithy 27 = .ok (.getfield 12, 3) := by decide +kernel
theorem dX9_smithy_30 : decode cX9_smithy 30 = .ok (.getfield 115, 3) := by decide +kernel
theorem dX9_smithy_33 : decode cX9_smithy 33 = .ok (.istore_n 2, 1) := by decide +kernel
theorem dX9_smithy_34 : decode cX9_smithy 34 = .ok (.aload_n 0, 1) := by decide +kernel
theorem dX9_smithy_35 : decode cX9_smithy 35 = .ok (.getfield 12, 3) := by decide +kernel
theorem dX9_smithy_38 : decode cX9_smithy 38 = .ok (.iload_n 1, 1) := by decide +kernel
theorem dX9_smithy_39 : decode cX9_smithy 39 = .ok (.putfield 115, 3) := by decide +kernel
theorem dX9_smithy_42 : decode cX9_smithy 42 = .ok (.iload_n 2, 1) := by decide +kernel
theorem dX9_smithy_43 : decode cX9_smithy 43 = .ok (.ireturn, 1) := by decide +kernel
set_option maxRecDepth 20000 in
theorem ggX9_rust_X5_becomeRusty : GoodIn wsX9_rust wsX5_becomeRusty := goodIn_r _ [8, 9, 10, 11, 12, 13, 14, 15, 16, 17, 18, 19, 20, 21, 22, 23, 24, 25, 26, 27, 28, 29, 30, 31, 32, 33, 34, 35, 36, 37, 38, 47, 48, 49, 50, 51, 52, 53, 54, 55, 56, 57, 58, 59, 60, 61, 62, 63, 64, 65, 66, 67, 68, 69] (by decide +kernel) (by decide +kernel)
set_option maxRecDepth 20000 in
theorem gX9_rust_X5_becomeRusty : GoodIn wsX9_rust (wsV RX9 118 RX5 yX5_becomeRusty wsX5_becomeRusty) := goodIn_app (goodIn_of _ (by decide +kernel)) ggX9_rust_X5_becomeRusty
theorem dX9_rust_0 : decode cX9_rust 0 = .ok (.iload_n 1, 1) := by decide +kernel
theorem dX9_rust_1 : decode cX9_rust 1 = .ok (.ifCond .lt 9, 3) := by decide +kernel
theorem dX9_rust_4 : decode cX9_rust 4 = .ok (.iload_n 1, 1) := by decide +kernel
theorem dX9_rust_5 : decode cX9_rust 5 = .ok (.bipush 50, 2) := by decide +kernel
theorem dX9_rust_7 : decode cX9_rust 7 = .ok (.if_icmp .le 6, 3) := by decide +kernel
theorem dX9_rust_10 : decode cX9_rust 10 = .ok (.bipush (-2), 2) := by decide +kernel
theorem dX9_rust_12 : decode cX9_rust 12 = .ok (.ireturn, 1) := by decide +kernel
theorem dX9_rust_13 : decode cX9_rust 13 = .ok (.aload_n 0, 1) := by decide +kernel
theorem dX9_rust_14 : decode cX9_rust 14 = .ok (.getfield 12, 3) := by decide +kernel
theorem dX9_rust_17 : decode cX9_rust 17 = .ok (.getfield 83, 3) := by decide +kernel
theorem dX9_rust_20 : decode cX9_rust 20 = .ok (.ifCond .ne 6, 3) := by decide +kernel
theorem dX9_rust_23 : decode cX9_rust 23 = .ok (.bipush (-3), 2) := by decide +kernel
theorem dX9_rust_25 : decode cX9_rust 25 = .ok (.ireturn, 1) := by decide +kernel
theorem dX9_rust_26 : decode cX9_rust 26 = .ok (.aload_n 0, 1) := by decide +kernel
theorem dX9_rust_27 : decode cX9_rust 27 = .ok (.getfield 12, 3) := by decide +kernel
theorem dX9_rust_30 : decode cX9_rust 30 = .ok (.getfield 108, 3) := by decide +kernel
theorem dX9_rust_33 : decode cX9_rust 33 = .ok (.istore_n 2, 1) := by decide +kernel
theorem dX9_rust_34 : decode cX9_rust 34 = .ok (.aload_n 0, 1) := by decide +kernel
theorem dX9_rust_35 : decode cX9_rust 35 = .ok (.getfield 12, 3) := by decide +kernel
theorem dX9_rust_38 : decode cX9_rust 38 = .ok (.iload_n 1, 1) := by decide +kernel
theorem dX9_rust_39 : decode cX9_rust 39 = .ok (.invokevirtual 118, 3) := by decide +kernel
theorem dX9_rust_42 : decode cX9_rust 42 = .ok (.iload_n 2, 1) := by decide +kernel
theorem dX9_rust_43 : decode cX9_rust 43 = .ok (.ireturn, 1) := by decide +kernel
set_option maxRecDepth 20000 in
theorem ggX9_harm_X9_isLane : GoodIn wsX9_harm wsX9_isLane := goodIn_r _ [5] (by decide +kernel) (by decide +kernel)
set_option maxRecDepth 20000 in
theorem gX9_harm_X9_isLane : GoodIn wsX9_harm (va_wsS RX9 63 yX9_isLane wsX9_isLane) := goodIn_app (goodIn_of _ (by decide +kernel)) ggX9_harm_X9_isLane
set_option maxRecDepth 20000 in
theorem ggX9_harm_X9_isSpan : GoodIn wsX9_harm wsX9_isSpan := goodIn_r _ [8] (by decide +kernel) (by decide +kernel)
set_option maxRecDepth 20000 in
theorem gX9_harm_X9_isSpan : GoodIn wsX9_harm (va_wsS RX9 122 yX9_isSpan wsX9_isSpan) := goodIn_app (goodIn_of _ (by decide +kernel)) ggX9_harm_X9_isSpan
set_option maxRecDepth 20000 in
theorem ggX9_harm_X9_refuseRound : GoodIn wsX9_harm wsX9_refuseRound := goodIn_r _ [12, 13, 14, 1, 15, 16, 17, 4, 18, 19, 20, 21, 22, 23, 24, 25, 26, 27, 28, 29, 30, 31, 32, 33, 34, 35, 36, 37, 38, 39, 40, 41, 42, 43, 44, 45, 46, 47, 48, 49, 50, 51, 52, 53, 54, 55, 56, 57, 58, 59, 60, 61, 62, 63, 64, 65, 66, 67, 68, 69, 70, 71, 113, 114, 115, 116, 117, 118, 119, 120, 121, 122, 123, 124, 125, 126, 127, 128, 129, 130, 131, 132, 133, 134, 135, 136, 137, 138, 139, 140, 141] (by decide +kernel) (by decide +kernel)
set_option maxRecDepth 20000 in
theorem gX9_harm_X9_refuseRound : GoodIn wsX9_harm (wsV RX9 125 RX9 yX9_refuseRound wsX9_refuseRound) := goodIn_app (goodIn_of _ (by decide +kernel)) ggX9_harm_X9_refuseRound
set_option maxRecDepth 20000 in
theorem ggX9_harm_X8_markFalls : GoodIn wsX9_harm wsX8_markFalls := goodIn_r _ [75, 76, 77, 78, 79, 80, 81, 82, 83, 84, 63, 85, 86, 87, 88, 89, 90, 91, 92, 93, 94, 70, 95, 96, 97, 67, 98, 99, 69, 100, 101, 102, 103, 104, 105, 106, 107, 132, 133, 134, 135, 136, 137, 138, 139, 140, 141, 121, 122, 123, 124, 125, 126, 127, 128] (by decide +kernel) (by decide +kernel)
set_option maxRecDepth 20000 in
theorem gX9_harm_X8_markFalls : GoodIn wsX9_harm (wsV RX9 128 RX8 yX8_markFalls wsX8_markFalls) := goodIn_app (goodIn_of _ (by decide +kernel)) ggX9_harm_X8_markFalls
set_option maxRecDepth 20000 in
theorem ggX9_harm_X8_harmBelow : GoodIn wsX9_harm wsX8_harmBelow := goodIn_r _ [111, 76, 80, 81, 112, 132, 133, 134, 135, 136, 137, 138, 139, 140, 141, 121, 122, 123, 124, 125, 126, 127, 128] (by decide +kernel) (by decide +kernel)
set_option maxRecDepth 20000 in
theorem gX9_harm_X8_harmBelow : GoodIn wsX9_harm (wsV RX9 131 RX8 yX8_harmBelow wsX8_harmBelow) := goodIn_app (goodIn_of _ (by decide +kernel)) ggX9_harm_X8_harmBelow
theorem dX9_harm_0 : decode cX9_harm 0 = .ok (.aload_n 0, 1) := by decide +kernel
theorem dX9_harm_1 : decode cX9_harm 1 = .ok (.iload_n 1, 1) := by decide +kernel
theorem dX9_harm_2 : decode cX9_harm 2 = .ok (.iload_n 2, 1) := by decide +kernel
theorem dX9_harm_3 : decode cX9_harm 3 = .ok (.invokestatic 63, 3) := by decide +kernel
theorem dX9_harm_6 : decode cX9_harm 6 = .ok (.ifCond .eq 15, 3) := by decide +kernel
theorem dX9_harm_9 : decode cX9_harm 9 = .ok (.iload 5, 2) := by decide +kernel
theorem dX9_harm_11 : decode cX9_harm 11 = .ok (.invokestatic 122, 3) := by decide +kernel
theorem dX9_harm_14 : decode cX9_harm 14 = .ok (.ifCond .eq 7, 3) := by decide +kernel
theorem dX9_harm_17 : decode cX9_harm 17 = .ok (.iconst 1, 1) := by decide +kernel
theorem dX9_harm_18 : decode cX9_harm 18 = .ok (.goto 4, 3) := by decide +kernel
theorem dX9_harm_21 : decode cX9_harm 21 = .ok (.iconst 0, 1) := by decide +kernel
theorem dX9_harm_22 : decode cX9_harm 22 = .ok (.iload_n 2, 1) := by decide +kernel
theorem dX9_harm_23 : decode cX9_harm 23 = .ok (.iload_n 3, 1) := by decide +kernel
theorem dX9_harm_24 : decode cX9_harm 24 = .ok (.iload 4, 2) := by decide +kernel
theorem dX9_harm_26 : decode cX9_harm 26 = .ok (.invokevirtual 125, 3) := by decide +kernel
theorem dX9_harm_29 : decode cX9_harm 29 = .ok (.istore 6, 2) := by decide +kernel
theorem dX9_harm_31 : decode cX9_harm 31 = .ok (.iload 6, 2) := by decide +kernel
theorem dX9_harm_33 : decode cX9_harm 33 = .ok (.ifCond .eq 6, 3) := by decide +kernel
theorem dX9_harm_36 : decode cX9_harm 36 = .ok (.iload 6, 2) := by decide +kernel
theorem dX9_harm_38 : decode cX9_harm 38 = .ok (.ireturn, 1) := by decide +kernel
theorem dX9_harm_39 : decode cX9_harm 39 = .ok (.aload_n 0, 1) := by decide +kernel
theorem dX9_harm_40 : decode cX9_harm 40 = .ok (.getfield 30, 3) := by decide +kernel
theorem dX9_harm_43 : decode cX9_harm 43 = .ok (.invokevirtual 128, 3) := by decide +kernel
theorem dX9_harm_46 : decode cX9_harm 46 = .ok (.aload_n 0, 1) := by decide +kernel
theorem dX9_harm_47 : decode cX9_harm 47 = .ok (.getfield 30, 3) := by decide +kernel
theorem dX9_harm_50 : decode cX9_harm 50 = .ok (.iload 5, 2) := by decide +kernel
theorem dX9_harm_52 : decode cX9_harm 52 = .ok (.invokevirtual 131, 3) := by decide +kernel
theorem dX9_harm_55 : decode cX9_harm 55 = .ok (.ireturn, 1) := by decide +kernel
set_option maxRecDepth 20000 in
theorem ggX9_never_X9_isLane : GoodIn wsX9_never wsX9_isLane := goodIn_r _ [5] (by decide +kernel) (by decide +kernel)
set_option maxRecDepth 20000 in
theorem gX9_never_X9_isLane : GoodIn wsX9_never (va_wsS RX9 63 yX9_isLane wsX9_isLane) := goodIn_app (goodIn_of _ (by decide +kernel)) ggX9_never_X9_isLane
set_option maxRecDepth 20000 in
theorem ggX9_never_X9_refuseRound : GoodIn wsX9_never wsX9_refuseRound := goodIn_r _ [9, 10, 11, 1, 12, 13, 14, 4, 15, 16, 17, 18, 19, 20, 21, 22, 23, 24, 25, 26, 27, 28, 29, 30, 31, 32, 33, 34, 35, 36, 37, 38, 39, 40, 41, 42, 43, 44, 45, 46, 47, 48, 49, 50, 51, 52, 53, 54, 55, 56, 57, 58, 59, 60, 61, 62, 63, 64, 65, 66, 67, 68, 104, 105, 106, 107, 108, 109, 110, 111, 112, 113, 114, 115, 116, 117, 118, 119, 120, 121, 122, 123, 124, 125, 126, 127, 128, 129, 130, 131, 132] (by decide +kernel) (by decide +kernel)
set_option maxRecDepth 20000 in
theorem gX9_never_X9_refuseRound : GoodIn wsX9_never (wsV RX9 125 RX9 yX9_refuseRound wsX9_refuseRound) := goodIn_app (goodIn_of _ (by decide +kernel)) ggX9_never_X9_refuseRound
set_option maxRecDepth 20000 in
theorem ggX9_never_X8_nothingEverFalls : GoodIn wsX9_never wsX8_nothingEverFalls := goodIn_r _ [72, 66, 73, 74, 75, 76, 77, 78, 79, 60, 80, 81, 82, 83, 84, 85, 86, 87, 88, 89, 90, 67, 91, 92, 93, 64, 94, 95, 96, 97, 98, 99, 100, 101, 102, 54, 103, 56, 123, 124, 125, 126, 127, 128, 129, 130, 131, 132, 112, 113, 114, 115, 116, 117, 118, 119] (by decide +kernel) (by decide +kernel)
set_option maxRecDepth 20000 in
theorem gX9_never_X8_nothingEverFalls : GoodIn wsX9_never (wsV RX9 134 RX8 yX8_nothingEverFalls wsX8_nothingEverFalls) := goodIn_app (goodIn_of _ (by decide +kernel)) ggX9_never_X8_nothingEverFalls
theorem dX9_never_0 : decode cX9_never 0 = .ok (.aload_n 0, 1) := by decide +kernel
theorem dX9_never_1 : decode cX9_never 1 = .ok (.iload_n 1, 1) := by decide +kernel
theorem dX9_never_2 : decode cX9_never 2 = .ok (.iload_n 2, 1) := by decide +kernel
theorem dX9_never_3 : decode cX9_never 3 = .ok (.invokestatic 63, 3) := by decide +kernel
theorem dX9_never_6 : decode cX9_never 6 = .ok (.iload_n 2, 1) := by decide +kernel
theorem dX9_never_7 : decode cX9_never 7 = .ok (.iload_n 3, 1) := by decide +kernel
theorem dX9_never_8 : decode cX9_never 8 = .ok (.iload 4, 2) := by decide +kernel
theorem dX9_never_10 : decode cX9_never 10 = .ok (.invokevirtual 125, 3) := by decide +kernel
theorem dX9_never_13 : decode cX9_never 13 = .ok (.istore 5, 2) := by decide +kernel
theorem dX9_never_15 : decode cX9_never 15 = .ok (.iload 5, 2) := by decide +kernel
theorem dX9_never_17 : decode cX9_never 17 = .ok (.ifCond .eq 6, 3) := by decide +kernel
theorem dX9_never_20 : decode cX9_never 20 = .ok (.iload 5, 2) := by decide +kernel
theorem dX9_never_22 : decode cX9_never 22 = .ok (.ireturn, 1) := by decide +kernel
theorem dX9_never_23 : decode cX9_never 23 = .ok (.aload_n 0, 1) := by decide +kernel
theorem dX9_never_24 : decode cX9_never 24 = .ok (.getfield 30, 3) := by decide +kernel
theorem dX9_never_27 : decode cX9_never 27 = .ok (.invokevirtual 134, 3) := by decide +kernel
theorem dX9_never_30 : decode cX9_never 30 = .ok (.ifCond .eq 7, 3) := by decide +kernel
theorem dX9_never_33 : decode cX9_never 33 = .ok (.iconst 1, 1) := by decide +kernel
theorem dX9_never_34 : decode cX9_never 34 = .ok (.goto 4, 3) := by decide +kernel
theorem dX9_never_37 : decode cX9_never 37 = .ok (.iconst 0, 1) := by decide +kernel
theorem dX9_never_38 : decode cX9_never 38 = .ok (.ireturn, 1) := by decide +kernel
set_option maxRecDepth 20000 in
theorem ggX9_fall_X9_isLane : GoodIn wsX9_fall wsX9_isLane := goodIn_r _ [5] (by decide +kernel) (by decide +kernel)
set_option maxRecDepth 20000 in
theorem gX9_fall_X9_isLane : GoodIn wsX9_fall (va_wsS RX9 63 yX9_isLane wsX9_isLane) := goodIn_app (goodIn_of _ (by decide +kernel)) ggX9_fall_X9_isLane
set_option maxRecDepth 20000 in
theorem ggX9_fall_X9_refuseRound : GoodIn wsX9_fall wsX9_refuseRound := goodIn_r _ [9, 10, 11, 1, 12, 13, 14, 4, 15, 16, 17, 18, 19, 20, 21, 22, 23, 24, 25, 26, 27, 28, 29, 30, 31, 32, 33, 34, 35, 36, 37, 38, 39, 40, 41, 42, 43, 44, 45, 46, 47, 48, 49, 50, 51, 52, 53, 54, 55, 56, 57, 58, 59, 60, 61, 62, 63, 64, 65, 66, 67, 68, 120, 121, 122, 123, 124, 125, 126, 127, 128, 129, 130, 131, 132, 133, 134, 135, 136, 137, 138, 139, 140, 141, 142, 143, 144, 145, 146, 147, 148] (by decide +kernel) (by decide +kernel)
set_option maxRecDepth 20000 in
theorem gX9_fall_X9_refuseRound : GoodIn wsX9_fall (wsV RX9 125 RX9 yX9_refuseRound wsX9_refuseRound) := goodIn_app (goodIn_of _ (by decide +kernel)) ggX9_fall_X9_refuseRound
set_option maxRecDepth 20000 in
theorem ggX9_fall_X8_markFalls : GoodIn wsX9_fall wsX8_markFalls := goodIn_r _ [72, 73, 74, 75, 76, 77, 78, 79, 80, 81, 60, 82, 83, 84, 85, 86, 87, 88, 89, 90, 91, 67, 92, 93, 94, 64, 95, 96, 66, 97, 98, 99, 100, 101, 102, 103, 104, 139, 140, 141, 142, 143, 144, 145, 146, 147, 148, 128, 129, 130, 131, 132, 133, 134, 135] (by decide +kernel) (by decide +kernel)
set_option maxRecDepth 20000 in
theorem gX9_fall_X8_markFalls : GoodIn wsX9_fall (wsV RX9 128 RX8 yX8_markFalls wsX8_markFalls) := goodIn_app (goodIn_of _ (by decide +kernel)) ggX9_fall_X8_markFalls
set_option maxRecDepth 20000 in
theorem ggX9_fall_X8_countFalls : GoodIn wsX9_fall wsX8_countFalls := goodIn_r _ [108, 73, 109, 110, 111, 112, 113, 114, 115, 139, 140, 141, 142, 143, 144, 145, 146, 147, 148] (by decide +kernel) (by decide +kernel)
set_option maxRecDepth 20000 in
theorem gX9_fall_X8_countFalls : GoodIn wsX9_fall (wsV RX9 138 RX8 yX8_countFalls wsX8_countFalls) := goodIn_app (goodIn_of _ (by decide +kernel)) ggX9_fall_X8_countFalls
set_option maxRecDepth 20000 in
theorem ggX9_fall_X8_fallNumber : GoodIn wsX9_fall wsX8_fallNumber := goodIn_r _ [119, 73, 77, 78, 139, 140, 141, 142, 143, 144, 145, 146, 147, 148, 128, 129, 130, 131, 132, 133, 134, 135] (by decide +kernel) (by decide +kernel)
set_option maxRecDepth 20000 in
theorem gX9_fall_X8_fallNumber : GoodIn wsX9_fall (wsV RX9 141 RX8 yX8_fallNumber wsX8_fallNumber) := goodIn_app (goodIn_of _ (by decide +kernel)) ggX9_fall_X8_fallNumber
theorem dX9_fall_0 : decode cX9_fall 0 = .ok (.aload_n 0, 1) := by decide +kernel
theorem dX9_fall_1 : decode cX9_fall 1 = .ok (.iload 5, 2) := by decide +kernel
theorem dX9_fall_3 : decode cX9_fall 3 = .ok (.iconst (-1), 1) := by decide +kernel
theorem dX9_fall_4 : decode cX9_fall 4 = .ok (.if_icmp .ge 7, 3) := by decide +kernel
theorem dX9_fall_7 : decode cX9_fall 7 = .ok (.iconst (-1), 1) := by decide +kernel
theorem dX9_fall_8 : decode cX9_fall 8 = .ok (.goto 4, 3) := by decide +kernel
theorem dX9_fall_11 : decode cX9_fall 11 = .ok (.iload_n 1, 1) := by decide +kernel
theorem dX9_fall_12 : decode cX9_fall 12 = .ok (.iload_n 2, 1) := by decide +kernel
theorem dX9_fall_13 : decode cX9_fall 13 = .ok (.invokestatic 63, 3) := by decide +kernel
theorem dX9_fall_16 : decode cX9_fall 16 = .ok (.iload_n 2, 1) := by decide +kernel
theorem dX9_fall_17 : decode cX9_fall 17 = .ok (.iload_n 3, 1) := by decide +kernel
theorem dX9_fall_18 : decode cX9_fall 18 = .ok (.iload 4, 2) := by decide +kernel
theorem dX9_fall_20 : decode cX9_fall 20 = .ok (.invokevirtual 125, 3) := by decide +kernel
theorem dX9_fall_23 : decode cX9_fall 23 = .ok (.istore 6, 2) := by decide +kernel
theorem dX9_fall_25 : decode cX9_fall 25 = .ok (.iload 6, 2) := by decide +kernel
theorem dX9_fall_27 : decode cX9_fall 27 = .ok (.ifCond .eq 6, 3) := by decide +kernel
theorem dX9_fall_30 : decode cX9_fall 30 = .ok (.iload 6, 2) := by decide +kernel
theorem dX9_fall_32 : decode cX9_fall 32 = .ok (.ireturn, 1) := by decide +kernel
theorem dX9_fall_33 : decode cX9_fall 33 = .ok (.aload_n 0, 1) := by decide +kernel
theorem dX9_fall_34 : decode cX9_fall 34 = .ok (.getfield 30, 3) := by decide +kernel
theorem dX9_fall_37 : decode cX9_fall 37 = .ok (.invokevirtual 128, 3) := by decide +kernel
theorem dX9_fall_40 : decode cX9_fall 40 = .ok (.iload 5, 2) := by decide +kernel
theorem dX9_fall_42 : decode cX9_fall 42 = .ok (.iconst (-1), 1) := by decide +kernel
theorem dX9_fall_43 : decode cX9_fall 43 = .ok (.if_icmp .ne 13, 3) := by decide +kernel
theorem dX9_fall_46 : decode cX9_fall 46 = .ok (.aload_n 0, 1) := by decide +kernel
theorem dX9_fall_47 : decode cX9_fall 47 = .ok (.getfield 30, 3) := by decide +kernel
theorem dX9_fall_50 : decode cX9_fall 50 = .ok (.invokevirtual 138, 3) := by decide +kernel
theorem dX9_fall_53 : decode cX9_fall 53 = .ok (.goto 12, 3) := by decide +kernel
theorem dX9_fall_56 : decode cX9_fall 56 = .ok (.aload_n 0, 1) := by decide +kernel
theorem dX9_fall_57 : decode cX9_fall 57 = .ok (.getfield 30, 3) := by decide +kernel
theorem dX9_fall_60 : decode cX9_fall 60 = .ok (.iload 5, 2) := by decide +kernel
theorem dX9_fall_62 : decode cX9_fall 62 = .ok (.invokevirtual 141, 3) := by decide +kernel
theorem dX9_fall_65 : decode cX9_fall 65 = .ok (.ireturn, 1) := by decide +kernel
set_option maxRecDepth 20000 in
theorem ggX9_nail_X9_isLane : GoodIn wsX9_nail wsX9_isLane := goodIn_r _ [5] (by decide +kernel) (by decide +kernel)
set_option maxRecDepth 20000 in
theorem gX9_nail_X9_isLane : GoodIn wsX9_nail (va_wsS RX9 63 yX9_isLane wsX9_isLane) := goodIn_app (goodIn_of _ (by decide +kernel)) ggX9_nail_X9_isLane
set_option maxRecDepth 20000 in
theorem ggX9_nail_X9_isMinute : GoodIn wsX9_nail wsX9_isMinute := goodIn_r _ [8] (by decide +kernel) (by decide +kernel)
set_option maxRecDepth 20000 in
theorem gX9_nail_X9_isMinute : GoodIn wsX9_nail (va_wsS RX9 144 yX9_isMinute wsX9_isMinute) := goodIn_app (goodIn_of _ (by decide +kernel)) ggX9_nail_X9_isMinute
set_option maxRecDepth 20000 in
theorem ggX9_nail_X9_refuseRound : GoodIn wsX9_nail wsX9_refuseRound := goodIn_r _ [12, 13, 14, 1, 15, 16, 17, 4, 18, 19, 20, 21, 22, 23, 24, 25, 26, 27, 28, 29, 30, 31, 32, 33, 34, 35, 36, 37, 38, 39, 40, 41, 42, 43, 44, 45, 46, 47, 48, 49, 50, 51, 52, 53, 54, 55, 56, 57, 58, 59, 60, 61, 62, 63, 64, 65, 66, 67, 68, 69, 70, 71, 99, 100, 101, 102, 103, 104, 105, 106, 107, 108, 109, 110, 111, 112, 113, 114, 115, 116, 117, 118, 119, 120, 121, 122, 123, 124, 125, 126, 127] (by decide +kernel) (by decide +kernel)
set_option maxRecDepth 20000 in
theorem gX9_nail_X9_refuseRound : GoodIn wsX9_nail (wsV RX9 125 RX9 yX9_refuseRound wsX9_refuseRound) := goodIn_app (goodIn_of _ (by decide +kernel)) ggX9_nail_X9_refuseRound
set_option maxRecDepth 20000 in
theorem ggX9_nail_X8_whereAt : GoodIn wsX9_nail wsX8_whereAt := goodIn_r _ [75, 76, 77, 78, 79, 80, 81, 63, 82, 83, 84, 85, 86, 87, 88, 89, 90, 91, 92, 93, 70, 94, 95, 96, 67, 97, 98, 69, 118, 119, 120, 121, 122, 123, 124, 125, 126, 127, 107, 108, 109, 110, 111, 112, 113, 114] (by decide +kernel) (by decide +kernel)
set_option maxRecDepth 20000 in
theorem gX9_nail_X8_whereAt : GoodIn wsX9_nail (wsV RX9 147 RX8 yX8_whereAt wsX8_whereAt) := goodIn_app (goodIn_of _ (by decide +kernel)) ggX9_nail_X8_whereAt
theorem dX9_nail_0 : decode cX9_nail 0 = .ok (.aload_n 0, 1) := by decide +kernel
theorem dX9_nail_1 : decode cX9_nail 1 = .ok (.iload_n 1, 1) := by decide +kernel
theorem dX9_nail_2 : decode cX9_nail 2 = .ok (.iload_n 2, 1) := by decide +kernel
theorem dX9_nail_3 : decode cX9_nail 3 = .ok (.invokestatic 63, 3) := by decide +kernel
theorem dX9_nail_6 : decode cX9_nail 6 = .ok (.ifCond .eq 15, 3) := by decide +kernel
theorem dX9_nail_9 : decode cX9_nail 9 = .ok (.iload 5, 2) := by decide +kernel
theorem dX9_nail_11 : decode cX9_nail 11 = .ok (.invokestatic 144, 3) := by decide +kernel
theorem dX9_nail_14 : decode cX9_nail 14 = .ok (.ifCond .eq 7, 3) := by decide +kernel
theorem dX9_nail_17 : decode cX9_nail 17 = .ok (.iconst 1, 1) := by decide +kernel
theorem dX9_nail_18 : decode cX9_nail 18 = .ok (.goto 4, 3) := by decide +kernel
theorem dX9_nail_21 : decode cX9_nail 21 = .ok (.iconst 0, 1) := by decide +kernel
theorem dX9_nail_22 : decode cX9_nail 22 = .ok (.iload_n 2, 1) := by decide +kernel
theorem dX9_nail_23 : decode cX9_nail 23 = .ok (.iload_n 3, 1) := by decide +kernel
theorem dX9_nail_24 : decode cX9_nail 24 = .ok (.iload 4, 2) := by decide +kernel
theorem dX9_nail_26 : decode cX9_nail 26 = .ok (.invokevirtual 125, 3) := by decide +kernel
theorem dX9_nail_29 : decode cX9_nail 29 = .ok (.istore 6, 2) := by decide +kernel
theorem dX9_nail_31 : decode cX9_nail 31 = .ok (.iload 6, 2) := by decide +kernel
theorem dX9_nail_33 : decode cX9_nail 33 = .ok (.ifCond .eq 6, 3) := by decide +kernel
theorem dX9_nail_36 : decode cX9_nail 36 = .ok (.iload 6, 2) := by decide +kernel
theorem dX9_nail_38 : decode cX9_nail 38 = .ok (.ireturn, 1) := by decide +kernel
theorem dX9_nail_39 : decode cX9_nail 39 = .ok (.aload_n 0, 1) := by decide +kernel
theorem dX9_nail_40 : decode cX9_nail 40 = .ok (.getfield 30, 3) := by decide +kernel
theorem dX9_nail_43 : decode cX9_nail 43 = .ok (.iload 5, 2) := by decide +kernel
theorem dX9_nail_45 : decode cX9_nail 45 = .ok (.invokevirtual 147, 3) := by decide +kernel
theorem dX9_nail_48 : decode cX9_nail 48 = .ok (.ireturn, 1) := by decide +kernel
set_option maxRecDepth 20000 in
theorem ggX9_best_X9_isSpan : GoodIn wsX9_best wsX9_isSpan := goodIn_r _ [8] (by decide +kernel) (by decide +kernel)
set_option maxRecDepth 20000 in
theorem gX9_best_X9_isSpan : GoodIn wsX9_best (va_wsS RX9 122 yX9_isSpan wsX9_isSpan) := goodIn_app (goodIn_of _ (by decide +kernel)) ggX9_best_X9_isSpan
set_option maxRecDepth 20000 in
theorem ggX9_best_X5_all : GoodIn wsX9_best wsX5_all := goodIn_r _ [13, 14, 77, 78, 79, 80, 81, 82, 83, 84] (by decide +kernel) (by decide +kernel)
set_option maxRecDepth 20000 in
theorem gX9_best_X5_all : GoodIn wsX9_best (wsV RX9 150 RX5 yX5_all wsX5_all) := goodIn_app (goodIn_of _ (by decide +kernel)) ggX9_best_X5_all
set_option maxRecDepth 20000 in
theorem ggX9_best_X2_leastHarm : GoodIn wsX9_best wsX2_leastHarm := goodIn_r _ [19, 20, 21, 22, 23, 18, 24, 25, 26, 27, 28, 29, 30, 31, 32, 33, 34, 35, 36, 37, 38, 39, 40, 41, 42, 43, 44, 45, 46, 47, 48, 49, 50, 51, 52, 53, 54, 55, 56, 57, 58, 59, 60, 61, 62, 63, 64, 85, 86, 87, 88, 89, 90, 77, 78, 79, 80, 81, 82, 83, 84] (by decide +kernel) (by decide +kernel)
set_option maxRecDepth 20000 in
theorem gX9_best_X2_leastHarm : GoodIn wsX9_best (wsV RX9 153 RX2 yX2_leastHarm wsX2_leastHarm) := goodIn_app (goodIn_of _ (by decide +kernel)) ggX9_best_X2_leastHarm
set_option maxRecDepth 20000 in
theorem ggX9_best_X2_keptAt : GoodIn wsX9_best wsX2_keptAt := goodIn_r _ [68, 25, 56, 85, 86, 87, 88, 89, 90] (by decide +kernel) (by decide +kernel)
set_option maxRecDepth 20000 in
theorem gX9_best_X2_keptAt : GoodIn wsX9_best (wsV RX9 157 RX2 yX2_keptAt wsX2_keptAt) := goodIn_app (goodIn_of _ (by decide +kernel)) ggX9_best_X2_keptAt
theorem dX9_best_0 : decode cX9_best 0 = .ok (.aload_n 0, 1) := by decide +kernel
theorem dX9_best_1 : decode cX9_best 1 = .ok (.getfield 12, 3) := by decide +kernel
theorem dX9_best_4 : decode cX9_best 4 = .ok (.getfield 83, 3) := by decide +kernel
theorem dX9_best_7 : decode cX9_best 7 = .ok (.ifCond .ne 6, 3) := by decide +kernel
theorem dX9_best_10 : decode cX9_best 10 = .ok (.bipush (-3), 2) := by decide +kernel
theorem dX9_best_12 : decode cX9_best 12 = .ok (.ireturn, 1) := by decide +kernel
theorem dX9_best_13 : decode cX9_best 13 = .ok (.iload_n 1, 1) := by decide +kernel
theorem dX9_best_14 : decode cX9_best 14 = .ok (.invokestatic 122, 3) := by decide +kernel
theorem dX9_best_17 : decode cX9_best 17 = .ok (.ifCond .ne 6, 3) := by decide +kernel
theorem dX9_best_20 : decode cX9_best 20 = .ok (.bipush (-2), 2) := by decide +kernel
theorem dX9_best_22 : decode cX9_best 22 = .ok (.ireturn, 1) := by decide +kernel
theorem dX9_best_23 : decode cX9_best 23 = .ok (.iload_n 2, 1) := by decide +kernel
theorem dX9_best_24 : decode cX9_best 24 = .ok (.iconst (-1), 1) := by decide +kernel
theorem dX9_best_25 : decode cX9_best 25 = .ok (.if_icmp .lt 14, 3) := by decide +kernel
theorem dX9_best_28 : decode cX9_best 28 = .ok (.iload_n 2, 1) := by decide +kernel
theorem dX9_best_29 : decode cX9_best 29 = .ok (.aload_n 0, 1) := by decide +kernel
theorem dX9_best_30 : decode cX9_best 30 = .ok (.getfield 12, 3) := by decide +kernel
theorem dX9_best_33 : decode cX9_best 33 = .ok (.getfield 83, 3) := by decide +kernel
theorem dX9_best_36 : decode cX9_best 36 = .ok (.if_icmp .lt 5, 3) := by decide +kernel
theorem dX9_best_39 : decode cX9_best 39 = .ok (.iconst (-1), 1) := by decide +kernel
theorem dX9_best_40 : decode cX9_best 40 = .ok (.ireturn, 1) := by decide +kernel
theorem dX9_best_41 : decode cX9_best 41 = .ok (.aload_n 0, 1) := by decide +kernel
theorem dX9_best_42 : decode cX9_best 42 = .ok (.getfield 37, 3) := by decide +kernel
theorem dX9_best_45 : decode cX9_best 45 = .ok (.aload_n 0, 1) := by decide +kernel
theorem dX9_best_46 : decode cX9_best 46 = .ok (.getfield 12, 3) := by decide +kernel
theorem dX9_best_49 : decode cX9_best 49 = .ok (.invokevirtual 150, 3) := by decide +kernel
theorem dX9_best_52 : decode cX9_best 52 = .ok (.aload_n 0, 1) := by decide +kernel
theorem dX9_best_53 : decode cX9_best 53 = .ok (.getfield 12, 3) := by decide +kernel
theorem dX9_best_56 : decode cX9_best 56 = .ok (.getfield 115, 3) := by decide +kernel
theorem dX9_best_59 : decode cX9_best 59 = .ok (.iload_n 1, 1) := by decide +kernel
theorem dX9_best_60 : decode cX9_best 60 = .ok (.invokevirtual 153, 3) := by decide +kernel
theorem dX9_best_63 : decode cX9_best 63 = .ok (.istore_n 3, 1) := by decide +kernel
theorem dX9_best_64 : decode cX9_best 64 = .ok (.iload_n 2, 1) := by decide +kernel
theorem dX9_best_65 : decode cX9_best 65 = .ok (.iconst (-1), 1) := by decide +kernel
theorem dX9_best_66 : decode cX9_best 66 = .ok (.if_icmp .ne 7, 3) := by decide +kernel
theorem dX9_best_69 : decode cX9_best 69 = .ok (.iload_n 3, 1) := by decide +kernel
theorem dX9_best_70 : decode cX9_best 70 = .ok (.goto 11, 3) := by decide +kernel
theorem dX9_best_73 : decode cX9_best 73 = .ok (.aload_n 0, 1) := by decide +kernel
theorem dX9_best_74 : decode cX9_best 74 = .ok (.getfield 37, 3) := by decide +kernel
theorem dX9_best_77 : decode cX9_best 77 = .ok (.iload_n 2, 1) := by decide +kernel
theorem dX9_best_78 : decode cX9_best 78 = .ok (.invokevirtual 157, 3) := by decide +kernel
theorem dX9_best_81 : decode cX9_best 81 = .ok (.ireturn, 1) := by decide +kernel
set_option maxRecDepth 20000 in
theorem ggX9_safe_X5_all : GoodIn wsX9_safe wsX5_all := goodIn_r _ [9, 10, 59, 60, 61, 62, 63, 64, 65, 66] (by decide +kernel) (by decide +kernel)
set_option maxRecDepth 20000 in
theorem gX9_safe_X5_all : GoodIn wsX9_safe (wsV RX9 150 RX5 yX5_all wsX5_all) := goodIn_app (goodIn_of _ (by decide +kernel)) ggX9_safe_X5_all
set_option maxRecDepth 20000 in
theorem ggX9_safe_X2_countSafe : GoodIn wsX9_safe wsX2_countSafe := goodIn_r _ [15, 16, 17, 18, 19, 20, 14, 21, 22, 23, 24, 25, 26, 27, 28, 29, 30, 31, 32, 33, 34, 35, 36, 37, 38, 39, 40, 41, 42, 43, 44, 45, 46, 47, 48, 49, 50, 67, 68, 69, 70, 71, 72, 59, 60, 61, 62, 63, 64, 65, 66] (by decide +kernel) (by decide +kernel)
set_option maxRecDepth 20000 in
theorem gX9_safe_X2_countSafe : GoodIn wsX9_safe (wsV RX9 161 RX2 yX2_countSafe wsX2_countSafe) := goodIn_app (goodIn_of _ (by decide +kernel)) ggX9_safe_X2_countSafe
theorem dX9_safe_0 : decode cX9_safe 0 = .ok (.aload_n 0, 1) := by decide +kernel
theorem dX9_safe_1 : decode cX9_safe 1 = .ok (.getfield 12, 3) := by decide +kernel
theorem dX9_safe_4 : decode cX9_safe 4 = .ok (.getfield 83, 3) := by decide +kernel
theorem dX9_safe_7 : decode cX9_safe 7 = .ok (.ifCond .ne 6, 3) := by decide +kernel
theorem dX9_safe_10 : decode cX9_safe 10 = .ok (.bipush (-3), 2) := by decide +kernel
theorem dX9_safe_12 : decode cX9_safe 12 = .ok (.ireturn, 1) := by decide +kernel
theorem dX9_safe_13 : decode cX9_safe 13 = .ok (.aload_n 0, 1) := by decide +kernel
theorem dX9_safe_14 : decode cX9_safe 14 = .ok (.getfield 37, 3) := by decide +kernel
theorem dX9_safe_17 : decode cX9_safe 17 = .ok (.aload_n 0, 1) := by decide +kernel
theorem dX9_safe_18 : decode cX9_safe 18 = .ok (.getfield 12, 3) := by decide +kernel
theorem dX9_safe_21 : decode cX9_safe 21 = .ok (.invokevirtual 150, 3) := by decide +kernel
theorem dX9_safe_24 : decode cX9_safe 24 = .ok (.ldc 160, 2) := by decide +kernel
theorem dX9_safe_26 : decode cX9_safe 26 = .ok (.invokevirtual 161, 3) := by decide +kernel
theorem dX9_safe_29 : decode cX9_safe 29 = .ok (.ireturn, 1) := by decide +kernel
set_option maxRecDepth 20000 in
theorem ggX9_letGo_X5_all : GoodIn wsX9_letGo wsX5_all := goodIn_r _ [8, 9, 65, 66, 67, 68, 69, 70, 71, 72] (by decide +kernel) (by decide +kernel)
set_option maxRecDepth 20000 in
theorem gX9_letGo_X5_all : GoodIn wsX9_letGo (wsV RX9 150 RX5 yX5_all wsX5_all) := goodIn_app (goodIn_of _ (by decide +kernel)) ggX9_letGo_X5_all
set_option maxRecDepth 20000 in
theorem ggX9_letGo_J6_bitCount_0f7a4 : GoodIn wsX9_letGo wsJ6_bitCount_0f7a4 := goodIn_r _ [13, 14, 15, 16] (by decide +kernel) (by decide +kernel)
set_option maxRecDepth 20000 in
theorem gX9_letGo_J6_bitCount_0f7a4 : GoodIn wsX9_letGo (va_wsS RX9 165 yJ6_bitCount_0f7a4 wsJ6_bitCount_0f7a4) := goodIn_app (goodIn_of _ (by decide +kernel)) ggX9_letGo_J6_bitCount_0f7a4
set_option maxRecDepth 20000 in
theorem ggX9_letGo_X2_countSafe : GoodIn wsX9_letGo wsX2_countSafe := goodIn_r _ [21, 22, 23, 24, 25, 26, 20, 27, 28, 29, 30, 31, 32, 33, 34, 35, 36, 37, 38, 39, 40, 41, 42, 43, 44, 45, 46, 47, 48, 49, 50, 51, 52, 53, 54, 55, 56, 73, 74, 75, 76, 77, 78, 65, 66, 67, 68, 69, 70, 71, 72] (by decide +kernel) (by decide +kernel)
set_option maxRecDepth 20000 in
theorem gX9_letGo_X2_countSafe : GoodIn wsX9_letGo (wsV RX9 161 RX2 yX2_countSafe wsX2_countSafe) := goodIn_app (goodIn_of _ (by decide +kernel)) ggX9_letGo_X2_countSafe
theorem dX9_letGo_0 : decode cX9_letGo 0 = .ok (.aload_n 0, 1) := by decide +kernel
theorem dX9_letGo_1 : decode cX9_letGo 1 = .ok (.getfield 12, 3) := by decide +kernel
theorem dX9_letGo_4 : decode cX9_letGo 4 = .ok (.getfield 83, 3) := by decide +kernel
theorem dX9_letGo_7 : decode cX9_letGo 7 = .ok (.ifCond .ne 6, 3) := by decide +kernel
theorem dX9_letGo_10 : decode cX9_letGo 10 = .ok (.bipush (-3), 2) := by decide +kernel
theorem dX9_letGo_12 : decode cX9_letGo 12 = .ok (.ireturn, 1) := by decide +kernel
theorem dX9_letGo_13 : decode cX9_letGo 13 = .ok (.aload_n 0, 1) := by decide +kernel
theorem dX9_letGo_14 : decode cX9_letGo 14 = .ok (.getfield 12, 3) := by decide +kernel
theorem dX9_letGo_17 : decode cX9_letGo 17 = .ok (.invokevirtual 150, 3) := by decide +kernel
theorem dX9_letGo_20 : decode cX9_letGo 20 = .ok (.istore_n 1, 1) := by decide +kernel
theorem dX9_letGo_21 : decode cX9_letGo 21 = .ok (.iload_n 1, 1) := by decide +kernel
theorem dX9_letGo_22 : decode cX9_letGo 22 = .ok (.istore_n 2, 1) := by decide +kernel
theorem dX9_letGo_23 : decode cX9_letGo 23 = .ok (.iconst 0, 1) := by decide +kernel
theorem dX9_letGo_24 : decode cX9_letGo 24 = .ok (.istore_n 3, 1) := by decide +kernel
theorem dX9_letGo_25 : decode cX9_letGo 25 = .ok (.iload_n 3, 1) := by decide +kernel
theorem dX9_letGo_26 : decode cX9_letGo 26 = .ok (.iload_n 1, 1) := by decide +kernel
theorem dX9_letGo_27 : decode cX9_letGo 27 = .ok (.if_icmp .gt 50, 3) := by decide +kernel
theorem dX9_letGo_30 : decode cX9_letGo 30 = .ok (.iload_n 3, 1) := by decide +kernel
theorem dX9_letGo_31 : decode cX9_letGo 31 = .ok (.invokestatic 165, 3) := by decide +kernel
theorem dX9_letGo_34 : decode cX9_letGo 34 = .ok (.iload_n 2, 1) := by decide +kernel
theorem dX9_letGo_35 : decode cX9_letGo 35 = .ok (.invokestatic 165, 3) := by decide +kernel
theorem dX9_letGo_38 : decode cX9_letGo 38 = .ok (.if_icmp .ge 7, 3) := by decide +kernel
theorem dX9_letGo_41 : decode cX9_letGo 41 = .ok (.iconst 1, 1) := by decide +kernel
theorem dX9_letGo_42 : decode cX9_letGo 42 = .ok (.goto 4, 3) := by decide +kernel
theorem dX9_letGo_45 : decode cX9_letGo 45 = .ok (.iconst 0, 1) := by decide +kernel
theorem dX9_letGo_46 : decode cX9_letGo 46 = .ok (.istore 4, 2) := by decide +kernel
theorem dX9_letGo_48 : decode cX9_letGo 48 = .ok (.iload 4, 2) := by decide +kernel
theorem dX9_letGo_50 : decode cX9_letGo 50 = .ok (.ifCond .eq 21, 3) := by decide +kernel
theorem dX9_letGo_53 : decode cX9_letGo 53 = .ok (.aload_n 0, 1) := by decide +kernel
theorem dX9_letGo_54 : decode cX9_letGo 54 = .ok (.getfield 37, 3) := by decide +kernel
theorem dX9_letGo_57 : decode cX9_letGo 57 = .ok (.iload_n 1, 1) := by decide +kernel
theorem dX9_letGo_58 : decode cX9_letGo 58 = .ok (.iload_n 3, 1) := by decide +kernel
theorem dX9_letGo_59 : decode cX9_letGo 59 = .ok (.iconst (-1), 1) := by decide +kernel
theorem dX9_letGo_60 : decode cX9_letGo 60 = .ok (.ixor, 1) := by decide +kernel
theorem dX9_letGo_61 : decode cX9_letGo 61 = .ok (.iand, 1) := by decide +kernel
theorem dX9_letGo_62 : decode cX9_letGo 62 = .ok (.iconst 1, 1) := by decide +kernel
theorem dX9_letGo_63 : decode cX9_letGo 63 = .ok (.invokevirtual 161, 3) := by decide +kernel
theorem dX9_letGo_66 : decode cX9_letGo 66 = .ok (.ifCond .le 5, 3) := by decide +kernel
theorem dX9_letGo_69 : decode cX9_letGo 69 = .ok (.iload_n 3, 1) := by decide +kernel
theorem dX9_letGo_70 : decode cX9_letGo 70 = .ok (.istore_n 2, 1) := by decide +kernel
theorem dX9_letGo_71 : decode cX9_letGo 71 = .ok (.iinc 3 1, 3) := by decide +kernel
theorem dX9_letGo_74 : decode cX9_letGo 74 = .ok (.goto (-49), 3) := by decide +kernel
theorem dX9_letGo_77 : decode cX9_letGo 77 = .ok (.iload_n 2, 1) := by decide +kernel
theorem dX9_letGo_78 : decode cX9_letGo 78 = .ok (.ireturn, 1) := by decide +kernel
set_option maxRecDepth 20000 in
theorem ggX9_two_X9_isSpan : GoodIn wsX9_two wsX9_isSpan := goodIn_r _ [9] (by decide +kernel) (by decide +kernel)
set_option maxRecDepth 20000 in
theorem gX9_two_X9_isSpan : GoodIn wsX9_two (va_wsS RX9 122 yX9_isSpan wsX9_isSpan) := goodIn_app (goodIn_of _ (by decide +kernel)) ggX9_two_X9_isSpan
set_option maxRecDepth 20000 in
theorem ggX9_two_X9_isHalf : GoodIn wsX9_two wsX9_isHalf := goodIn_r _ [12] (by decide +kernel) (by decide +kernel)
set_option maxRecDepth 20000 in
theorem gX9_two_X9_isHalf : GoodIn wsX9_two (va_wsS RX9 170 yX9_isHalf wsX9_isHalf) := goodIn_app (goodIn_of _ (by decide +kernel)) ggX9_two_X9_isHalf
set_option maxRecDepth 20000 in
theorem ggX9_two_X5_all : GoodIn wsX9_two wsX5_all := goodIn_r _ [17, 18, 81, 82, 83, 84, 85, 86, 87, 88] (by decide +kernel) (by decide +kernel)
set_option maxRecDepth 20000 in
theorem gX9_two_X5_all : GoodIn wsX9_two (wsV RX9 150 RX5 yX5_all wsX5_all) := goodIn_app (goodIn_of _ (by decide +kernel)) ggX9_two_X5_all
set_option maxRecDepth 20000 in
theorem ggX9_two_X2_leastHarm : GoodIn wsX9_two wsX2_leastHarm := goodIn_r _ [23, 24, 25, 26, 27, 22, 28, 29, 30, 31, 32, 33, 34, 35, 36, 37, 38, 39, 40, 41, 42, 43, 44, 45, 46, 47, 48, 49, 50, 51, 52, 53, 54, 55, 56, 57, 58, 59, 60, 61, 62, 63, 64, 65, 66, 67, 68, 89, 90, 91, 92, 93, 94, 81, 82, 83, 84, 85, 86, 87, 88] (by decide +kernel) (by decide +kernel)
set_option maxRecDepth 20000 in
theorem gX9_two_X2_leastHarm : GoodIn wsX9_two (wsV RX9 153 RX2 yX2_leastHarm wsX2_leastHarm) := goodIn_app (goodIn_of _ (by decide +kernel)) ggX9_two_X2_leastHarm
set_option maxRecDepth 20000 in
theorem ggX9_two_X9_harmOfBoth : GoodIn wsX9_two wsX9_harmOfBoth := goodIn_r _ [72, 1, 3, 13, 14, 15, 16, 17, 18, 73, 74, 75, 76, 77, 78, 79, 80, 81, 82, 83, 84, 85, 86, 87, 88] (by decide +kernel) (by decide +kernel)
set_option maxRecDepth 20000 in
theorem gX9_two_X9_harmOfBoth : GoodIn wsX9_two (wsV RX9 173 RX9 yX9_harmOfBoth wsX9_harmOfBoth) := goodIn_app (goodIn_of _ (by decide +kernel)) ggX9_two_X9_harmOfBoth
theorem dX9_two_0 : decode cX9_two 0 = .ok (.aload_n 0, 1) := by decide +kernel
theorem dX9_two_1 : decode cX9_two 1 = .ok (.getfield 12, 3) := by decide +kernel
theorem dX9_two_4 : decode cX9_two 4 = .ok (.getfield 83, 3) := by decide +kernel
theorem dX9_two_7 : decode cX9_two 7 = .ok (.ifCond .ne 6, 3) := by decide +kernel
theorem dX9_two_10 : decode cX9_two 10 = .ok (.bipush (-3), 2) := by decide +kernel
theorem dX9_two_12 : decode cX9_two 12 = .ok (.ireturn, 1) := by decide +kernel
theorem dX9_two_13 : decode cX9_two 13 = .ok (.iload_n 1, 1) := by decide +kernel
theorem dX9_two_14 : decode cX9_two 14 = .ok (.invokestatic 122, 3) := by decide +kernel
theorem dX9_two_17 : decode cX9_two 17 = .ok (.ifCond .eq 10, 3) := by decide +kernel
theorem dX9_two_20 : decode cX9_two 20 = .ok (.iload_n 2, 1) := by decide +kernel
theorem dX9_two_21 : decode cX9_two 21 = .ok (.invokestatic 170, 3) := by decide +kernel
theorem dX9_two_24 : decode cX9_two 24 = .ok (.ifCond .ne 6, 3) := by decide +kernel
theorem dX9_two_27 : decode cX9_two 27 = .ok (.bipush (-2), 2) := by decide +kernel
theorem dX9_two_29 : decode cX9_two 29 = .ok (.ireturn, 1) := by decide +kernel
theorem dX9_two_30 : decode cX9_two 30 = .ok (.aload_n 0, 1) := by decide +kernel
theorem dX9_two_31 : decode cX9_two 31 = .ok (.getfield 12, 3) := by decide +kernel
theorem dX9_two_34 : decode cX9_two 34 = .ok (.invokevirtual 150, 3) := by decide +kernel
theorem dX9_two_37 : decode cX9_two 37 = .ok (.istore_n 3, 1) := by decide +kernel
theorem dX9_two_38 : decode cX9_two 38 = .ok (.iconst 0, 1) := by decide +kernel
theorem dX9_two_39 : decode cX9_two 39 = .ok (.istore 4, 2) := by decide +kernel
theorem dX9_two_41 : decode cX9_two 41 = .ok (.iload 4, 2) := by decide +kernel
theorem dX9_two_43 : decode cX9_two 43 = .ok (.iload_n 3, 1) := by decide +kernel
theorem dX9_two_44 : decode cX9_two 44 = .ok (.if_icmp .gt 43, 3) := by decide +kernel
theorem dX9_two_47 : decode cX9_two 47 = .ok (.iload 4, 2) := by decide +kernel
theorem dX9_two_49 : decode cX9_two 49 = .ok (.aload_n 0, 1) := by decide +kernel
theorem dX9_two_50 : decode cX9_two 50 = .ok (.getfield 47, 3) := by decide +kernel
theorem dX9_two_53 : decode cX9_two 53 = .ok (.arraylength, 1) := by decide +kernel
theorem dX9_two_54 : decode cX9_two 54 = .ok (.if_icmp .ge 33, 3) := by decide +kernel
theorem dX9_two_57 : decode cX9_two 57 = .ok (.aload_n 0, 1) := by decide +kernel
theorem dX9_two_58 : decode cX9_two 58 = .ok (.getfield 47, 3) := by decide +kernel
theorem dX9_two_61 : decode cX9_two 61 = .ok (.iload 4, 2) := by decide +kernel
theorem dX9_two_63 : decode cX9_two 63 = .ok (.aload_n 0, 1) := by decide +kernel
theorem dX9_two_64 : decode cX9_two 64 = .ok (.getfield 37, 3) := by decide +kernel
theorem dX9_two_67 : decode cX9_two 67 = .ok (.iload 4, 2) := by decide +kernel
theorem dX9_two_69 : decode cX9_two 69 = .ok (.aload_n 0, 1) := by decide +kernel
theorem dX9_two_70 : decode cX9_two 70 = .ok (.getfield 12, 3) := by decide +kernel
theorem dX9_two_73 : decode cX9_two 73 = .ok (.getfield 115, 3) := by decide +kernel
theorem dX9_two_76 : decode cX9_two 76 = .ok (.iload_n 1, 1) := by decide +kernel
theorem dX9_two_77 : decode cX9_two 77 = .ok (.invokevirtual 153, 3) := by decide +kernel
theorem dX9_two_80 : decode cX9_two 80 = .ok (.iastore, 1) := by decide +kernel
theorem dX9_two_81 : decode cX9_two 81 = .ok (.iinc 4 1, 3) := by decide +kernel
theorem dX9_two_84 : decode cX9_two 84 = .ok (.goto (-43), 3) := by decide +kernel
theorem dX9_two_87 : decode cX9_two 87 = .ok (.iconst 0, 1) := by decide +kernel
theorem dX9_two_88 : decode cX9_two 88 = .ok (.istore 4, 2) := by decide +kernel
theorem dX9_two_90 : decode cX9_two 90 = .ok (.iconst 1, 1) := by decide +kernel
theorem dX9_two_91 : decode cX9_two 91 = .ok (.istore 5, 2) := by decide +kernel
theorem dX9_two_93 : decode cX9_two 93 = .ok (.iload 5, 2) := by decide +kernel
theorem dX9_two_95 : decode cX9_two 95 = .ok (.iload_n 3, 1) := by decide +kernel
theorem dX9_two_96 : decode cX9_two 96 = .ok (.if_icmp .gt 28, 3) := by decide +kernel
theorem dX9_two_99 : decode cX9_two 99 = .ok (.aload_n 0, 1) := by decide +kernel
theorem dX9_two_100 : decode cX9_two 100 = .ok (.iload 5, 2) := by decide +kernel
theorem dX9_two_102 : decode cX9_two 102 = .ok (.invokevirtual 173, 3) := by decide +kernel
theorem dX9_two_105 : decode cX9_two 105 = .ok (.aload_n 0, 1) := by decide +kernel
theorem dX9_two_106 : decode cX9_two 106 = .ok (.iload 4, 2) := by decide +kernel
theorem dX9_two_108 : decode cX9_two 108 = .ok (.invokevirtual 173, 3) := by decide +kernel
theorem dX9_two_111 : decode cX9_two 111 = .ok (.if_icmp .ge 7, 3) := by decide +kernel
theorem dX9_two_114 : decode cX9_two 114 = .ok (.iload 5, 2) := by decide +kernel
theorem dX9_two_116 : decode cX9_two 116 = .ok (.istore 4, 2) := by decide +kernel
theorem dX9_two_118 : decode cX9_two 118 = .ok (.iinc 5 1, 3) := by decide +kernel
theorem dX9_two_121 : decode cX9_two 121 = .ok (.goto (-28), 3) := by decide +kernel
theorem dX9_two_124 : decode cX9_two 124 = .ok (.iload_n 2, 1) := by decide +kernel
theorem dX9_two_125 : decode cX9_two 125 = .ok (.ifCond .ne 8, 3) := by decide +kernel
theorem dX9_two_128 : decode cX9_two 128 = .ok (.iload 4, 2) := by decide +kernel
theorem dX9_two_130 : decode cX9_two 130 = .ok (.goto 9, 3) := by decide +kernel
theorem dX9_two_133 : decode cX9_two 133 = .ok (.aload_n 0, 1) := by decide +kernel
theorem dX9_two_134 : decode cX9_two 134 = .ok (.iload 4, 2) := by decide +kernel
theorem dX9_two_136 : decode cX9_two 136 = .ok (.invokevirtual 173, 3) := by decide +kernel
theorem dX9_two_139 : decode cX9_two 139 = .ok (.ireturn, 1) := by decide +kernel
set_option maxRecDepth 20000 in
theorem ggX9_site_X9_isSpan : GoodIn wsX9_site wsX9_isSpan := goodIn_r _ [7] (by decide +kernel) (by decide +kernel)
set_option maxRecDepth 20000 in
theorem gX9_site_X9_isSpan : GoodIn wsX9_site (va_wsS RX9 122 yX9_isSpan wsX9_isSpan) := goodIn_app (goodIn_of _ (by decide +kernel)) ggX9_site_X9_isSpan
set_option maxRecDepth 20000 in
theorem ggX9_site_X9_isHalf : GoodIn wsX9_site wsX9_isHalf := goodIn_r _ [10] (by decide +kernel) (by decide +kernel)
set_option maxRecDepth 20000 in
theorem gX9_site_X9_isHalf : GoodIn wsX9_site (va_wsS RX9 170 yX9_isHalf wsX9_isHalf) := goodIn_app (goodIn_of _ (by decide +kernel)) ggX9_site_X9_isHalf
set_option maxRecDepth 20000 in
theorem ggX9_site_X5_all : GoodIn wsX9_site wsX5_all := goodIn_r _ [15, 16, 75, 76, 77, 78, 79, 80, 81, 82] (by decide +kernel) (by decide +kernel)
set_option maxRecDepth 20000 in
theorem gX9_site_X5_all : GoodIn wsX9_site (wsV RX9 150 RX5 yX5_all wsX5_all) := goodIn_app (goodIn_of _ (by decide +kernel)) ggX9_site_X5_all
set_option maxRecDepth 20000 in
theorem ggX9_site_X2_leastHarm : GoodIn wsX9_site wsX2_leastHarm := goodIn_r _ [21, 22, 23, 24, 25, 20, 26, 27, 28, 29, 30, 31, 32, 33, 34, 35, 36, 37, 38, 39, 40, 41, 42, 43, 44, 45, 46, 47, 48, 49, 50, 51, 52, 53, 54, 55, 56, 57, 58, 59, 60, 61, 62, 63, 64, 65, 66, 83, 84, 85, 86, 87, 88, 75, 76, 77, 78, 79, 80, 81, 82] (by decide +kernel) (by decide +kernel)
set_option maxRecDepth 20000 in
theorem gX9_site_X2_leastHarm : GoodIn wsX9_site (wsV RX9 153 RX2 yX2_leastHarm wsX2_leastHarm) := goodIn_app (goodIn_of _ (by decide +kernel)) ggX9_site_X2_leastHarm
theorem dX9_site_0 : decode cX9_site 0 = .ok (.aload_n 0, 1) := by decide +kernel
theorem dX9_site_1 : decode cX9_site 1 = .ok (.getfield 12, 3) := by decide +kernel
theorem dX9_site_4 : decode cX9_site 4 = .ok (.getfield 83, 3) := by decide +kernel
theorem dX9_site_7 : decode cX9_site 7 = .ok (.ifCond .ne 6, 3) := by decide +kernel
theorem dX9_site_10 : decode cX9_site 10 = .ok (.bipush (-3), 2) := by decide +kernel
theorem dX9_site_12 : decode cX9_site 12 = .ok (.ireturn, 1) := by decide +kernel
theorem dX9_site_13 : decode cX9_site 13 = .ok (.iload_n 1, 1) := by decide +kernel
theorem dX9_site_14 : decode cX9_site 14 = .ok (.invokestatic 122, 3) := by decide +kernel
theorem dX9_site_17 : decode cX9_site 17 = .ok (.ifCond .eq 10, 3) := by decide +kernel
theorem dX9_site_20 : decode cX9_site 20 = .ok (.iload_n 2, 1) := by decide +kernel
theorem dX9_site_21 : decode cX9_site 21 = .ok (.invokestatic 170, 3) := by decide +kernel
theorem dX9_site_24 : decode cX9_site 24 = .ok (.ifCond .ne 6, 3) := by decide +kernel
theorem dX9_site_27 : decode cX9_site 27 = .ok (.bipush (-2), 2) := by decide +kernel
theorem dX9_site_29 : decode cX9_site 29 = .ok (.ireturn, 1) := by decide +kernel
theorem dX9_site_30 : decode cX9_site 30 = .ok (.iconst 0, 1) := by decide +kernel
theorem dX9_site_31 : decode cX9_site 31 = .ok (.istore_n 3, 1) := by decide +kernel
theorem dX9_site_32 : decode cX9_site 32 = .ok (.aload_n 0, 1) := by decide +kernel
theorem dX9_site_33 : decode cX9_site 33 = .ok (.getfield 37, 3) := by decide +kernel
theorem dX9_site_36 : decode cX9_site 36 = .ok (.aload_n 0, 1) := by decide +kernel
theorem dX9_site_37 : decode cX9_site 37 = .ok (.getfield 12, 3) := by decide +kernel
theorem dX9_site_40 : decode cX9_site 40 = .ok (.invokevirtual 150, 3) := by decide +kernel
theorem dX9_site_43 : decode cX9_site 43 = .ok (.iconst 0, 1) := by decide +kernel
theorem dX9_site_44 : decode cX9_site 44 = .ok (.iload_n 1, 1) := by decide +kernel
theorem dX9_site_45 : decode cX9_site 45 = .ok (.invokevirtual 153, 3) := by decide +kernel
theorem dX9_site_48 : decode cX9_site 48 = .ok (.istore 4, 2) := by decide +kernel
theorem dX9_site_50 : decode cX9_site 50 = .ok (.iconst 1, 1) := by decide +kernel
theorem dX9_site_51 : decode cX9_site 51 = .ok (.istore 5, 2) := by decide +kernel
theorem dX9_site_53 : decode cX9_site 53 = .ok (.iload 5, 2) := by decide +kernel
theorem dX9_site_55 : decode cX9_site 55 = .ok (.bipush 9, 2) := by decide +kernel
theorem dX9_site_57 : decode cX9_site 57 = .ok (.if_icmp .gt 47, 3) := by decide +kernel
theorem dX9_site_60 : decode cX9_site 60 = .ok (.iload 4, 2) := by decide +kernel
theorem dX9_site_62 : decode cX9_site 62 = .ok (.ifCond .le 42, 3) := by decide +kernel
theorem dX9_site_65 : decode cX9_site 65 = .ok (.aload_n 0, 1) := by decide +kernel
theorem dX9_site_66 : decode cX9_site 66 = .ok (.getfield 37, 3) := by decide +kernel
theorem dX9_site_69 : decode cX9_site 69 = .ok (.aload_n 0, 1) := by decide +kernel
theorem dX9_site_70 : decode cX9_site 70 = .ok (.getfield 12, 3) := by decide +kernel
theorem dX9_site_73 : decode cX9_site 73 = .ok (.invokevirtual 150, 3) := by decide +kernel
theorem dX9_site_76 : decode cX9_site 76 = .ok (.iload 5, 2) := by decide +kernel
theorem dX9_site_78 : decode cX9_site 78 = .ok (.iload_n 1, 1) := by decide +kernel
theorem dX9_site_79 : decode cX9_site 79 = .ok (.invokevirtual 153, 3) := by decide +kernel
theorem dX9_site_82 : decode cX9_site 82 = .ok (.istore 6, 2) := by decide +kernel
theorem dX9_site_84 : decode cX9_site 84 = .ok (.iload 6, 2) := by decide +kernel
theorem dX9_site_86 : decode cX9_site 86 = .ok (.iload 4, 2) := by decide +kernel
theorem dX9_site_88 : decode cX9_site 88 = .ok (.if_icmp .ge 10, 3) := by decide +kernel
theorem dX9_site_91 : decode cX9_site 91 = .ok (.iload 6, 2) := by decide +kernel
theorem dX9_site_93 : decode cX9_site 93 = .ok (.istore 4, 2) := by decide +kernel
theorem dX9_site_95 : decode cX9_site 95 = .ok (.iload 5, 2) := by decide +kernel
theorem dX9_site_97 : decode cX9_site 97 = .ok (.istore_n 3, 1) := by decide +kernel
theorem dX9_site_98 : decode cX9_site 98 = .ok (.iinc 5 1, 3) := by decide +kernel
theorem dX9_site_101 : decode cX9_site 101 = .ok (.goto (-48), 3) := by decide +kernel
theorem dX9_site_104 : decode cX9_site 104 = .ok (.iload_n 2, 1) := by decide +kernel
theorem dX9_site_105 : decode cX9_site 105 = .ok (.ifCond .ne 7, 3) := by decide +kernel
theorem dX9_site_108 : decode cX9_site 108 = .ok (.iload_n 3, 1) := by decide +kernel
theorem dX9_site_109 : decode cX9_site 109 = .ok (.goto 5, 3) := by decide +kernel
theorem dX9_site_112 : decode cX9_site 112 = .ok (.iload 4, 2) := by decide +kernel
theorem dX9_site_114 : decode cX9_site 114 = .ok (.ireturn, 1) := by decide +kernel
set_option maxRecDepth 20000 in
theorem ggX9_reading_X5_has : GoodIn wsX9_reading wsX5_has := goodIn_r _ [7, 8, 30, 31, 32, 33, 34, 35, 36, 37] (by decide +kernel) (by decide +kernel)
set_option maxRecDepth 20000 in
theorem gX9_reading_X5_has : GoodIn wsX9_reading (wsV RX9 176 RX5 yX5_has wsX5_has) := goodIn_app (goodIn_of _ (by decide +kernel)) ggX9_reading_X5_has
set_option maxRecDepth 20000 in
theorem ggX9_reading_X9_isMinute : GoodIn wsX9_reading wsX9_isMinute := goodIn_r _ [12] (by decide +kernel) (by decide +kernel)
set_option maxRecDepth 20000 in
theorem gX9_reading_X9_isMinute : GoodIn wsX9_reading (va_wsS RX9 144 yX9_isMinute wsX9_isMinute) := goodIn_app (goodIn_of _ (by decide +kernel)) ggX9_reading_X9_isMinute
set_option maxRecDepth 20000 in
theorem ggX9_reading_X3_note : GoodIn wsX9_reading wsX3_note := goodIn_r _ [17, 18, 19, 20, 21, 38, 39, 40, 41] (by decide +kernel) (by decide +kernel)
set_option maxRecDepth 20000 in
theorem gX9_reading_X3_note : GoodIn wsX9_reading (wsV RX9 179 RX3 yX3_note wsX3_note) := goodIn_app (goodIn_of _ (by decide +kernel)) ggX9_reading_X3_note
theorem dX9_reading_0 : decode cX9_reading 0 = .ok (.aload_n 0, 1) := by decide +kernel
theorem dX9_reading_1 : decode cX9_reading 1 = .ok (.getfield 12, 3) := by decide +kernel
theorem dX9_reading_4 : decode cX9_reading 4 = .ok (.iload_n 1, 1) := by decide +kernel
theorem dX9_reading_5 : decode cX9_reading 5 = .ok (.invokevirtual 176, 3) := by decide +kernel
theorem dX9_reading_8 : decode cX9_reading 8 = .ok (.ifCond .ne 5, 3) := by decide +kernel
theorem dX9_reading_11 : decode cX9_reading 11 = .ok (.iconst (-1), 1) := by decide +kernel
theorem dX9_reading_12 : decode cX9_reading 12 = .ok (.ireturn, 1) := by decide +kernel
theorem dX9_reading_13 : decode cX9_reading 13 = .ok (.iload_n 2, 1) := by decide +kernel
theorem dX9_reading_14 : decode cX9_reading 14 = .ok (.invokestatic 144, 3) := by decide +kernel
theorem dX9_reading_17 : decode cX9_reading 17 = .ok (.ifCond .ne 6, 3) := by decide +kernel
theorem dX9_reading_20 : decode cX9_reading 20 = .ok (.bipush (-2), 2) := by decide +kernel
theorem dX9_reading_22 : decode cX9_reading 22 = .ok (.ireturn, 1) := by decide +kernel
theorem dX9_reading_23 : decode cX9_reading 23 = .ok (.aload_n 0, 1) := by decide +kernel
theorem dX9_reading_24 : decode cX9_reading 24 = .ok (.getfield 21, 3) := by decide +kernel
theorem dX9_reading_27 : decode cX9_reading 27 = .ok (.iload_n 1, 1) := by decide +kernel
theorem dX9_reading_28 : decode cX9_reading 28 = .ok (.iload_n 2, 1) := by decide +kernel
theorem dX9_reading_29 : decode cX9_reading 29 = .ok (.iload_n 3, 1) := by decide +kernel
theorem dX9_reading_30 : decode cX9_reading 30 = .ok (.invokevirtual 179, 3) := by decide +kernel
theorem dX9_reading_33 : decode cX9_reading 33 = .ok (.ireturn, 1) := by decide +kernel
theorem dX9_back_0 : decode cX9_back 0 = .ok (.iload_n 1, 1) := by decide +kernel
theorem dX9_back_1 : decode cX9_back 1 = .ok (.ifCond .lt 14, 3) := by decide +kernel
theorem dX9_back_4 : decode cX9_back 4 = .ok (.iload_n 1, 1) := by decide +kernel
theorem dX9_back_5 : decode cX9_back 5 = .ok (.aload_n 0, 1) := by decide +kernel
theorem dX9_back_6 : decode cX9_back 6 = .ok (.getfield 21, 3) := by decide +kernel
theorem dX9_back_9 : decode cX9_back 9 = .ok (.getfield 183, 3) := by decide +kernel
theorem dX9_back_12 : decode cX9_back 12 = .ok (.if_icmp .le 6, 3) := by decide +kernel
theorem dX9_back_15 : decode cX9_back 15 = .ok (.bipush (-2), 2) := by decide +kernel
theorem dX9_back_17 : decode cX9_back 17 = .ok (.ireturn, 1) := by decide +kernel
theorem dX9_back_18 : decode cX9_back 18 = .ok (.aload_n 0, 1) := by decide +kernel
theorem dX9_back_19 : decode cX9_back 19 = .ok (.getfield 21, 3) := by decide +kernel
theorem dX9_back_22 : decode cX9_back 22 = .ok (.dup, 1) := by decide +kernel
theorem dX9_back_23 : decode cX9_back 23 = .ok (.getfield 183, 3) := by decide +kernel
theorem dX9_back_26 : decode cX9_back 26 = .ok (.iload_n 1, 1) := by decide +kernel
theorem dX9_back_27 : decode cX9_back 27 = .ok (.isub, 1) := by decide +kernel
theorem dX9_back_28 : decode cX9_back 28 = .ok (.putfield 183, 3) := by decide +kernel
theorem dX9_back_31 : decode cX9_back 31 = .ok (.aload_n 0, 1) := by decide +kernel
theorem dX9_back_32 : decode cX9_back 32 = .ok (.getfield 21, 3) := by decide +kernel
theorem dX9_back_35 : decode cX9_back 35 = .ok (.getfield 183, 3) := by decide +kernel
theorem dX9_back_38 : decode cX9_back 38 = .ok (.ireturn, 1) := by decide +kernel
set_option maxRecDepth 20000 in
theorem ggX9_fits_X5_all : GoodIn wsX9_fits wsX5_all := goodIn_r _ [9, 10, 76, 77, 78, 79, 80, 81, 82, 83] (by decide +kernel) (by decide +kernel)
set_option maxRecDepth 20000 in
theorem gX9_fits_X5_all : GoodIn wsX9_fits (wsV RX9 150 RX5 yX5_all wsX5_all) := goodIn_app (goodIn_of _ (by decide +kernel)) ggX9_fits_X5_all
set_option maxRecDepth 20000 in
theorem ggX9_fits_X2_countFitting : GoodIn wsX9_fits wsX2_countFitting := goodIn_r _ [15, 16, 17, 18, 19, 20, 14, 21, 22, 23, 24, 25, 26, 27, 28, 29, 30, 31, 32, 33, 34, 35, 36, 37, 38, 39, 40, 41, 42, 43, 44, 45, 46, 47, 48, 49, 50, 51, 52, 53, 54, 55, 56, 57, 58, 59, 60, 61, 62, 63, 84, 85, 86, 87, 88, 89, 76, 77, 78, 79, 80, 81, 82, 83, 90, 91, 92, 93] (by decide +kernel) (by decide +kernel)
set_option maxRecDepth 20000 in
theorem gX9_fits_X2_countFitting : GoodIn wsX9_fits (wsV RX9 184 RX2 yX2_countFitting wsX2_countFitting) := goodIn_app (goodIn_of _ (by decide +kernel)) ggX9_fits_X2_countFitting
set_option maxRecDepth 20000 in
theorem ggX9_fits_X2_keptAt : GoodIn wsX9_fits wsX2_keptAt := goodIn_r _ [67, 22, 55, 84, 85, 86, 87, 88, 89] (by decide +kernel) (by decide +kernel)
set_option maxRecDepth 20000 in
theorem gX9_fits_X2_keptAt : GoodIn wsX9_fits (wsV RX9 157 RX2 yX2_keptAt wsX2_keptAt) := goodIn_app (goodIn_of _ (by decide +kernel)) ggX9_fits_X2_keptAt
theorem dX9_fits_0 : decode cX9_fits 0 = .ok (.aload_n 0, 1) := by decide +kernel
theorem dX9_fits_1 : decode cX9_fits 1 = .ok (.getfield 12, 3) := by decide +kernel
theorem dX9_fits_4 : decode cX9_fits 4 = .ok (.getfield 83, 3) := by decide +kernel
theorem dX9_fits_7 : decode cX9_fits 7 = .ok (.ifCond .ne 6, 3) := by decide +kernel
theorem dX9_fits_10 : decode cX9_fits 10 = .ok (.bipush (-3), 2) := by decide +kernel
theorem dX9_fits_12 : decode cX9_fits 12 = .ok (.ireturn, 1) := by decide +kernel
theorem dX9_fits_13 : decode cX9_fits 13 = .ok (.iload_n 1, 1) := by decide +kernel
theorem dX9_fits_14 : decode cX9_fits 14 = .ok (.iconst (-1), 1) := by decide +kernel
theorem dX9_fits_15 : decode cX9_fits 15 = .ok (.if_icmp .lt 14, 3) := by decide +kernel
theorem dX9_fits_18 : decode cX9_fits 18 = .ok (.iload_n 1, 1) := by decide +kernel
theorem dX9_fits_19 : decode cX9_fits 19 = .ok (.aload_n 0, 1) := by decide +kernel
theorem dX9_fits_20 : decode cX9_fits 20 = .ok (.getfield 12, 3) := by decide +kernel
theorem dX9_fits_23 : decode cX9_fits 23 = .ok (.getfield 83, 3) := by decide +kernel
theorem dX9_fits_26 : decode cX9_fits 26 = .ok (.if_icmp .lt 5, 3) := by decide +kernel
theorem dX9_fits_29 : decode cX9_fits 29 = .ok (.iconst (-1), 1) := by decide +kernel
theorem dX9_fits_30 : decode cX9_fits 30 = .ok (.ireturn, 1) := by decide +kernel
theorem dX9_fits_31 : decode cX9_fits 31 = .ok (.aload_n 0, 1) := by decide +kernel
theorem dX9_fits_32 : decode cX9_fits 32 = .ok (.getfield 37, 3) := by decide +kernel
theorem dX9_fits_35 : decode cX9_fits 35 = .ok (.aload_n 0, 1) := by decide +kernel
theorem dX9_fits_36 : decode cX9_fits 36 = .ok (.getfield 12, 3) := by decide +kernel
theorem dX9_fits_39 : decode cX9_fits 39 = .ok (.invokevirtual 150, 3) := by decide +kernel
theorem dX9_fits_42 : decode cX9_fits 42 = .ok (.aload_n 0, 1) := by decide +kernel
theorem dX9_fits_43 : decode cX9_fits 43 = .ok (.getfield 21, 3) := by decide +kernel
theorem dX9_fits_46 : decode cX9_fits 46 = .ok (.invokevirtual 184, 3) := by decide +kernel
theorem dX9_fits_49 : decode cX9_fits 49 = .ok (.istore_n 2, 1) := by decide +kernel
theorem dX9_fits_50 : decode cX9_fits 50 = .ok (.iload_n 1, 1) := by decide +kernel
theorem dX9_fits_51 : decode cX9_fits 51 = .ok (.iconst (-1), 1) := by decide +kernel
theorem dX9_fits_52 : decode cX9_fits 52 = .ok (.if_icmp .ne 5, 3) := by decide +kernel
theorem dX9_fits_55 : decode cX9_fits 55 = .ok (.iload_n 2, 1) := by decide +kernel
theorem dX9_fits_56 : decode cX9_fits 56 = .ok (.ireturn, 1) := by decide +kernel
theorem dX9_fits_57 : decode cX9_fits 57 = .ok (.iload_n 2, 1) := by decide +kernel
theorem dX9_fits_58 : decode cX9_fits 58 = .ok (.ifCond .ne 8, 3) := by decide +kernel
theorem dX9_fits_61 : decode cX9_fits 61 = .ok (.bipush (-9), 2) := by decide +kernel
theorem dX9_fits_63 : decode cX9_fits 63 = .ok (.goto 11, 3) := by decide +kernel
theorem dX9_fits_66 : decode cX9_fits 66 = .ok (.aload_n 0, 1) := by decide +kernel
theorem dX9_fits_67 : decode cX9_fits 67 = .ok (.getfield 37, 3) := by decide +kernel
theorem dX9_fits_70 : decode cX9_fits 70 = .ok (.iload_n 1, 1) := by decide +kernel
theorem dX9_fits_71 : decode cX9_fits 71 = .ok (.invokevirtual 157, 3) := by decide +kernel
theorem dX9_fits_74 : decode cX9_fits 74 = .ok (.ireturn, 1) := by decide +kernel
set_option maxRecDepth 20000 in
theorem ggX9_sheet_X9_sheetAt : GoodIn wsX9_sheet wsX9_sheetAt := goodIn_r _ [6, 7, 30, 31, 32, 33, 34, 35, 36, 37] (by decide +kernel) (by decide +kernel)
set_option maxRecDepth 20000 in
theorem gX9_sheet_X9_sheetAt : GoodIn wsX9_sheet (wsV RX9 71 RX9 yX9_sheetAt wsX9_sheetAt) := goodIn_app (goodIn_of _ (by decide +kernel)) ggX9_sheet_X9_sheetAt
set_option maxRecDepth 20000 in
theorem ggX9_sheet_X9_isLane : GoodIn wsX9_sheet wsX9_isLane := goodIn_r _ [10] (by decide +kernel) (by decide +kernel)
set_option maxRecDepth 20000 in
theorem gX9_sheet_X9_isLane : GoodIn wsX9_sheet (va_wsS RX9 63 yX9_isLane wsX9_isLane) := goodIn_app (goodIn_of _ (by decide +kernel)) ggX9_sheet_X9_isLane
set_option maxRecDepth 20000 in
theorem ggX9_sheet_X9_failBy : GoodIn wsX9_sheet wsX9_failBy := goodIn_r _ [14, 1, 30, 31, 32, 33, 34, 35, 36, 37] (by decide +kernel) (by decide +kernel)
set_option maxRecDepth 20000 in
theorem gX9_sheet_X9_failBy : GoodIn wsX9_sheet (wsV RX9 188 RX9 yX9_failBy wsX9_failBy) := goodIn_app (goodIn_of _ (by decide +kernel)) ggX9_sheet_X9_failBy
set_option maxRecDepth 20000 in
theorem ggX9_sheet_X4_makeRow : GoodIn wsX9_sheet wsX4_makeRow := goodIn_r _ [19, 20, 21, 22, 23, 24, 25, 26, 27, 28, 29, 38, 39, 40] (by decide +kernel) (by decide +kernel)
set_option maxRecDepth 20000 in
theorem gX9_sheet_X4_makeRow : GoodIn wsX9_sheet (wsV RX9 191 RX4 yX4_makeRow wsX4_makeRow) := goodIn_app (goodIn_of _ (by decide +kernel)) ggX9_sheet_X4_makeRow
theorem dX9_sheet_0 : decode cX9_sheet 0 = .ok (.aload_n 0, 1) := by decide +kernel
theorem dX9_sheet_1 : decode cX9_sheet 1 = .ok (.iconst 0, 1) := by decide +kernel
theorem dX9_sheet_2 : decode cX9_sheet 2 = .ok (.putfield 58, 3) := by decide +kernel
theorem dX9_sheet_5 : decode cX9_sheet 5 = .ok (.aload_n 0, 1) := by decide +kernel
theorem dX9_sheet_6 : decode cX9_sheet 6 = .ok (.iload_n 1, 1) := by decide +kernel
theorem dX9_sheet_7 : decode cX9_sheet 7 = .ok (.invokevirtual 71, 3) := by decide +kernel
theorem dX9_sheet_10 : decode cX9_sheet 10 = .ok (.astore 4, 2) := by decide +kernel
theorem dX9_sheet_12 : decode cX9_sheet 12 = .ok (.aload 4, 2) := by decide +kernel
theorem dX9_sheet_14 : decode cX9_sheet 14 = .ok (.ifnonnull 5, 3) := by decide +kernel
theorem dX9_sheet_17 : decode cX9_sheet 17 = .ok (.iconst (-1), 1) := by decide +kernel
theorem dX9_sheet_18 : decode cX9_sheet 18 = .ok (.ireturn, 1) := by decide +kernel
theorem dX9_sheet_19 : decode cX9_sheet 19 = .ok (.iload_n 2, 1) := by decide +kernel
theorem dX9_sheet_20 : decode cX9_sheet 20 = .ok (.invokestatic 63, 3) := by decide +kernel
theorem dX9_sheet_23 : decode cX9_sheet 23 = .ok (.ifCond .eq 9, 3) := by decide +kernel
theorem dX9_sheet_26 : decode cX9_sheet 26 = .ok (.iload_n 3, 1) := by decide +kernel
theorem dX9_sheet_27 : decode cX9_sheet 27 = .ok (.bipush 60, 2) := by decide +kernel
theorem dX9_sheet_29 : decode cX9_sheet 29 = .ok (.if_icmp .le 6, 3) := by decide +kernel
theorem dX9_sheet_32 : decode cX9_sheet 32 = .ok (.bipush (-2), 2) := by decide +kernel
theorem dX9_sheet_34 : decode cX9_sheet 34 = .ok (.ireturn, 1) := by decide +kernel
theorem dX9_sheet_35 : decode cX9_sheet 35 = .ok (.iload_n 3, 1) := by decide +kernel
theorem dX9_sheet_36 : decode cX9_sheet 36 = .ok (.ifCond .ge 9, 3) := by decide +kernel
theorem dX9_sheet_39 : decode cX9_sheet 39 = .ok (.aload_n 0, 1) := by decide +kernel
theorem dX9_sheet_40 : decode cX9_sheet 40 = .ok (.iconst 4, 1) := by decide +kernel
theorem dX9_sheet_41 : decode cX9_sheet 41 = .ok (.invokevirtual 188, 3) := by decide +kernel
theorem dX9_sheet_44 : decode cX9_sheet 44 = .ok (.ireturn, 1) := by decide +kernel
theorem dX9_sheet_45 : decode cX9_sheet 45 = .ok (.aload 4, 2) := by decide +kernel
theorem dX9_sheet_47 : decode cX9_sheet 47 = .ok (.iload_n 2, 1) := by decide +kernel
theorem dX9_sheet_48 : decode cX9_sheet 48 = .ok (.iload_n 3, 1) := by decide +kernel
theorem dX9_sheet_49 : decode cX9_sheet 49 = .ok (.invokevirtual 191, 3) := by decide +kernel
theorem dX9_sheet_52 : decode cX9_sheet 52 = .ok (.iconst 1, 1) := by decide +kernel
theorem dX9_sheet_53 : decode cX9_sheet 53 = .ok (.ireturn, 1) := by decide +kernel
set_option maxRecDepth 20000 in
theorem ggX9_lose_X9_sheetAt : GoodIn wsX9_lose wsX9_sheetAt := goodIn_r _ [5, 6, 18, 19, 20, 21, 22, 23, 24, 25] (by decide +kernel) (by decide +kernel)
set_option maxRecDepth 20000 in
theorem gX9_lose_X9_sheetAt : GoodIn wsX9_lose (wsV RX9 71 RX9 yX9_sheetAt wsX9_sheetAt) := goodIn_app (goodIn_of _ (by decide +kernel)) ggX9_lose_X9_sheetAt
set_option maxRecDepth 20000 in
theorem ggX9_lose_X4_isNothing : GoodIn wsX9_lose wsX4_isNothing := goodIn_r _ [11, 12, 26, 27, 28] (by decide +kernel) (by decide +kernel)
set_option maxRecDepth 20000 in
theorem gX9_lose_X4_isNothing : GoodIn wsX9_lose (wsV RX9 195 RX4 yX4_isNothing wsX4_isNothing) := goodIn_app (goodIn_of _ (by decide +kernel)) ggX9_lose_X4_isNothing
set_option maxRecDepth 20000 in
theorem ggX9_lose_X4_makeNothing : GoodIn wsX9_lose wsX4_makeNothing := goodIn_r _ [16, 12, 17, 26, 27, 28] (by decide +kernel) (by decide +kernel)
set_option maxRecDepth 20000 in
theorem gX9_lose_X4_makeNothing : GoodIn wsX9_lose (wsV RX9 198 RX4 yX4_makeNothing wsX4_makeNothing) := goodIn_app (goodIn_of _ (by decide +kernel)) ggX9_lose_X4_makeNothing
theorem dX9_lose_0 : decode cX9_lose 0 = .ok (.aload_n 0, 1) := by decide +kernel
theorem dX9_lose_1 : decode cX9_lose 1 = .ok (.iload_n 1, 1) := by decide +kernel
theorem dX9_lose_2 : decode cX9_lose 2 = .ok (.invokevirtual 71, 3) := by decide +kernel
theorem dX9_lose_5 : decode cX9_lose 5 = .ok (.astore_n 2, 1) := by decide +kernel
theorem dX9_lose_6 : decode cX9_lose 6 = .ok (.aload_n 2, 1) := by decide +kernel
theorem dX9_lose_7 : decode cX9_lose 7 = .ok (.ifnonnull 5, 3) := by decide +kernel
theorem dX9_lose_10 : decode cX9_lose 10 = .ok (.iconst (-1), 1) := by decide +kernel
theorem dX9_lose_11 : decode cX9_lose 11 = .ok (.ireturn, 1) := by decide +kernel
theorem dX9_lose_12 : decode cX9_lose 12 = .ok (.aload_n 2, 1) := by decide +kernel
theorem dX9_lose_13 : decode cX9_lose 13 = .ok (.invokevirtual 195, 3) := by decide +kernel
theorem dX9_lose_16 : decode cX9_lose 16 = .ok (.ifCond .eq 5, 3) := by decide +kernel
theorem dX9_lose_19 : decode cX9_lose 19 = .ok (.iconst 0, 1) := by decide +kernel
theorem dX9_lose_20 : decode cX9_lose 20 = .ok (.ireturn, 1) := by decide +kernel
theorem dX9_lose_21 : decode cX9_lose 21 = .ok (.aload_n 2, 1) := by decide +kernel
theorem dX9_lose_22 : decode cX9_lose 22 = .ok (.invokevirtual 198, 3) := by decide +kernel
theorem dX9_lose_25 : decode cX9_lose 25 = .ok (.iconst 1, 1) := by decide +kernel
theorem dX9_lose_26 : decode cX9_lose 26 = .ok (.ireturn, 1) := by decide +kernel
set_option maxRecDepth 20000 in
theorem ggX9_put_X9_sheetAt : GoodIn wsX9_put wsX9_sheetAt := goodIn_r _ [6, 7, 29, 30, 31, 32, 33, 34, 35, 36] (by decide +kernel) (by decide +kernel)
set_option maxRecDepth 20000 in
theorem gX9_put_X9_sheetAt : GoodIn wsX9_put (wsV RX9 71 RX9 yX9_sheetAt wsX9_sheetAt) := goodIn_app (goodIn_of _ (by decide +kernel)) ggX9_put_X9_sheetAt
set_option maxRecDepth 20000 in
theorem ggX9_put_X4_isNothing : GoodIn wsX9_put wsX4_isNothing := goodIn_r _ [12, 13, 37, 38, 39] (by decide +kernel) (by decide +kernel)
set_option maxRecDepth 20000 in
theorem gX9_put_X4_isNothing : GoodIn wsX9_put (wsV RX9 195 RX4 yX4_isNothing wsX4_isNothing) := goodIn_app (goodIn_of _ (by decide +kernel)) ggX9_put_X4_isNothing
set_option maxRecDepth 20000 in
theorem ggX9_put_X9_failBy : GoodIn wsX9_put wsX9_failBy := goodIn_r _ [17, 1, 29, 30, 31, 32, 33, 34, 35, 36] (by decide +kernel) (by decide +kernel)
set_option maxRecDepth 20000 in
theorem gX9_put_X9_failBy : GoodIn wsX9_put (wsV RX9 188 RX9 yX9_failBy wsX9_failBy) := goodIn_app (goodIn_of _ (by decide +kernel)) ggX9_put_X9_failBy
set_option maxRecDepth 20000 in
theorem ggX9_put_X4_hasCell : GoodIn wsX9_put wsX4_hasCell := goodIn_r _ [21, 22, 37, 38, 39] (by decide +kernel) (by decide +kernel)
set_option maxRecDepth 20000 in
theorem gX9_put_X4_hasCell : GoodIn wsX9_put (wsV RX9 201 RX4 yX4_hasCell wsX4_hasCell) := goodIn_app (goodIn_of _ (by decide +kernel)) ggX9_put_X4_hasCell
set_option maxRecDepth 20000 in
theorem ggX9_put_X4_write : GoodIn wsX9_put wsX4_write := goodIn_r _ [26, 13, 27, 28, 19, 20, 11, 21, 22, 37, 38, 39] (by decide +kernel) (by decide +kernel)
set_option maxRecDepth 20000 in
theorem gX9_put_X4_write : GoodIn wsX9_put (wsV RX9 204 RX4 yX4_write wsX4_write) := goodIn_app (goodIn_of _ (by decide +kernel)) ggX9_put_X4_write
theorem dX9_put_0 : decode cX9_put 0 = .ok (.aload_n 0, 1) := by decide +kernel
theorem dX9_put_1 : decode cX9_put 1 = .ok (.iconst 0, 1) := by decide +kernel
theorem dX9_put_2 : decode cX9_put 2 = .ok (.putfield 58, 3) := by decide +kernel
theorem dX9_put_5 : decode cX9_put 5 = .ok (.aload_n 0, 1) := by decide +kernel
theorem dX9_put_6 : decode cX9_put 6 = .ok (.iload_n 1, 1) := by decide +kernel
theorem dX9_put_7 : decode cX9_put 7 = .ok (.invokevirtual 71, 3) := by decide +kernel
theorem dX9_put_10 : decode cX9_put 10 = .ok (.astore 4, 2) := by decide +kernel
theorem dX9_put_12 : decode cX9_put 12 = .ok (.aload 4, 2) := by decide +kernel
theorem dX9_put_14 : decode cX9_put 14 = .ok (.ifnonnull 5, 3) := by decide +kernel
theorem dX9_put_17 : decode cX9_put 17 = .ok (.iconst (-1), 1) := by decide +kernel
theorem dX9_put_18 : decode cX9_put 18 = .ok (.ireturn, 1) := by decide +kernel
theorem dX9_put_19 : decode cX9_put 19 = .ok (.aload 4, 2) := by decide +kernel
theorem dX9_put_21 : decode cX9_put 21 = .ok (.invokevirtual 195, 3) := by decide +kernel
theorem dX9_put_24 : decode cX9_put 24 = .ok (.ifCond .eq 9, 3) := by decide +kernel
theorem dX9_put_27 : decode cX9_put 27 = .ok (.aload_n 0, 1) := by decide +kernel
theorem dX9_put_28 : decode cX9_put 28 = .ok (.iconst 1, 1) := by decide +kernel
theorem dX9_put_29 : decode cX9_put 29 = .ok (.invokevirtual 188, 3) := by decide +kernel
theorem dX9_put_32 : decode cX9_put 32 = .ok (.ireturn, 1) := by decide +kernel
theorem dX9_put_33 : decode cX9_put 33 = .ok (.aload 4, 2) := by decide +kernel
theorem dX9_put_35 : decode cX9_put 35 = .ok (.iload_n 2, 1) := by decide +kernel
theorem dX9_put_36 : decode cX9_put 36 = .ok (.invokevirtual 201, 3) := by decide +kernel
theorem dX9_put_39 : decode cX9_put 39 = .ok (.ifCond .ne 9, 3) := by decide +kernel
theorem dX9_put_42 : decode cX9_put 42 = .ok (.aload_n 0, 1) := by decide +kernel
theorem dX9_put_43 : decode cX9_put 43 = .ok (.iconst 3, 1) := by decide +kernel
theorem dX9_put_44 : decode cX9_put 44 = .ok (.invokevirtual 188, 3) := by decide +kernel
theorem dX9_put_47 : decode cX9_put 47 = .ok (.ireturn, 1) := by decide +kernel
theorem dX9_put_48 : decode cX9_put 48 = .ok (.aload 4, 2) := by decide +kernel
theorem dX9_put_50 : decode cX9_put 50 = .ok (.iload_n 2, 1) := by decide +kernel
theorem dX9_put_51 : decode cX9_put 51 = .ok (.iload_n 3, 1) := by decide +kernel
theorem dX9_put_52 : decode cX9_put 52 = .ok (.invokevirtual 204, 3) := by decide +kernel
theorem dX9_put_55 : decode cX9_put 55 = .ok (.iconst 1, 1) := by decide +kernel
theorem dX9_put_56 : decode cX9_put 56 = .ok (.ireturn, 1) := by decide +kernel
set_option maxRecDepth 20000 in
theorem ggX9_cell_X9_sheetAt : GoodIn wsX9_cell wsX9_sheetAt := goodIn_r _ [7, 8, 38, 39, 40, 41, 42, 43, 44, 45] (by decide +kernel) (by decide +kernel)
set_option maxRecDepth 20000 in
theorem gX9_cell_X9_sheetAt : GoodIn wsX9_cell (wsV RX9 71 RX9 yX9_sheetAt wsX9_sheetAt) := goodIn_app (goodIn_of _ (by decide +kernel)) ggX9_cell_X9_sheetAt
set_option maxRecDepth 20000 in
theorem ggX9_cell_X9_isLane : GoodIn wsX9_cell wsX9_isLane := goodIn_r _ [11] (by decide +kernel) (by decide +kernel)
set_option maxRecDepth 20000 in
theorem gX9_cell_X9_isLane : GoodIn wsX9_cell (va_wsS RX9 63 yX9_isLane wsX9_isLane) := goodIn_app (goodIn_of _ (by decide +kernel)) ggX9_cell_X9_isLane
set_option maxRecDepth 20000 in
theorem ggX9_cell_X9_refuseLane : GoodIn wsX9_cell wsX9_refuseLane := goodIn_r _ [15, 16, 17, 18, 19, 20, 21, 22, 23, 24, 25, 6, 26, 1, 46, 47, 48, 38, 39, 40, 41, 42, 43, 44, 45] (by decide +kernel) (by decide +kernel)
set_option maxRecDepth 20000 in
theorem gX9_cell_X9_refuseLane : GoodIn wsX9_cell (wsV RX9 207 RX9 yX9_refuseLane wsX9_refuseLane) := goodIn_app (goodIn_of _ (by decide +kernel)) ggX9_cell_X9_refuseLane
set_option maxRecDepth 20000 in
theorem ggX9_cell_X4_hasCell : GoodIn wsX9_cell wsX4_hasCell := goodIn_r _ [30, 31, 46, 47, 48] (by decide +kernel) (by decide +kernel)
set_option maxRecDepth 20000 in
theorem gX9_cell_X4_hasCell : GoodIn wsX9_cell (wsV RX9 201 RX4 yX4_hasCell wsX4_hasCell) := goodIn_app (goodIn_of _ (by decide +kernel)) ggX9_cell_X4_hasCell
set_option maxRecDepth 20000 in
theorem ggX9_cell_X9_failBy : GoodIn wsX9_cell wsX9_failBy := goodIn_r _ [26, 1, 38, 39, 40, 41, 42, 43, 44, 45] (by decide +kernel) (by decide +kernel)
set_option maxRecDepth 20000 in
theorem gX9_cell_X9_failBy : GoodIn wsX9_cell (wsV RX9 188 RX9 yX9_failBy wsX9_failBy) := goodIn_app (goodIn_of _ (by decide +kernel)) ggX9_cell_X9_failBy
set_option maxRecDepth 20000 in
theorem ggX9_cell_X4_read : GoodIn wsX9_cell wsX4_read := goodIn_r _ [35, 36, 37, 28, 29, 20, 30, 31, 46, 47, 48] (by decide +kernel) (by decide +kernel)
set_option maxRecDepth 20000 in
theorem gX9_cell_X4_read : GoodIn wsX9_cell (wsV RX9 213 RX4 yX4_read wsX4_read) := goodIn_app (goodIn_of _ (by decide +kernel)) ggX9_cell_X4_read
theorem dX9_cell_0 : decode cX9_cell 0 = .ok (.aload_n 0, 1) := by decide +kernel
theorem dX9_cell_1 : decode cX9_cell 1 = .ok (.iconst 0, 1) := by decide +kernel
theorem dX9_cell_2 : decode cX9_cell 2 = .ok (.putfield 58, 3) := by decide +kernel
theorem dX9_cell_5 : decode cX9_cell 5 = .ok (.aload_n 0, 1) := by decide +kernel
theorem dX9_cell_6 : decode cX9_cell 6 = .ok (.iload_n 1, 1) := by decide +kernel
theorem dX9_cell_7 : decode cX9_cell 7 = .ok (.invokevirtual 71, 3) := by decide +kernel
theorem dX9_cell_10 : decode cX9_cell 10 = .ok (.astore 4, 2) := by decide +kernel
theorem dX9_cell_12 : decode cX9_cell 12 = .ok (.aload 4, 2) := by decide +kernel
theorem dX9_cell_14 : decode cX9_cell 14 = .ok (.ifnull 20, 3) := by decide +kernel
theorem dX9_cell_17 : decode cX9_cell 17 = .ok (.iload_n 3, 1) := by decide +kernel
theorem dX9_cell_18 : decode cX9_cell 18 = .ok (.invokestatic 63, 3) := by decide +kernel
theorem dX9_cell_21 : decode cX9_cell 21 = .ok (.ifCond .eq 13, 3) := by decide +kernel
theorem dX9_cell_24 : decode cX9_cell 24 = .ok (.aload_n 0, 1) := by decide +kernel
theorem dX9_cell_25 : decode cX9_cell 25 = .ok (.aload 4, 2) := by decide +kernel
theorem dX9_cell_27 : decode cX9_cell 27 = .ok (.iload_n 3, 1) := by decide +kernel
theorem dX9_cell_28 : decode cX9_cell 28 = .ok (.invokevirtual 207, 3) := by decide +kernel
theorem dX9_cell_31 : decode cX9_cell 31 = .ok (.ifCond .eq 7, 3) := by decide +kernel
theorem dX9_cell_34 : decode cX9_cell 34 = .ok (.ldc2_w 211, 3) := by decide +kernel
theorem dX9_cell_37 : decode cX9_cell 37 = .ok (.lreturn, 1) := by decide +kernel
theorem dX9_cell_38 : decode cX9_cell 38 = .ok (.aload 4, 2) := by decide +kernel
theorem dX9_cell_40 : decode cX9_cell 40 = .ok (.iload_n 2, 1) := by decide +kernel
theorem dX9_cell_41 : decode cX9_cell 41 = .ok (.invokevirtual 201, 3) := by decide +kernel
theorem dX9_cell_44 : decode cX9_cell 44 = .ok (.ifCond .ne 13, 3) := by decide +kernel
theorem dX9_cell_47 : decode cX9_cell 47 = .ok (.aload_n 0, 1) := by decide +kernel
theorem dX9_cell_48 : decode cX9_cell 48 = .ok (.iconst 3, 1) := by decide +kernel
theorem dX9_cell_49 : decode cX9_cell 49 = .ok (.invokevirtual 188, 3) := by decide +kernel
theorem dX9_cell_52 : decode cX9_cell 52 = .ok (.pop, 1) := by decide +kernel
theorem dX9_cell_53 : decode cX9_cell 53 = .ok (.ldc2_w 211, 3) := by decide +kernel
theorem dX9_cell_56 : decode cX9_cell 56 = .ok (.lreturn, 1) := by decide +kernel
theorem dX9_cell_57 : decode cX9_cell 57 = .ok (.aload 4, 2) := by decide +kernel
theorem dX9_cell_59 : decode cX9_cell 59 = .ok (.iload_n 2, 1) := by decide +kernel
theorem dX9_cell_60 : decode cX9_cell 60 = .ok (.invokevirtual 213, 3) := by decide +kernel
theorem dX9_cell_63 : decode cX9_cell 63 = .ok (.i2l, 1) := by decide +kernel
theorem dX9_cell_64 : decode cX9_cell 64 = .ok (.lreturn, 1) := by decide +kernel
set_option maxRecDepth 20000 in
theorem ggX9_copy_X9_sheetAt : GoodIn wsX9_copy wsX9_sheetAt := goodIn_r _ [12, 13, 29, 30, 31, 32, 33, 34, 35, 36] (by decide +kernel) (by decide +kernel)
set_option maxRecDepth 20000 in
theorem gX9_copy_X9_sheetAt : GoodIn wsX9_copy (wsV RX9 71 RX9 yX9_sheetAt wsX9_sheetAt) := goodIn_app (goodIn_of _ (by decide +kernel)) ggX9_copy_X9_sheetAt
set_option maxRecDepth 20000 in
theorem ggX9_copy_X4_isNothing : GoodIn wsX9_copy wsX4_isNothing := goodIn_r _ [18, 19, 37, 38, 39] (by decide +kernel) (by decide +kernel)
set_option maxRecDepth 20000 in
theorem gX9_copy_X4_isNothing : GoodIn wsX9_copy (wsV RX9 195 RX4 yX4_isNothing wsX4_isNothing) := goodIn_app (goodIn_of _ (by decide +kernel)) ggX9_copy_X4_isNothing
set_option maxRecDepth 20000 in
theorem ggX9_copy_X9_failBy : GoodIn wsX9_copy wsX9_failBy := goodIn_r _ [23, 1, 29, 30, 31, 32, 33, 34, 35, 36] (by decide +kernel) (by decide +kernel)
set_option maxRecDepth 20000 in
theorem gX9_copy_X9_failBy : GoodIn wsX9_copy (wsV RX9 188 RX9 yX9_failBy wsX9_failBy) := goodIn_app (goodIn_of _ (by decide +kernel)) ggX9_copy_X9_failBy
set_option maxRecDepth 20000 in
theorem ggX9_copy_X4_spans : GoodIn wsX9_copy wsX4_spans := goodIn_r _ [27, 28, 37, 38, 39] (by decide +kernel) (by decide +kernel)
set_option maxRecDepth 20000 in
theorem gX9_copy_X4_spans : GoodIn wsX9_copy (wsV RX9 219 RX4 yX4_spans wsX4_spans) := goodIn_app (goodIn_of _ (by decide +kernel)) ggX9_copy_X4_spans
theorem dX9_copy_0 : decode cX9_copy 0 = .ok (.aload_n 0, 1) := by decide +kernel
theorem dX9_copy_1 : decode cX9_copy 1 = .ok (.iconst 0, 1) := by decide +kernel
theorem dX9_copy_2 : decode cX9_copy 2 = .ok (.putfield 58, 3) := by decide +kernel
theorem dX9_copy_5 : decode cX9_copy 5 = .ok (.aload_n 0, 1) := by decide +kernel
theorem dX9_copy_6 : decode cX9_copy 6 = .ok (.iload_n 1, 1) := by decide +kernel
theorem dX9_copy_7 : decode cX9_copy 7 = .ok (.invokevirtual 71, 3) := by decide +kernel
theorem dX9_copy_10 : decode cX9_copy 10 = .ok (.astore 6, 2) := by decide +kernel
theorem dX9_copy_12 : decode cX9_copy 12 = .ok (.aload_n 0, 1) := by decide +kernel
theorem dX9_copy_13 : decode cX9_copy 13 = .ok (.iload_n 3, 1) := by decide +kernel
theorem dX9_copy_14 : decode cX9_copy 14 = .ok (.invokevirtual 71, 3) := by decide +kernel
theorem dX9_copy_17 : decode cX9_copy 17 = .ok (.astore 7, 2) := by decide +kernel
theorem dX9_copy_19 : decode cX9_copy 19 = .ok (.aload 6, 2) := by decide +kernel
theorem dX9_copy_21 : decode cX9_copy 21 = .ok (.ifnull 8, 3) := by decide +kernel
theorem dX9_copy_24 : decode cX9_copy 24 = .ok (.aload 7, 2) := by decide +kernel
theorem dX9_copy_26 : decode cX9_copy 26 = .ok (.ifnonnull 5, 3) := by decide +kernel
theorem dX9_copy_29 : decode cX9_copy 29 = .ok (.iconst (-1), 1) := by decide +kernel
theorem dX9_copy_30 : decode cX9_copy 30 = .ok (.ireturn, 1) := by decide +kernel
theorem dX9_copy_31 : decode cX9_copy 31 = .ok (.aload 6, 2) := by decide +kernel
theorem dX9_copy_33 : decode cX9_copy 33 = .ok (.invokevirtual 195, 3) := by decide +kernel
theorem dX9_copy_36 : decode cX9_copy 36 = .ok (.ifCond .ne 11, 3) := by decide +kernel
theorem dX9_copy_39 : decode cX9_copy 39 = .ok (.aload 7, 2) := by decide +kernel
theorem dX9_copy_41 : decode cX9_copy 41 = .ok (.invokevirtual 195, 3) := by decide +kernel
theorem dX9_copy_44 : decode cX9_copy 44 = .ok (.ifCond .eq 9, 3) := by decide +kernel
theorem dX9_copy_47 : decode cX9_copy 47 = .ok (.aload_n 0, 1) := by decide +kernel
theorem dX9_copy_48 : decode cX9_copy 48 = .ok (.iconst 1, 1) := by decide +kernel
theorem dX9_copy_49 : decode cX9_copy 49 = .ok (.invokevirtual 188, 3) := by decide +kernel
theorem dX9_copy_52 : decode cX9_copy 52 = .ok (.ireturn, 1) := by decide +kernel
theorem dX9_copy_53 : decode cX9_copy 53 = .ok (.aload 6, 2) := by decide +kernel
theorem dX9_copy_55 : decode cX9_copy 55 = .ok (.getfield 216, 3) := by decide +kernel
theorem dX9_copy_58 : decode cX9_copy 58 = .ok (.aload 7, 2) := by decide +kernel
theorem dX9_copy_60 : decode cX9_copy 60 = .ok (.getfield 216, 3) := by decide +kernel
theorem dX9_copy_63 : decode cX9_copy 63 = .ok (.if_icmp .eq 9, 3) := by decide +kernel
theorem dX9_copy_66 : decode cX9_copy 66 = .ok (.aload_n 0, 1) := by decide +kernel
theorem dX9_copy_67 : decode cX9_copy 67 = .ok (.iconst 2, 1) := by decide +kernel
theorem dX9_copy_68 : decode cX9_copy 68 = .ok (.invokevirtual 188, 3) := by decide +kernel
theorem dX9_copy_71 : decode cX9_copy 71 = .ok (.ireturn, 1) := by decide +kernel
theorem dX9_copy_72 : decode cX9_copy 72 = .ok (.aload 6, 2) := by decide +kernel
theorem dX9_copy_74 : decode cX9_copy 74 = .ok (.iload_n 2, 1) := by decide +kernel
theorem dX9_copy_75 : decode cX9_copy 75 = .ok (.iload 5, 2) := by decide +kernel
theorem dX9_copy_77 : decode cX9_copy 77 = .ok (.invokevirtual 219, 3) := by decide +kernel
theorem dX9_copy_80 : decode cX9_copy 80 = .ok (.ifCond .eq 15, 3) := by decide +kernel
theorem dX9_copy_83 : decode cX9_copy 83 = .ok (.aload 7, 2) := by decide +kernel
theorem dX9_copy_85 : decode cX9_copy 85 = .ok (.iload 4, 2) := by decide +kernel
theorem dX9_copy_87 : decode cX9_copy 87 = .ok (.iload 5, 2) := by decide +kernel
theorem dX9_copy_89 : decode cX9_copy 89 = .ok (.invokevirtual 219, 3) := by decide +kernel
theorem dX9_copy_92 : decode cX9_copy 92 = .ok (.ifCond .ne 9, 3) := by decide +kernel
theorem dX9_copy_95 : decode cX9_copy 95 = .ok (.aload_n 0, 1) := by decide +kernel
theorem dX9_copy_96 : decode cX9_copy 96 = .ok (.iconst 3, 1) := by decide +kernel
theorem dX9_copy_97 : decode cX9_copy 97 = .ok (.invokevirtual 188, 3) := by decide +kernel
theorem dX9_copy_100 : decode cX9_copy 100 = .ok (.ireturn, 1) := by decide +kernel
theorem dX9_copy_101 : decode cX9_copy 101 = .ok (.aload 6, 2) := by decide +kernel
theorem dX9_copy_103 : decode cX9_copy 103 = .ok (.getfield 223, 3) := by decide +kernel
theorem dX9_copy_106 : decode cX9_copy 106 = .ok (.iload_n 2, 1) := by decide +kernel
theorem dX9_copy_107 : decode cX9_copy 107 = .ok (.aload 7, 2) := by decide +kernel
theorem dX9_copy_109 : decode cX9_copy 109 = .ok (.getfield 223, 3) := by decide +kernel
theorem dX9_copy_112 : decode cX9_copy 112 = .ok (.iload 4, 2) := by decide +kernel
theorem dX9_copy_114 : decode cX9_copy 114 = .ok (.iload 5, 2) := by decide +kernel
theorem dX9_copy_116 : decode cX9_copy 116 = .ok (.invokestatic 226, 3) := by decide +kernel
theorem dX9_copy_119 : decode cX9_copy 119 = .ok (.iload 5, 2) := by decide +kernel
theorem dX9_copy_121 : decode cX9_copy 121 = .ok (.ireturn, 1) := by decide +kernel
set_option maxRecDepth 20000 in
theorem ggX9_tell_X5_thingAt : GoodIn wsX9_tell wsX5_thingAt := goodIn_r _ [7, 8, 9, 10, 11, 6, 12, 13, 63, 64, 65, 66, 67, 68, 69, 70] (by decide +kernel) (by decide +kernel)
set_option maxRecDepth 20000 in
theorem gX9_tell_X5_thingAt : GoodIn wsX9_tell (wsV RX9 86 RX5 yX5_thingAt wsX5_thingAt) := goodIn_app (goodIn_of _ (by decide +kernel)) ggX9_tell_X5_thingAt
set_option maxRecDepth 20000 in
theorem ggX9_tell_X0_telling : GoodIn wsX9_tell wsX0_telling := goodIn_r _ [20, 21, 22, 23, 24, 25, 26, 27, 28, 29, 30, 31, 32, 33, 34, 15, 35, 36, 37, 38, 39, 40, 41, 42, 43, 44, 45, 46, 47, 48, 49, 50, 51, 71, 72, 73, 74, 75, 76, 77, 78, 79, 80, 81, 82, 83, 84, 85, 86] (by decide +kernel) (by decide +kernel)
set_option maxRecDepth 20000 in
theorem gX9_tell_X0_telling_u232X0 : GoodIn wsX9_tell (va_wsO RX9 232 RX0 "OneNail$Thing" ⟨"OneNail$Thing", "telling", "(LOneNail$Trace;)I"⟩ yX0_telling wsX0_telling) := goodIn_app (goodIn_of _ (by decide +kernel)) ggX9_tell_X0_telling
set_option maxRecDepth 20000 in
theorem ggX9_tell_X1_telling : GoodIn wsX9_tell wsX1_telling := goodIn_r _ [32, 33, 22, 23, 24, 25, 26, 34, 15, 35, 36, 37, 38, 39, 40, 41, 42, 43, 44, 45, 46, 47, 48, 71, 72, 73, 74, 75, 76, 77, 78, 79, 80, 81, 82, 83, 84, 85, 86] (by decide +kernel) (by decide +kernel)
set_option maxRecDepth 20000 in
theorem gX9_tell_X1_telling_u232X1 : GoodIn wsX9_tell (va_wsO RX9 232 RX1 "OneNail$Thing" ⟨"OneNail$Thing", "telling", "(LOneNail$Trace;)I"⟩ yX1_telling wsX1_telling) := goodIn_app (goodIn_of _ (by decide +kernel)) ggX9_tell_X1_telling
set_option maxRecDepth 20000 in
theorem ggX9_tell_X6_telling : GoodIn wsX9_tell wsX6_telling := goodIn_r _ [38, 39, 40, 41, 42, 37, 43, 44, 45, 22, 23, 24, 25, 26, 46, 47, 48, 72, 73, 74, 75, 76, 77, 78, 79, 80, 81, 82, 83, 84, 85, 86, 71] (by decide +kernel) (by decide +kernel)
set_option maxRecDepth 20000 in
theorem gX9_tell_X6_telling : GoodIn wsX9_tell (wsV RX9 232 RX6 yX6_telling wsX6_telling) := goodIn_app (goodIn_of _ (by decide +kernel)) ggX9_tell_X6_telling
theorem dX9_tell_0 : decode cX9_tell 0 = .ok (.aload_n 0, 1) := by decide +kernel
theorem dX9_tell_1 : decode cX9_tell 1 = .ok (.getfield 12, 3) := by decide +kernel
theorem dX9_tell_4 : decode cX9_tell 4 = .ok (.iload_n 1, 1) := by decide +kernel
theorem dX9_tell_5 : decode cX9_tell 5 = .ok (.invokevirtual 86, 3) := by decide +kernel
theorem dX9_tell_8 : decode cX9_tell 8 = .ok (.astore_n 2, 1) := by decide +kernel
theorem dX9_tell_9 : decode cX9_tell 9 = .ok (.aload_n 2, 1) := by decide +kernel
theorem dX9_tell_10 : decode cX9_tell 10 = .ok (.ifnonnull 7, 3) := by decide +kernel
theorem dX9_tell_13 : decode cX9_tell 13 = .ok (.iconst (-1), 1) := by decide +kernel
theorem dX9_tell_14 : decode cX9_tell 14 = .ok (.goto 11, 3) := by decide +kernel
theorem dX9_tell_17 : decode cX9_tell 17 = .ok (.aload_n 2, 1) := by decide +kernel
theorem dX9_tell_18 : decode cX9_tell 18 = .ok (.aload_n 0, 1) := by decide +kernel
theorem dX9_tell_19 : decode cX9_tell 19 = .ok (.getfield 54, 3) := by decide +kernel
theorem dX9_tell_22 : decode cX9_tell 22 = .ok (.invokevirtual 232, 3) := by decide +kernel
theorem dX9_tell_25 : decode cX9_tell 25 = .ok (.ireturn, 1) := by decide +kernel
set_option maxRecDepth 20000 in
theorem ggX9_strike_X5_thingAt : GoodIn wsX9_strike wsX5_thingAt := goodIn_r _ [7, 8, 9, 10, 11, 6, 12, 13, 43, 44, 45, 46, 47, 48, 49, 50] (by decide +kernel) (by decide +kernel)
set_option maxRecDepth 20000 in
theorem gX9_strike_X5_thingAt : GoodIn wsX9_strike (wsV RX9 86 RX5 yX5_thingAt wsX5_thingAt) := goodIn_app (goodIn_of _ (by decide +kernel)) ggX9_strike_X5_thingAt
set_option maxRecDepth 20000 in
theorem ggX9_strike_X0_struck : GoodIn wsX9_strike wsX0_struck := goodIn_r _ [20, 21, 22, 23, 24, 25, 26, 51] (by decide +kernel) (by decide +kernel)
set_option maxRecDepth 20000 in
theorem gX9_strike_X0_struck_u236X0 : GoodIn wsX9_strike (va_wsO RX9 236 RX0 "OneNail$Thing" ⟨"OneNail$Thing", "struck", "(LOneNail$Trace;)I"⟩ yX0_struck wsX0_struck) := goodIn_app (goodIn_of _ (by decide +kernel)) ggX9_strike_X0_struck
set_option maxRecDepth 20000 in
theorem ggX9_strike_X6_struck : GoodIn wsX9_strike wsX6_struck := goodIn_r _ [27, 31, 32, 22, 23, 24, 25, 26, 52, 53, 54, 55, 56, 57, 58, 59, 60, 61, 62, 63, 64, 65, 66, 51] (by decide +kernel) (by decide +kernel)
set_option maxRecDepth 20000 in
theorem gX9_strike_X6_struck_u236X1 : GoodIn wsX9_strike (va_wsU RX9 236 RX1 "OneNail$Thing" ⟨"OneNail$Thing", "struck", "(LOneNail$Trace;)I"⟩ yX6_struck wsX6_struck) := goodIn_app (goodIn_of _ (by decide +kernel)) ggX9_strike_X6_struck
set_option maxRecDepth 20000 in
theorem gX9_strike_X6_struck : GoodIn wsX9_strike (wsV RX9 236 RX6 yX6_struck wsX6_struck) := goodIn_app (goodIn_of _ (by decide +kernel)) ggX9_strike_X6_struck
theorem dX9_strike_0 : decode cX9_strike 0 = .ok (.aload_n 0, 1) := by decide +kernel
theorem dX9_strike_1 : decode cX9_strike 1 = .ok (.getfield 12, 3) := by decide +kernel
theorem dX9_strike_4 : decode cX9_strike 4 = .ok (.iload_n 1, 1) := by decide +kernel
theorem dX9_strike_5 : decode cX9_strike 5 = .ok (.invokevirtual 86, 3) := by decide +kernel
theorem dX9_strike_8 : decode cX9_strike 8 = .ok (.astore_n 2, 1) := by decide +kernel
theorem dX9_strike_9 : decode cX9_strike 9 = .ok (.aload_n 2, 1) := by decide +kernel
theorem dX9_strike_10 : decode cX9_strike 10 = .ok (.ifnonnull 7, 3) := by decide +kernel
theorem dX9_strike_13 : decode cX9_strike 13 = .ok (.iconst (-1), 1) := by decide +kernel
theorem dX9_strike_14 : decode cX9_strike 14 = .ok (.goto 11, 3) := by decide +kernel
theorem dX9_strike_17 : decode cX9_strike 17 = .ok (.aload_n 2, 1) := by decide +kernel
theorem dX9_strike_18 : decode cX9_strike 18 = .ok (.aload_n 0, 1) := by decide +kernel
theorem dX9_strike_19 : decode cX9_strike 19 = .ok (.getfield 54, 3) := by decide +kernel
theorem dX9_strike_22 : decode cX9_strike 22 = .ok (.invokevirtual 236, 3) := by decide +kernel
theorem dX9_strike_25 : decode cX9_strike 25 = .ok (.ireturn, 1) := by decide +kernel
set_option maxRecDepth 20000 in
theorem ggX9_as_X5_thingAt : GoodIn wsX9_as wsX5_thingAt := goodIn_r _ [7, 8, 9, 10, 11, 6, 12, 13, 43, 44, 45, 46, 47, 48, 49, 50] (by decide +kernel) (by decide +kernel)
set_option maxRecDepth 20000 in
theorem gX9_as_X5_thingAt : GoodIn wsX9_as (wsV RX9 86 RX5 yX5_thingAt wsX5_thingAt) := goodIn_app (goodIn_of _ (by decide +kernel)) ggX9_as_X5_thingAt
set_option maxRecDepth 20000 in
theorem ggX9_as_X0_kindNumber : GoodIn wsX9_as wsX0_kindNumber := goodIn_r _ [20] (by decide +kernel) (by decide +kernel)
set_option maxRecDepth 20000 in
theorem gX9_as_X0_kindNumber_u90X0 : GoodIn wsX9_as (va_wsO RX9 90 RX0 "OneNail$Thing" ⟨"OneNail$Thing", "kindNumber", "()I"⟩ yX0_kindNumber wsX0_kindNumber) := goodIn_app (goodIn_of _ (by decide +kernel)) ggX9_as_X0_kindNumber
set_option maxRecDepth 20000 in
theorem ggX9_as_X1_kindNumber : GoodIn wsX9_as wsX1_kindNumber := goodIn_r _ [25] (by decide +kernel) (by decide +kernel)
set_option maxRecDepth 20000 in
theorem gX9_as_X1_kindNumber_u90X1 : GoodIn wsX9_as (va_wsO RX9 90 RX1 "OneNail$Thing" ⟨"OneNail$Thing", "kindNumber", "()I"⟩ yX1_kindNumber wsX1_kindNumber) := goodIn_app (goodIn_of _ (by decide +kernel)) ggX9_as_X1_kindNumber
set_option maxRecDepth 20000 in
theorem ggX9_as_X6_kindNumber : GoodIn wsX9_as wsX6_kindNumber := goodIn_r _ [21] (by decide +kernel) (by decide +kernel)
set_option maxRecDepth 20000 in
theorem gX9_as_X6_kindNumber : GoodIn wsX9_as (wsV RX9 90 RX6 yX6_kindNumber wsX6_kindNumber) := goodIn_app (goodIn_of _ (by decide +kernel)) ggX9_as_X6_kindNumber
set_option maxRecDepth 20000 in
theorem ggX9_as_X9_failBy : GoodIn wsX9_as wsX9_failBy := goodIn_r _ [34, 1, 35, 36, 37, 38, 39, 40, 41, 42] (by decide +kernel) (by decide +kernel)
set_option maxRecDepth 20000 in
theorem gX9_as_X9_failBy : GoodIn wsX9_as (wsV RX9 188 RX9 yX9_failBy wsX9_failBy) := goodIn_app (goodIn_of _ (by decide +kernel)) ggX9_as_X9_failBy
theorem dX9_as_0 : decode cX9_as 0 = .ok (.aload_n 0, 1) := by decide +kernel
theorem dX9_as_1 : decode cX9_as 1 = .ok (.iconst 0, 1) := by decide +kernel
theorem dX9_as_2 : decode cX9_as 2 = .ok (.putfield 58, 3) := by decide +kernel
theorem dX9_as_5 : decode cX9_as 5 = .ok (.aload_n 0, 1) := by decide +kernel
theorem dX9_as_6 : decode cX9_as 6 = .ok (.getfield 12, 3) := by decide +kernel
theorem dX9_as_9 : decode cX9_as 9 = .ok (.iload_n 1, 1) := by decide +kernel
theorem dX9_as_10 : decode cX9_as 10 = .ok (.invokevirtual 86, 3) := by decide +kernel
theorem dX9_as_13 : decode cX9_as 13 = .ok (.astore_n 3, 1) := by decide +kernel
theorem dX9_as_14 : decode cX9_as 14 = .ok (.aload_n 3, 1) := by decide +kernel
theorem dX9_as_15 : decode cX9_as 15 = .ok (.ifnonnull 5, 3) := by decide +kernel
theorem dX9_as_18 : decode cX9_as 18 = .ok (.iconst (-1), 1) := by decide +kernel
theorem dX9_as_19 : decode cX9_as 19 = .ok (.ireturn, 1) := by decide +kernel
theorem dX9_as_20 : decode cX9_as 20 = .ok (.iload_n 2, 1) := by decide +kernel
theorem dX9_as_21 : decode cX9_as 21 = .ok (.ifCond .lt 8, 3) := by decide +kernel
theorem dX9_as_24 : decode cX9_as 24 = .ok (.iload_n 2, 1) := by decide +kernel
theorem dX9_as_25 : decode cX9_as 25 = .ok (.iconst 3, 1) := by decide +kernel
theorem dX9_as_26 : decode cX9_as 26 = .ok (.if_icmp .lt 6, 3) := by decide +kernel
theorem dX9_as_29 : decode cX9_as 29 = .ok (.bipush (-2), 2) := by decide +kernel
theorem dX9_as_31 : decode cX9_as 31 = .ok (.ireturn, 1) := by decide +kernel
theorem dX9_as_32 : decode cX9_as 32 = .ok (.aload_n 3, 1) := by decide +kernel
theorem dX9_as_33 : decode cX9_as 33 = .ok (.invokevirtual 90, 3) := by decide +kernel
theorem dX9_as_36 : decode cX9_as 36 = .ok (.iload_n 2, 1) := by decide +kernel
theorem dX9_as_37 : decode cX9_as 37 = .ok (.if_icmp .ge 11, 3) := by decide +kernel
theorem dX9_as_40 : decode cX9_as 40 = .ok (.aload_n 0, 1) := by decide +kernel
theorem dX9_as_41 : decode cX9_as 41 = .ok (.iconst 2, 1) := by decide +kernel
theorem dX9_as_42 : decode cX9_as 42 = .ok (.invokevirtual 188, 3) := by decide +kernel
theorem dX9_as_45 : decode cX9_as 45 = .ok (.goto 4, 3) := by decide +kernel
theorem dX9_as_48 : decode cX9_as 48 = .ok (.iconst 1, 1) := by decide +kernel
theorem dX9_as_49 : decode cX9_as 49 = .ok (.ireturn, 1) := by decide +kernel
theorem dX9_trace_0 : decode cX9_trace 0 = .ok (.aload_n 0, 1) := by decide +kernel
theorem dX9_trace_1 : decode cX9_trace 1 = .ok (.getfield 54, 3) := by decide +kernel
theorem dX9_trace_4 : decode cX9_trace 4 = .ok (.getfield 239, 3) := by decide +kernel
theorem dX9_trace_7 : decode cX9_trace 7 = .ok (.ireturn, 1) := by decide +kernel
theorem dX9_fault_0 : decode cX9_fault 0 = .ok (.aload_n 0, 1) := by decide +kernel
theorem dX9_fault_1 : decode cX9_fault 1 = .ok (.getfield 58, 3) := by decide +kernel
theorem dX9_fault_4 : decode cX9_fault 4 = .ok (.ireturn, 1) := by decide +kernel
theorem dX9_many_0 : decode cX9_many 0 = .ok (.iload_n 1, 1) := by decide +kernel
theorem dX9_many_1 : decode cX9_many 1 = .ok (.tableswitch 63 0 3 #[31, 39, 47, 55], 31) := by decide +kernel
theorem dX9_many_32 : decode cX9_many 32 = .ok (.aload_n 0, 1) := by decide +kernel
theorem dX9_many_33 : decode cX9_many 33 = .ok (.getfield 12, 3) := by decide +kernel
theorem dX9_many_36 : decode cX9_many 36 = .ok (.getfield 83, 3) := by decide +kernel
theorem dX9_many_39 : decode cX9_many 39 = .ok (.ireturn, 1) := by decide +kernel
theorem dX9_many_40 : decode cX9_many 40 = .ok (.aload_n 0, 1) := by decide +kernel
theorem dX9_many_41 : decode cX9_many 41 = .ok (.getfield 12, 3) := by decide +kernel
theorem dX9_many_44 : decode cX9_many 44 = .ok (.getfield 115, 3) := by decide +kernel
theorem dX9_many_47 : decode cX9_many 47 = .ok (.ireturn, 1) := by decide +kernel
theorem dX9_many_48 : decode cX9_many 48 = .ok (.aload_n 0, 1) := by decide +kernel
theorem dX9_many_49 : decode cX9_many 49 = .ok (.getfield 12, 3) := by decide +kernel
theorem dX9_many_52 : decode cX9_many 52 = .ok (.getfield 108, 3) := by decide +kernel
theorem dX9_many_55 : decode cX9_many 55 = .ok (.ireturn, 1) := by decide +kernel
theorem dX9_many_56 : decode cX9_many 56 = .ok (.aload_n 0, 1) := by decide +kernel
theorem dX9_many_57 : decode cX9_many 57 = .ok (.getfield 21, 3) := by decide +kernel
theorem dX9_many_60 : decode cX9_many 60 = .ok (.getfield 183, 3) := by decide +kernel
theorem dX9_many_63 : decode cX9_many 63 = .ok (.ireturn, 1) := by decide +kernel
theorem dX9_many_64 : decode cX9_many 64 = .ok (.bipush (-2), 2) := by decide +kernel
theorem dX9_many_66 : decode cX9_many 66 = .ok (.ireturn, 1) := by decide +kernel
theorem dX9_isLane_0 : decode cX9_isLane 0 = .ok (.iload_n 0, 1) := by decide +kernel
theorem dX9_isLane_1 : decode cX9_isLane 1 = .ok (.ifCond .lt 12, 3) := by decide +kernel
theorem dX9_isLane_4 : decode cX9_isLane 4 = .ok (.iload_n 0, 1) := by decide +kernel
theorem dX9_isLane_5 : decode cX9_isLane 5 = .ok (.iconst 3, 1) := by decide +kernel
theorem dX9_isLane_6 : decode cX9_isLane 6 = .ok (.if_icmp .ge 7, 3) := by decide +kernel
theorem dX9_isLane_9 : decode cX9_isLane 9 = .ok (.iconst 1, 1) := by decide +kernel
theorem dX9_isLane_10 : decode cX9_isLane 10 = .ok (.goto 4, 3) := by decide +kernel
theorem dX9_isLane_13 : decode cX9_isLane 13 = .ok (.iconst 0, 1) := by decide +kernel
theorem dX9_isLane_14 : decode cX9_isLane 14 = .ok (.ireturn, 1) := by decide +kernel
theorem dX9_isSpan_0 : decode cX9_isSpan 0 = .ok (.iload_n 0, 1) := by decide +kernel
theorem dX9_isSpan_1 : decode cX9_isSpan 1 = .ok (.iconst 1, 1) := by decide +kernel
theorem dX9_isSpan_2 : decode cX9_isSpan 2 = .ok (.if_icmp .lt 14, 3) := by decide +kernel
theorem dX9_isSpan_5 : decode cX9_isSpan 5 = .ok (.iload_n 0, 1) := by decide +kernel
theorem dX9_isSpan_6 : decode cX9_isSpan 6 = .ok (.sipush 300, 3) := by decide +kernel
theorem dX9_isSpan_9 : decode cX9_isSpan 9 = .ok (.if_icmp .gt 7, 3) := by decide +kernel
theorem dX9_isSpan_12 : decode cX9_isSpan 12 = .ok (.iconst 1, 1) := by decide +kernel
theorem dX9_isSpan_13 : decode cX9_isSpan 13 = .ok (.goto 4, 3) := by decide +kernel
theorem dX9_isSpan_16 : decode cX9_isSpan 16 = .ok (.iconst 0, 1) := by decide +kernel
theorem dX9_isSpan_17 : decode cX9_isSpan 17 = .ok (.ireturn, 1) := by decide +kernel
theorem dX9_isMinute_0 : decode cX9_isMinute 0 = .ok (.iload_n 0, 1) := by decide +kernel
theorem dX9_isMinute_1 : decode cX9_isMinute 1 = .ok (.ifCond .lt 14, 3) := by decide +kernel
theorem dX9_isMinute_4 : decode cX9_isMinute 4 = .ok (.iload_n 0, 1) := by decide +kernel
theorem dX9_isMinute_5 : decode cX9_isMinute 5 = .ok (.sipush 300, 3) := by decide +kernel
theorem dX9_isMinute_8 : decode cX9_isMinute 8 = .ok (.if_icmp .ge 7, 3) := by decide +kernel
theorem dX9_isMinute_11 : decode cX9_isMinute 11 = .ok (.iconst 1, 1) := by decide +kernel
theorem dX9_isMinute_12 : decode cX9_isMinute 12 = .ok (.goto 4, 3) := by decide +kernel
theorem dX9_isMinute_15 : decode cX9_isMinute 15 = .ok (.iconst 0, 1) := by decide +kernel
theorem dX9_isMinute_16 : decode cX9_isMinute 16 = .ok (.ireturn, 1) := by decide +kernel
theorem dX9_isHalf_0 : decode cX9_isHalf 0 = .ok (.iload_n 0, 1) := by decide +kernel
theorem dX9_isHalf_1 : decode cX9_isHalf 1 = .ok (.ifCond .eq 8, 3) := by decide +kernel
theorem dX9_isHalf_4 : decode cX9_isHalf 4 = .ok (.iload_n 0, 1) := by decide +kernel
theorem dX9_isHalf_5 : decode cX9_isHalf 5 = .ok (.iconst 1, 1) := by decide +kernel
theorem dX9_isHalf_6 : decode cX9_isHalf 6 = .ok (.if_icmp .ne 7, 3) := by decide +kernel
theorem dX9_isHalf_9 : decode cX9_isHalf 9 = .ok (.iconst 1, 1) := by decide +kernel
theorem dX9_isHalf_10 : decode cX9_isHalf 10 = .ok (.goto 4, 3) := by decide +kernel
theorem dX9_isHalf_13 : decode cX9_isHalf 13 = .ok (.iconst 0, 1) := by decide +kernel
theorem dX9_isHalf_14 : decode cX9_isHalf 14 = .ok (.ireturn, 1) := by decide +kernel
theorem dX9_sheetAt_0 : decode cX9_sheetAt 0 = .ok (.iload_n 1, 1) := by decide +kernel
theorem dX9_sheetAt_1 : decode cX9_sheetAt 1 = .ok (.ifCond .lt 21, 3) := by decide +kernel
theorem dX9_sheetAt_4 : decode cX9_sheetAt 4 = .ok (.iload_n 1, 1) := by decide +kernel
theorem dX9_sheetAt_5 : decode cX9_sheetAt 5 = .ok (.aload_n 0, 1) := by decide +kernel
theorem dX9_sheetAt_6 : decode cX9_sheetAt 6 = .ok (.getfield 43, 3) := by decide +kernel
theorem dX9_sheetAt_9 : decode cX9_sheetAt 9 = .ok (.arraylength, 1) := by decide +kernel
theorem dX9_sheetAt_10 : decode cX9_sheetAt 10 = .ok (.if_icmp .ge 12, 3) := by decide +kernel
theorem dX9_sheetAt_13 : decode cX9_sheetAt 13 = .ok (.aload_n 0, 1) := by decide +kernel
theorem dX9_sheetAt_14 : decode cX9_sheetAt 14 = .ok (.getfield 43, 3) := by decide +kernel
theorem dX9_sheetAt_17 : decode cX9_sheetAt 17 = .ok (.iload_n 1, 1) := by decide +kernel
theorem dX9_sheetAt_18 : decode cX9_sheetAt 18 = .ok (.aaload, 1) := by decide +kernel
theorem dX9_sheetAt_19 : decode cX9_sheetAt 19 = .ok (.goto 4, 3) := by decide +kernel
theorem dX9_sheetAt_22 : decode cX9_sheetAt 22 = .ok (.aconst_null, 1) := by decide +kernel
theorem dX9_sheetAt_23 : decode cX9_sheetAt 23 = .ok (.areturn, 1) := by decide +kernel
theorem dX9_failBy_0 : decode cX9_failBy 0 = .ok (.aload_n 0, 1) := by decide +kernel
theorem dX9_failBy_1 : decode cX9_failBy 1 = .ok (.iload_n 1, 1) := by decide +kernel
theorem dX9_failBy_2 : decode cX9_failBy 2 = .ok (.putfield 58, 3) := by decide +kernel
theorem dX9_failBy_5 : decode cX9_failBy 5 = .ok (.bipush (-10), 2) := by decide +kernel
theorem dX9_failBy_7 : decode cX9_failBy 7 = .ok (.iload_n 1, 1) := by decide +kernel
theorem dX9_failBy_8 : decode cX9_failBy 8 = .ok (.isub, 1) := by decide +kernel
theorem dX9_failBy_9 : decode cX9_failBy 9 = .ok (.ireturn, 1) := by decide +kernel
set_option maxRecDepth 20000 in
theorem ggX9_refuseLane_X4_isNothing : GoodIn wsX9_refuseLane wsX4_isNothing := goodIn_r _ [6, 7, 14, 15, 16] (by decide +kernel) (by decide +kernel)
set_option maxRecDepth 20000 in
theorem gX9_refuseLane_X4_isNothing : GoodIn wsX9_refuseLane (wsV RX9 195 RX4 yX4_isNothing wsX4_isNothing) := goodIn_app (goodIn_of _ (by decide +kernel)) ggX9_refuseLane_X4_isNothing
set_option maxRecDepth 20000 in
theorem ggX9_refuseLane_X9_failBy : GoodIn wsX9_refuseLane wsX9_failBy := goodIn_r _ [12, 13, 17, 18, 19, 20, 21, 22, 23, 24] (by decide +kernel) (by decide +kernel)
set_option maxRecDepth 20000 in
theorem gX9_refuseLane_X9_failBy : GoodIn wsX9_refuseLane (wsV RX9 188 RX9 yX9_failBy wsX9_failBy) := goodIn_app (goodIn_of _ (by decide +kernel)) ggX9_refuseLane_X9_failBy
theorem dX9_refuseLane_0 : decode cX9_refuseLane 0 = .ok (.aload_n 1, 1) := by decide +kernel
theorem dX9_refuseLane_1 : decode cX9_refuseLane 1 = .ok (.invokevirtual 195, 3) := by decide +kernel
theorem dX9_refuseLane_4 : decode cX9_refuseLane 4 = .ok (.ifCond .eq 9, 3) := by decide +kernel
theorem dX9_refuseLane_7 : decode cX9_refuseLane 7 = .ok (.aload_n 0, 1) := by decide +kernel
theorem dX9_refuseLane_8 : decode cX9_refuseLane 8 = .ok (.iconst 1, 1) := by decide +kernel
theorem dX9_refuseLane_9 : decode cX9_refuseLane 9 = .ok (.invokevirtual 188, 3) := by decide +kernel
theorem dX9_refuseLane_12 : decode cX9_refuseLane 12 = .ok (.ireturn, 1) := by decide +kernel
theorem dX9_refuseLane_13 : decode cX9_refuseLane 13 = .ok (.aload_n 1, 1) := by decide +kernel
theorem dX9_refuseLane_14 : decode cX9_refuseLane 14 = .ok (.getfield 216, 3) := by decide +kernel
theorem dX9_refuseLane_17 : decode cX9_refuseLane 17 = .ok (.iload_n 2, 1) := by decide +kernel
theorem dX9_refuseLane_18 : decode cX9_refuseLane 18 = .ok (.if_icmp .eq 11, 3) := by decide +kernel
theorem dX9_refuseLane_21 : decode cX9_refuseLane 21 = .ok (.aload_n 0, 1) := by decide +kernel
theorem dX9_refuseLane_22 : decode cX9_refuseLane 22 = .ok (.iconst 2, 1) := by decide +kernel
theorem dX9_refuseLane_23 : decode cX9_refuseLane 23 = .ok (.invokevirtual 188, 3) := by decide +kernel
theorem dX9_refuseLane_26 : decode cX9_refuseLane 26 = .ok (.goto 4, 3) := by decide +kernel
theorem dX9_refuseLane_29 : decode cX9_refuseLane 29 = .ok (.iconst 0, 1) := by decide +kernel
theorem dX9_refuseLane_30 : decode cX9_refuseLane 30 = .ok (.ireturn, 1) := by decide +kernel
set_option maxRecDepth 20000 in
theorem ggX9_refuseCells_X9_sheetAt : GoodIn wsX9_refuseCells wsX9_sheetAt := goodIn_r _ [6, 7, 28, 29, 30, 31, 32, 33, 34, 35] (by decide +kernel) (by decide +kernel)
set_option maxRecDepth 20000 in
theorem gX9_refuseCells_X9_sheetAt : GoodIn wsX9_refuseCells (wsV RX9 71 RX9 yX9_sheetAt wsX9_sheetAt) := goodIn_app (goodIn_of _ (by decide +kernel)) ggX9_refuseCells_X9_sheetAt
set_option maxRecDepth 20000 in
theorem ggX9_refuseCells_X9_refuseLane : GoodIn wsX9_refuseCells wsX9_refuseLane := goodIn_r _ [11, 12, 13, 14, 15, 16, 17, 18, 19, 20, 21, 5, 22, 1, 36, 37, 38, 28, 29, 30, 31, 32, 33, 34, 35] (by decide +kernel) (by decide +kernel)
set_option maxRecDepth 20000 in
theorem gX9_refuseCells_X9_refuseLane : GoodIn wsX9_refuseCells (wsV RX9 207 RX9 yX9_refuseLane wsX9_refuseLane) := goodIn_app (goodIn_of _ (by decide +kernel)) ggX9_refuseCells_X9_refuseLane
set_option maxRecDepth 20000 in
theorem ggX9_refuseCells_X9_failBy : GoodIn wsX9_refuseCells wsX9_failBy := goodIn_r _ [22, 1, 28, 29, 30, 31, 32, 33, 34, 35] (by decide +kernel) (by decide +kernel)
set_option maxRecDepth 20000 in
theorem gX9_refuseCells_X9_failBy : GoodIn wsX9_refuseCells (wsV RX9 188 RX9 yX9_failBy wsX9_failBy) := goodIn_app (goodIn_of _ (by decide +kernel)) ggX9_refuseCells_X9_failBy
set_option maxRecDepth 20000 in
theorem ggX9_refuseCells_X4_spans : GoodIn wsX9_refuseCells wsX4_spans := goodIn_r _ [26, 27, 36, 37, 38] (by decide +kernel) (by decide +kernel)
set_option maxRecDepth 20000 in
theorem gX9_refuseCells_X4_spans : GoodIn wsX9_refuseCells (wsV RX9 219 RX4 yX4_spans wsX4_spans) := goodIn_app (goodIn_of _ (by decide +kernel)) ggX9_refuseCells_X4_spans
theorem dX9_refuseCells_0 : decode cX9_refuseCells 0 = .ok (.aload_n 0, 1) := by decide +kernel
theorem dX9_refuseCells_1 : decode cX9_refuseCells 1 = .ok (.iconst 0, 1) := by decide +kernel
theorem dX9_refuseCells_2 : decode cX9_refuseCells 2 = .ok (.putfield 58, 3) := by decide +kernel
theorem dX9_refuseCells_5 : decode cX9_refuseCells 5 = .ok (.aload_n 0, 1) := by decide +kernel
theorem dX9_refuseCells_6 : decode cX9_refuseCells 6 = .ok (.iload_n 1, 1) := by decide +kernel
theorem dX9_refuseCells_7 : decode cX9_refuseCells 7 = .ok (.invokevirtual 71, 3) := by decide +kernel
theorem dX9_refuseCells_10 : decode cX9_refuseCells 10 = .ok (.astore 6, 2) := by decide +kernel
theorem dX9_refuseCells_12 : decode cX9_refuseCells 12 = .ok (.aload 6, 2) := by decide +kernel
theorem dX9_refuseCells_14 : decode cX9_refuseCells 14 = .ok (.ifnonnull 5, 3) := by decide +kernel
theorem dX9_refuseCells_17 : decode cX9_refuseCells 17 = .ok (.iconst (-1), 1) := by decide +kernel
theorem dX9_refuseCells_18 : decode cX9_refuseCells 18 = .ok (.ireturn, 1) := by decide +kernel
theorem dX9_refuseCells_19 : decode cX9_refuseCells 19 = .ok (.iload_n 2, 1) := by decide +kernel
theorem dX9_refuseCells_20 : decode cX9_refuseCells 20 = .ok (.ifCond .ne 6, 3) := by decide +kernel
theorem dX9_refuseCells_23 : decode cX9_refuseCells 23 = .ok (.bipush (-2), 2) := by decide +kernel
theorem dX9_refuseCells_25 : decode cX9_refuseCells 25 = .ok (.ireturn, 1) := by decide +kernel
theorem dX9_refuseCells_26 : decode cX9_refuseCells 26 = .ok (.aload_n 0, 1) := by decide +kernel
theorem dX9_refuseCells_27 : decode cX9_refuseCells 27 = .ok (.aload 6, 2) := by decide +kernel
theorem dX9_refuseCells_29 : decode cX9_refuseCells 29 = .ok (.iload_n 3, 1) := by decide +kernel
theorem dX9_refuseCells_30 : decode cX9_refuseCells 30 = .ok (.invokevirtual 207, 3) := by decide +kernel
theorem dX9_refuseCells_33 : decode cX9_refuseCells 33 = .ok (.istore 7, 2) := by decide +kernel
theorem dX9_refuseCells_35 : decode cX9_refuseCells 35 = .ok (.iload 7, 2) := by decide +kernel
theorem dX9_refuseCells_37 : decode cX9_refuseCells 37 = .ok (.ifCond .eq 6, 3) := by decide +kernel
theorem dX9_refuseCells_40 : decode cX9_refuseCells 40 = .ok (.iload 7, 2) := by decide +kernel
theorem dX9_refuseCells_42 : decode cX9_refuseCells 42 = .ok (.ireturn, 1) := by decide +kernel
theorem dX9_refuseCells_43 : decode cX9_refuseCells 43 = .ok (.iload 5, 2) := by decide +kernel
theorem dX9_refuseCells_45 : decode cX9_refuseCells 45 = .ok (.ifCond .ge 9, 3) := by decide +kernel
theorem dX9_refuseCells_48 : decode cX9_refuseCells 48 = .ok (.aload_n 0, 1) := by decide +kernel
theorem dX9_refuseCells_49 : decode cX9_refuseCells 49 = .ok (.iconst 4, 1) := by decide +kernel
theorem dX9_refuseCells_50 : decode cX9_refuseCells 50 = .ok (.invokevirtual 188, 3) := by decide +kernel
theorem dX9_refuseCells_53 : decode cX9_refuseCells 53 = .ok (.ireturn, 1) := by decide +kernel
theorem dX9_refuseCells_54 : decode cX9_refuseCells 54 = .ok (.aload 6, 2) := by decide +kernel
theorem dX9_refuseCells_56 : decode cX9_refuseCells 56 = .ok (.iload 4, 2) := by decide +kernel
theorem dX9_refuseCells_58 : decode cX9_refuseCells 58 = .ok (.iload 5, 2) := by decide +kernel
theorem dX9_refuseCells_60 : decode cX9_refuseCells 60 = .ok (.invokevirtual 219, 3) := by decide +kernel
theorem dX9_refuseCells_63 : decode cX9_refuseCells 63 = .ok (.ifCond .eq 7, 3) := by decide +kernel
theorem dX9_refuseCells_66 : decode cX9_refuseCells 66 = .ok (.iconst 0, 1) := by decide +kernel
theorem dX9_refuseCells_67 : decode cX9_refuseCells 67 = .ok (.goto 8, 3) := by decide +kernel
theorem dX9_refuseCells_70 : decode cX9_refuseCells 70 = .ok (.aload_n 0, 1) := by decide +kernel
theorem dX9_refuseCells_71 : decode cX9_refuseCells 71 = .ok (.iconst 3, 1) := by decide +kernel
theorem dX9_refuseCells_72 : decode cX9_refuseCells 72 = .ok (.invokevirtual 188, 3) := by decide +kernel
theorem dX9_refuseCells_75 : decode cX9_refuseCells 75 = .ok (.ireturn, 1) := by decide +kernel
set_option maxRecDepth 20000 in
theorem ggX9_refuseRound_X9_refuseCells : GoodIn wsX9_refuseRound wsX9_refuseCells := goodIn_r _ [8, 9, 10, 11, 12, 7, 13, 14, 15, 16, 17, 18, 19, 20, 21, 22, 23, 24, 25, 26, 27, 28, 29, 30, 31, 32, 33, 34, 62, 63, 64, 65, 66, 67, 68, 69, 78, 79, 80] (by decide +kernel) (by decide +kernel)
set_option maxRecDepth 20000 in
theorem gX9_refuseRound_X9_refuseCells : GoodIn wsX9_refuseRound (wsV RX9 67 RX9 yX9_refuseCells wsX9_refuseCells) := goodIn_app (goodIn_of _ (by decide +kernel)) ggX9_refuseRound_X9_refuseCells
set_option maxRecDepth 20000 in
theorem ggX9_refuseRound_X9_sheetAt : GoodIn wsX9_refuseRound wsX9_sheetAt := goodIn_r _ [13, 14, 62, 63, 64, 65, 66, 67, 68, 69] (by decide +kernel) (by decide +kernel)
set_option maxRecDepth 20000 in
theorem gX9_refuseRound_X9_sheetAt : GoodIn wsX9_refuseRound (wsV RX9 71 RX9 yX9_sheetAt wsX9_sheetAt) := goodIn_app (goodIn_of _ (by decide +kernel)) ggX9_refuseRound_X9_sheetAt
set_option maxRecDepth 20000 in
theorem ggX9_refuseRound_X4_read : GoodIn wsX9_refuseRound wsX4_read := goodIn_r _ [38, 39, 40, 41, 42, 23, 43, 34, 78, 79, 80] (by decide +kernel) (by decide +kernel)
set_option maxRecDepth 20000 in
theorem gX9_refuseRound_X4_read : GoodIn wsX9_refuseRound (wsV RX9 213 RX4 yX4_read wsX4_read) := goodIn_app (goodIn_of _ (by decide +kernel)) ggX9_refuseRound_X4_read
set_option maxRecDepth 20000 in
theorem ggX9_refuseRound_X5_has : GoodIn wsX9_refuseRound wsX5_has := goodIn_r _ [48, 49, 70, 71, 72, 73, 74, 75, 76, 77] (by decide +kernel) (by decide +kernel)
set_option maxRecDepth 20000 in
theorem gX9_refuseRound_X5_has : GoodIn wsX9_refuseRound (wsV RX9 176 RX5 yX5_has wsX5_has) := goodIn_app (goodIn_of _ (by decide +kernel)) ggX9_refuseRound_X5_has
set_option maxRecDepth 20000 in
theorem ggX9_refuseRound_X8_layRound : GoodIn wsX9_refuseRound wsX8_layRound := goodIn_r _ [54, 55, 56, 57, 58, 59, 60, 61, 36, 37, 23, 38, 39, 40, 41, 42, 43, 34, 81, 82, 83, 84, 85, 86, 87, 88, 89, 90, 78, 79, 80] (by decide +kernel) (by decide +kernel)
set_option maxRecDepth 20000 in
theorem gX9_refuseRound_X8_layRound : GoodIn wsX9_refuseRound (wsV RX9 242 RX8 yX8_layRound wsX8_layRound) := goodIn_app (goodIn_of _ (by decide +kernel)) ggX9_refuseRound_X8_layRound
theorem dX9_refuseRound_0 : decode cX9_refuseRound 0 = .ok (.aload_n 0, 1) := by decide +kernel
theorem dX9_refuseRound_1 : decode cX9_refuseRound 1 = .ok (.iload_n 1, 1) := by decide +kernel
theorem dX9_refuseRound_2 : decode cX9_refuseRound 2 = .ok (.iload_n 2, 1) := by decide +kernel
theorem dX9_refuseRound_3 : decode cX9_refuseRound 3 = .ok (.iload_n 3, 1) := by decide +kernel
theorem dX9_refuseRound_4 : decode cX9_refuseRound 4 = .ok (.iload 4, 2) := by decide +kernel
theorem dX9_refuseRound_6 : decode cX9_refuseRound 6 = .ok (.iload 5, 2) := by decide +kernel
theorem dX9_refuseRound_8 : decode cX9_refuseRound 8 = .ok (.invokevirtual 67, 3) := by decide +kernel
theorem dX9_refuseRound_11 : decode cX9_refuseRound 11 = .ok (.istore 6, 2) := by decide +kernel
theorem dX9_refuseRound_13 : decode cX9_refuseRound 13 = .ok (.aload_n 0, 1) := by decide +kernel
theorem dX9_refuseRound_14 : decode cX9_refuseRound 14 = .ok (.iload_n 1, 1) := by decide +kernel
theorem dX9_refuseRound_15 : decode cX9_refuseRound 15 = .ok (.invokevirtual 71, 3) := by decide +kernel
theorem dX9_refuseRound_18 : decode cX9_refuseRound 18 = .ok (.astore 7, 2) := by decide +kernel
theorem dX9_refuseRound_20 : decode cX9_refuseRound 20 = .ok (.iload 6, 2) := by decide +kernel
theorem dX9_refuseRound_22 : decode cX9_refuseRound 22 = .ok (.ifCond .ne 8, 3) := by decide +kernel
theorem dX9_refuseRound_25 : decode cX9_refuseRound 25 = .ok (.aload 7, 2) := by decide +kernel
theorem dX9_refuseRound_27 : decode cX9_refuseRound 27 = .ok (.ifnonnull 6, 3) := by decide +kernel
theorem dX9_refuseRound_30 : decode cX9_refuseRound 30 = .ok (.iload 6, 2) := by decide +kernel
theorem dX9_refuseRound_32 : decode cX9_refuseRound 32 = .ok (.ireturn, 1) := by decide +kernel
theorem dX9_refuseRound_33 : decode cX9_refuseRound 33 = .ok (.aload_n 0, 1) := by decide +kernel
theorem dX9_refuseRound_34 : decode cX9_refuseRound 34 = .ok (.getfield 12, 3) := by decide +kernel
theorem dX9_refuseRound_37 : decode cX9_refuseRound 37 = .ok (.getfield 83, 3) := by decide +kernel
theorem dX9_refuseRound_40 : decode cX9_refuseRound 40 = .ok (.ifCond .ne 6, 3) := by decide +kernel
theorem dX9_refuseRound_43 : decode cX9_refuseRound 43 = .ok (.bipush (-3), 2) := by decide +kernel
theorem dX9_refuseRound_45 : decode cX9_refuseRound 45 = .ok (.ireturn, 1) := by decide +kernel
theorem dX9_refuseRound_46 : decode cX9_refuseRound 46 = .ok (.iload 5, 2) := by decide +kernel
theorem dX9_refuseRound_48 : decode cX9_refuseRound 48 = .ok (.iconst 1, 1) := by decide +kernel
theorem dX9_refuseRound_49 : decode cX9_refuseRound 49 = .ok (.if_icmp .lt 10, 3) := by decide +kernel
theorem dX9_refuseRound_52 : decode cX9_refuseRound 52 = .ok (.iload 5, 2) := by decide +kernel
theorem dX9_refuseRound_54 : decode cX9_refuseRound 54 = .ok (.bipush 8, 2) := by decide +kernel
theorem dX9_refuseRound_56 : decode cX9_refuseRound 56 = .ok (.if_icmp .le 6, 3) := by decide +kernel
theorem dX9_refuseRound_59 : decode cX9_refuseRound 59 = .ok (.bipush (-2), 2) := by decide +kernel
theorem dX9_refuseRound_61 : decode cX9_refuseRound 61 = .ok (.ireturn, 1) := by decide +kernel
theorem dX9_refuseRound_62 : decode cX9_refuseRound 62 = .ok (.iconst 0, 1) := by decide +kernel
theorem dX9_refuseRound_63 : decode cX9_refuseRound 63 = .ok (.istore 8, 2) := by decide +kernel
theorem dX9_refuseRound_65 : decode cX9_refuseRound 65 = .ok (.iload 8, 2) := by decide +kernel
theorem dX9_refuseRound_67 : decode cX9_refuseRound 67 = .ok (.iload 5, 2) := by decide +kernel
theorem dX9_refuseRound_69 : decode cX9_refuseRound 69 = .ok (.if_icmp .ge 31, 3) := by decide +kernel
theorem dX9_refuseRound_72 : decode cX9_refuseRound 72 = .ok (.aload_n 0, 1) := by decide +kernel
theorem dX9_refuseRound_73 : decode cX9_refuseRound 73 = .ok (.getfield 12, 3) := by decide +kernel
theorem dX9_refuseRound_76 : decode cX9_refuseRound 76 = .ok (.aload 7, 2) := by decide +kernel
theorem dX9_refuseRound_78 : decode cX9_refuseRound 78 = .ok (.iload 4, 2) := by decide +kernel
theorem dX9_refuseRound_80 : decode cX9_refuseRound 80 = .ok (.iload 8, 2) := by decide +kernel
theorem dX9_refuseRound_82 : decode cX9_refuseRound 82 = .ok (.iadd, 1) := by decide +kernel
theorem dX9_refuseRound_83 : decode cX9_refuseRound 83 = .ok (.invokevirtual 213, 3) := by decide +kernel
theorem dX9_refuseRound_86 : decode cX9_refuseRound 86 = .ok (.invokevirtual 176, 3) := by decide +kernel
theorem dX9_refuseRound_89 : decode cX9_refuseRound 89 = .ok (.ifCond .ne 5, 3) := by decide +kernel
theorem dX9_refuseRound_92 : decode cX9_refuseRound 92 = .ok (.iconst (-1), 1) := by decide +kernel
theorem dX9_refuseRound_93 : decode cX9_refuseRound 93 = .ok (.ireturn, 1) := by decide +kernel
theorem dX9_refuseRound_94 : decode cX9_refuseRound 94 = .ok (.iinc 8 1, 3) := by decide +kernel
theorem dX9_refuseRound_97 : decode cX9_refuseRound 97 = .ok (.goto (-32), 3) := by decide +kernel
theorem dX9_refuseRound_100 : decode cX9_refuseRound 100 = .ok (.aload_n 0, 1) := by decide +kernel
theorem dX9_refuseRound_101 : decode cX9_refuseRound 101 = .ok (.getfield 30, 3) := by decide +kernel
theorem dX9_refuseRound_104 : decode cX9_refuseRound 104 = .ok (.aload 7, 2) := by decide +kernel
theorem dX9_refuseRound_106 : decode cX9_refuseRound 106 = .ok (.iload 4, 2) := by decide +kernel
theorem dX9_refuseRound_108 : decode cX9_refuseRound 108 = .ok (.iload 5, 2) := by decide +kernel
theorem dX9_refuseRound_110 : decode cX9_refuseRound 110 = .ok (.invokevirtual 242, 3) := by decide +kernel
theorem dX9_refuseRound_113 : decode cX9_refuseRound 113 = .ok (.iconst 0, 1) := by decide +kernel
theorem dX9_refuseRound_114 : decode cX9_refuseRound 114 = .ok (.ireturn, 1) := by decide +kernel
set_option maxRecDepth 20000 in
theorem ggX9_firstFault_X4_read : GoodIn wsX9_firstFault wsX4_read := goodIn_r _ [5, 6, 7, 8, 9, 4, 10, 11, 19, 20, 21] (by decide +kernel) (by decide +kernel)
set_option maxRecDepth 20000 in
theorem gX9_firstFault_X4_read : GoodIn wsX9_firstFault (wsV RX9 213 RX4 yX4_read wsX4_read) := goodIn_app (goodIn_of _ (by decide +kernel)) ggX9_firstFault_X4_read
set_option maxRecDepth 20000 in
theorem ggX9_firstFault_X9_goesOn : GoodIn wsX9_firstFault wsX9_goesOn := goodIn_r _ [15, 16, 17, 14, 18] (by decide +kernel) (by decide +kernel)
set_option maxRecDepth 20000 in
theorem gX9_firstFault_X9_goesOn : GoodIn wsX9_firstFault (va_wsS RX9 245 yX9_goesOn wsX9_goesOn) := goodIn_app (goodIn_of _ (by decide +kernel)) ggX9_firstFault_X9_goesOn
theorem dX9_firstFault_0 : decode cX9_firstFault 0 = .ok (.iconst 0, 1) := by decide +kernel
theorem dX9_firstFault_1 : decode cX9_firstFault 1 = .ok (.istore_n 3, 1) := by decide +kernel
theorem dX9_firstFault_2 : decode cX9_firstFault 2 = .ok (.iload_n 3, 1) := by decide +kernel
theorem dX9_firstFault_3 : decode cX9_firstFault 3 = .ok (.iload_n 2, 1) := by decide +kernel
theorem dX9_firstFault_4 : decode cX9_firstFault 4 = .ok (.if_icmp .ge 81, 3) := by decide +kernel
theorem dX9_firstFault_7 : decode cX9_firstFault 7 = .ok (.aload_n 0, 1) := by decide +kernel
theorem dX9_firstFault_8 : decode cX9_firstFault 8 = .ok (.iload_n 1, 1) := by decide +kernel
theorem dX9_firstFault_9 : decode cX9_firstFault 9 = .ok (.iload_n 3, 1) := by decide +kernel
theorem dX9_firstFault_10 : decode cX9_firstFault 10 = .ok (.iadd, 1) := by decide +kernel
theorem dX9_firstFault_11 : decode cX9_firstFault 11 = .ok (.invokevirtual 213, 3) := by decide +kernel
theorem dX9_firstFault_14 : decode cX9_firstFault 14 = .ok (.istore 4, 2) := by decide +kernel
theorem dX9_firstFault_16 : decode cX9_firstFault 16 = .ok (.iload_n 3, 1) := by decide +kernel
theorem dX9_firstFault_17 : decode cX9_firstFault 17 = .ok (.iload 4, 2) := by decide +kernel
theorem dX9_firstFault_19 : decode cX9_firstFault 19 = .ok (.invokestatic 245, 3) := by decide +kernel
theorem dX9_firstFault_22 : decode cX9_firstFault 22 = .ok (.ifCond .ne 5, 3) := by decide +kernel
theorem dX9_firstFault_25 : decode cX9_firstFault 25 = .ok (.iload_n 3, 1) := by decide +kernel
theorem dX9_firstFault_26 : decode cX9_firstFault 26 = .ok (.ireturn, 1) := by decide +kernel
theorem dX9_firstFault_27 : decode cX9_firstFault 27 = .ok (.iload_n 3, 1) := by decide +kernel
theorem dX9_firstFault_28 : decode cX9_firstFault 28 = .ok (.iconst 2, 1) := by decide +kernel
theorem dX9_firstFault_29 : decode cX9_firstFault 29 = .ok (.if_icmp .lt 17, 3) := by decide +kernel
theorem dX9_firstFault_32 : decode cX9_firstFault 32 = .ok (.iload_n 3, 1) := by decide +kernel
theorem dX9_firstFault_33 : decode cX9_firstFault 33 = .ok (.iconst 2, 1) := by decide +kernel
theorem dX9_firstFault_34 : decode cX9_firstFault 34 = .ok (.isub, 1) := by decide +kernel
theorem dX9_firstFault_35 : decode cX9_firstFault 35 = .ok (.bipush 7, 2) := by decide +kernel
theorem dX9_firstFault_37 : decode cX9_firstFault 37 = .ok (.irem, 1) := by decide +kernel
theorem dX9_firstFault_38 : decode cX9_firstFault 38 = .ok (.iconst 5, 1) := by decide +kernel
theorem dX9_firstFault_39 : decode cX9_firstFault 39 = .ok (.if_icmp .ne 7, 3) := by decide +kernel
theorem dX9_firstFault_42 : decode cX9_firstFault 42 = .ok (.iconst 1, 1) := by decide +kernel
theorem dX9_firstFault_43 : decode cX9_firstFault 43 = .ok (.goto 4, 3) := by decide +kernel
theorem dX9_firstFault_46 : decode cX9_firstFault 46 = .ok (.iconst 0, 1) := by decide +kernel
theorem dX9_firstFault_47 : decode cX9_firstFault 47 = .ok (.istore 5, 2) := by decide +kernel
theorem dX9_firstFault_49 : decode cX9_firstFault 49 = .ok (.iload 5, 2) := by decide +kernel
theorem dX9_firstFault_51 : decode cX9_firstFault 51 = .ok (.ifCond .eq 28, 3) := by decide +kernel
theorem dX9_firstFault_54 : decode cX9_firstFault 54 = .ok (.iload 4, 2) := by decide +kernel
theorem dX9_firstFault_56 : decode cX9_firstFault 56 = .ok (.bipush 48, 2) := by decide +kernel
theorem dX9_firstFault_58 : decode cX9_firstFault 58 = .ok (.if_icmp .ne 21, 3) := by decide +kernel
theorem dX9_firstFault_61 : decode cX9_firstFault 61 = .ok (.aload_n 0, 1) := by decide +kernel
theorem dX9_firstFault_62 : decode cX9_firstFault 62 = .ok (.iload_n 1, 1) := by decide +kernel
theorem dX9_firstFault_63 : decode cX9_firstFault 63 = .ok (.iload_n 3, 1) := by decide +kernel
theorem dX9_firstFault_64 : decode cX9_firstFault 64 = .ok (.iadd, 1) := by decide +kernel
theorem dX9_firstFault_65 : decode cX9_firstFault 65 = .ok (.iconst 1, 1) := by decide +kernel
theorem dX9_firstFault_66 : decode cX9_firstFault 66 = .ok (.isub, 1) := by decide +kernel
theorem dX9_firstFault_67 : decode cX9_firstFault 67 = .ok (.invokevirtual 213, 3) := by decide +kernel
theorem dX9_firstFault_70 : decode cX9_firstFault 70 = .ok (.bipush 48, 2) := by decide +kernel
theorem dX9_firstFault_72 : decode cX9_firstFault 72 = .ok (.if_icmp .ne 7, 3) := by decide +kernel
theorem dX9_firstFault_75 : decode cX9_firstFault 75 = .ok (.iload_n 3, 1) := by decide +kernel
theorem dX9_firstFault_76 : decode cX9_firstFault 76 = .ok (.iconst 1, 1) := by decide +kernel
theorem dX9_firstFault_77 : decode cX9_firstFault 77 = .ok (.isub, 1) := by decide +kernel
theorem dX9_firstFault_78 : decode cX9_firstFault 78 = .ok (.ireturn, 1) := by decide +kernel
theorem dX9_firstFault_79 : decode cX9_firstFault 79 = .ok (.iinc 3 1, 3) := by decide +kernel
theorem dX9_firstFault_82 : decode cX9_firstFault 82 = .ok (.goto (-80), 3) := by decide +kernel
theorem dX9_firstFault_85 : decode cX9_firstFault 85 = .ok (.iload_n 2, 1) := by decide +kernel
theorem dX9_firstFault_86 : decode cX9_firstFault 86 = .ok (.bipush 9, 2) := by decide +kernel
theorem dX9_firstFault_88 : decode cX9_firstFault 88 = .ok (.if_icmp .lt 16, 3) := by decide +kernel
theorem dX9_firstFault_91 : decode cX9_firstFault 91 = .ok (.iload_n 2, 1) := by decide +kernel
theorem dX9_firstFault_92 : decode cX9_firstFault 92 = .ok (.iconst 2, 1) := by decide +kernel
theorem dX9_firstFault_93 : decode cX9_firstFault 93 = .ok (.isub, 1) := by decide +kernel
theorem dX9_firstFault_94 : decode cX9_firstFault 94 = .ok (.bipush 7, 2) := by decide +kernel
theorem dX9_firstFault_96 : decode cX9_firstFault 96 = .ok (.irem, 1) := by decide +kernel
theorem dX9_firstFault_97 : decode cX9_firstFault 97 = .ok (.ifCond .ne 7, 3) := by decide +kernel
theorem dX9_firstFault_100 : decode cX9_firstFault 100 = .ok (.iconst 1, 1) := by decide +kernel
theorem dX9_firstFault_101 : decode cX9_firstFault 101 = .ok (.goto 4, 3) := by decide +kernel
theorem dX9_firstFault_104 : decode cX9_firstFault 104 = .ok (.iconst 0, 1) := by decide +kernel
theorem dX9_firstFault_105 : decode cX9_firstFault 105 = .ok (.istore_n 3, 1) := by decide +kernel
theorem dX9_firstFault_106 : decode cX9_firstFault 106 = .ok (.iload_n 3, 1) := by decide +kernel
theorem dX9_firstFault_107 : decode cX9_firstFault 107 = .ok (.ifCond .eq 7, 3) := by decide +kernel
theorem dX9_firstFault_110 : decode cX9_firstFault 110 = .ok (.iconst (-1), 1) := by decide +kernel
theorem dX9_firstFault_111 : decode cX9_firstFault 111 = .ok (.goto 4, 3) := by decide +kernel
theorem dX9_firstFault_114 : decode cX9_firstFault 114 = .ok (.iload_n 2, 1) := by decide +kernel
theorem dX9_firstFault_115 : decode cX9_firstFault 115 = .ok (.ireturn, 1) := by decide +kernel
set_option maxRecDepth 20000 in
theorem ggX9_goesOn_X9_isDigit : GoodIn wsX9_goesOn wsX9_isDigit := goodIn_r _ [4] (by decide +kernel) (by decide +kernel)
set_option maxRecDepth 20000 in
theorem gX9_goesOn_X9_isDigit : GoodIn wsX9_goesOn (va_wsS RX9 248 yX9_isDigit wsX9_isDigit) := goodIn_app (goodIn_of _ (by decide +kernel)) ggX9_goesOn_X9_isDigit
theorem dX9_goesOn_0 : decode cX9_goesOn 0 = .ok (.iload_n 0, 1) := by decide +kernel
theorem dX9_goesOn_1 : decode cX9_goesOn 1 = .ok (.iconst 2, 1) := by decide +kernel
theorem dX9_goesOn_2 : decode cX9_goesOn 2 = .ok (.if_icmp .ge 26, 3) := by decide +kernel
theorem dX9_goesOn_5 : decode cX9_goesOn 5 = .ok (.iload_n 0, 1) := by decide +kernel
theorem dX9_goesOn_6 : decode cX9_goesOn 6 = .ok (.ifCond .ne 17, 3) := by decide +kernel
theorem dX9_goesOn_9 : decode cX9_goesOn 9 = .ok (.iload_n 1, 1) := by decide +kernel
theorem dX9_goesOn_10 : decode cX9_goesOn 10 = .ok (.bipush 115, 2) := by decide +kernel
theorem dX9_goesOn_12 : decode cX9_goesOn 12 = .ok (.if_icmp .ne 7, 3) := by decide +kernel
theorem dX9_goesOn_15 : decode cX9_goesOn 15 = .ok (.iconst 1, 1) := by decide +kernel
theorem dX9_goesOn_16 : decode cX9_goesOn 16 = .ok (.goto 11, 3) := by decide +kernel
theorem dX9_goesOn_19 : decode cX9_goesOn 19 = .ok (.iconst 0, 1) := by decide +kernel
theorem dX9_goesOn_20 : decode cX9_goesOn 20 = .ok (.goto 7, 3) := by decide +kernel
theorem dX9_goesOn_23 : decode cX9_goesOn 23 = .ok (.iload_n 1, 1) := by decide +kernel
theorem dX9_goesOn_24 : decode cX9_goesOn 24 = .ok (.invokestatic 248, 3) := by decide +kernel
theorem dX9_goesOn_27 : decode cX9_goesOn 27 = .ok (.ireturn, 1) := by decide +kernel
theorem dX9_goesOn_28 : decode cX9_goesOn 28 = .ok (.iload_n 0, 1) := by decide +kernel
theorem dX9_goesOn_29 : decode cX9_goesOn 29 = .ok (.iconst 2, 1) := by decide +kernel
theorem dX9_goesOn_30 : decode cX9_goesOn 30 = .ok (.isub, 1) := by decide +kernel
theorem dX9_goesOn_31 : decode cX9_goesOn 31 = .ok (.bipush 7, 2) := by decide +kernel
theorem dX9_goesOn_33 : decode cX9_goesOn 33 = .ok (.irem, 1) := by decide +kernel
theorem dX9_goesOn_34 : decode cX9_goesOn 34 = .ok (.tableswitch 108 0 6 #[42, 65, 108, 89, 108, 108, 89], 42) := by decide +kernel
theorem dX9_goesOn_76 : decode cX9_goesOn 76 = .ok (.iload_n 1, 1) := by decide +kernel
theorem dX9_goesOn_77 : decode cX9_goesOn 77 = .ok (.bipush 59, 2) := by decide +kernel
theorem dX9_goesOn_79 : decode cX9_goesOn 79 = .ok (.if_icmp .ne 18, 3) := by decide +kernel
theorem dX9_goesOn_82 : decode cX9_goesOn 82 = .ok (.iload_n 0, 1) := by decide +kernel
theorem dX9_goesOn_83 : decode cX9_goesOn 83 = .ok (.iconst 2, 1) := by decide +kernel
theorem dX9_goesOn_84 : decode cX9_goesOn 84 = .ok (.isub, 1) := by decide +kernel
theorem dX9_goesOn_85 : decode cX9_goesOn 85 = .ok (.bipush 7, 2) := by decide +kernel
theorem dX9_goesOn_87 : decode cX9_goesOn 87 = .ok (.idiv, 1) := by decide +kernel
theorem dX9_goesOn_88 : decode cX9_goesOn 88 = .ok (.bipush 6, 2) := by decide +kernel
theorem dX9_goesOn_90 : decode cX9_goesOn 90 = .ok (.if_icmp .ge 7, 3) := by decide +kernel
theorem dX9_goesOn_93 : decode cX9_goesOn 93 = .ok (.iconst 1, 1) := by decide +kernel
theorem dX9_goesOn_94 : decode cX9_goesOn 94 = .ok (.goto 4, 3) := by decide +kernel
theorem dX9_goesOn_97 : decode cX9_goesOn 97 = .ok (.iconst 0, 1) := by decide +kernel
theorem dX9_goesOn_98 : decode cX9_goesOn 98 = .ok (.ireturn, 1) := by decide +kernel
theorem dX9_goesOn_99 : decode cX9_goesOn 99 = .ok (.iload_n 1, 1) := by decide +kernel
theorem dX9_goesOn_100 : decode cX9_goesOn 100 = .ok (.bipush 116, 2) := by decide +kernel
theorem dX9_goesOn_102 : decode cX9_goesOn 102 = .ok (.if_icmp .eq 15, 3) := by decide +kernel
theorem dX9_goesOn_105 : decode cX9_goesOn 105 = .ok (.iload_n 1, 1) := by decide +kernel
theorem dX9_goesOn_106 : decode cX9_goesOn 106 = .ok (.bipush 100, 2) := by decide +kernel
theorem dX9_goesOn_108 : decode cX9_goesOn 108 = .ok (.if_icmp .eq 9, 3) := by decide +kernel
theorem dX9_goesOn_111 : decode cX9_goesOn 111 = .ok (.iload_n 1, 1) := by decide +kernel
theorem dX9_goesOn_112 : decode cX9_goesOn 112 = .ok (.bipush 99, 2) := by decide +kernel
theorem dX9_goesOn_114 : decode cX9_goesOn 114 = .ok (.if_icmp .ne 7, 3) := by decide +kernel
theorem dX9_goesOn_117 : decode cX9_goesOn 117 = .ok (.iconst 1, 1) := by decide +kernel
theorem dX9_goesOn_118 : decode cX9_goesOn 118 = .ok (.goto 4, 3) := by decide +kernel
theorem dX9_goesOn_121 : decode cX9_goesOn 121 = .ok (.iconst 0, 1) := by decide +kernel
theorem dX9_goesOn_122 : decode cX9_goesOn 122 = .ok (.ireturn, 1) := by decide +kernel
theorem dX9_goesOn_123 : decode cX9_goesOn 123 = .ok (.iload_n 1, 1) := by decide +kernel
theorem dX9_goesOn_124 : decode cX9_goesOn 124 = .ok (.invokestatic 248, 3) := by decide +kernel
theorem dX9_goesOn_127 : decode cX9_goesOn 127 = .ok (.ifCond .eq 13, 3) := by decide +kernel
theorem dX9_goesOn_130 : decode cX9_goesOn 130 = .ok (.iload_n 1, 1) := by decide +kernel
theorem dX9_goesOn_131 : decode cX9_goesOn 131 = .ok (.bipush 48, 2) := by decide +kernel
theorem dX9_goesOn_133 : decode cX9_goesOn 133 = .ok (.if_icmp .eq 7, 3) := by decide +kernel
theorem dX9_goesOn_136 : decode cX9_goesOn 136 = .ok (.iconst 1, 1) := by decide +kernel
theorem dX9_goesOn_137 : decode cX9_goesOn 137 = .ok (.goto 4, 3) := by decide +kernel
theorem dX9_goesOn_140 : decode cX9_goesOn 140 = .ok (.iconst 0, 1) := by decide +kernel
theorem dX9_goesOn_141 : decode cX9_goesOn 141 = .ok (.ireturn, 1) := by decide +kernel
theorem dX9_goesOn_142 : decode cX9_goesOn 142 = .ok (.iload_n 1, 1) := by decide +kernel
theorem dX9_goesOn_143 : decode cX9_goesOn 143 = .ok (.invokestatic 248, 3) := by decide +kernel
theorem dX9_goesOn_146 : decode cX9_goesOn 146 = .ok (.ireturn, 1) := by decide +kernel
theorem dX9_isDigit_0 : decode cX9_isDigit 0 = .ok (.iload_n 0, 1) := by decide +kernel
theorem dX9_isDigit_1 : decode cX9_isDigit 1 = .ok (.bipush 48, 2) := by decide +kernel
theorem dX9_isDigit_3 : decode cX9_isDigit 3 = .ok (.if_icmp .lt 13, 3) := by decide +kernel
theorem dX9_isDigit_6 : decode cX9_isDigit 6 = .ok (.iload_n 0, 1) := by decide +kernel
theorem dX9_isDigit_7 : decode cX9_isDigit 7 = .ok (.bipush 57, 2) := by decide +kernel
theorem dX9_isDigit_9 : decode cX9_isDigit 9 = .ok (.if_icmp .gt 7, 3) := by decide +kernel
theorem dX9_isDigit_12 : decode cX9_isDigit 12 = .ok (.iconst 1, 1) := by decide +kernel
theorem dX9_isDigit_13 : decode cX9_isDigit 13 = .ok (.goto 4, 3) := by decide +kernel
theorem dX9_isDigit_16 : decode cX9_isDigit 16 = .ok (.iconst 0, 1) := by decide +kernel
theorem dX9_isDigit_17 : decode cX9_isDigit 17 = .ok (.ireturn, 1) := by decide +kernel
set_option maxRecDepth 20000 in
theorem ggX9_takeText_X4_read : GoodIn wsX9_takeText wsX4_read := goodIn_r _ [8, 9, 10, 11, 12, 7, 13, 14, 105, 106, 107] (by decide +kernel) (by decide +kernel)
set_option maxRecDepth 20000 in
theorem gX9_takeText_X4_read : GoodIn wsX9_takeText (wsV RX9 213 RX4 yX4_read wsX4_read) := goodIn_app (goodIn_of _ (by decide +kernel)) ggX9_takeText_X4_read
set_option maxRecDepth 20000 in
theorem ggX9_takeText_X5_empty : GoodIn wsX9_takeText wsX5_empty := goodIn_r _ [19, 20, 21, 108, 109, 110, 111, 112, 113, 114, 115] (by decide +kernel) (by decide +kernel)
set_option maxRecDepth 20000 in
theorem gX9_takeText_X5_empty : GoodIn wsX9_takeText (wsV RX9 251 RX5 yX5_empty wsX5_empty) := goodIn_app (goodIn_of _ (by decide +kernel)) ggX9_takeText_X5_empty
set_option maxRecDepth 20000 in
theorem ggX9_takeText_X9_readThing : GoodIn wsX9_takeText wsX9_readThing := goodIn_r _ [25, 26, 27, 28, 29, 30, 31, 32, 33, 34, 4, 5, 6, 7, 8, 9, 10, 11, 12, 13, 14, 35, 36, 37, 38, 39, 40, 41, 42, 43, 44, 45, 46, 47, 48, 49, 50, 51, 52, 53, 116, 117, 118, 119, 120, 121, 122, 123, 124, 125, 126, 127, 128, 129, 130, 105, 106, 107] (by decide +kernel) (by decide +kernel)
set_option maxRecDepth 20000 in
theorem gX9_takeText_X9_readThing : GoodIn wsX9_takeText (va_wsS RX9 254 yX9_readThing wsX9_readThing) := goodIn_app (goodIn_of _ (by decide +kernel)) ggX9_takeText_X9_readThing
set_option maxRecDepth 20000 in
theorem ggX9_takeText_X5_addThing : GoodIn wsX9_takeText wsX5_addThing := goodIn_r _ [57, 20, 58, 59, 60, 61, 62, 63, 64, 108, 109, 110, 111, 112, 113, 114, 115, 116, 117, 118, 119, 120, 121, 122, 123, 124, 125, 126, 127, 128, 129, 130] (by decide +kernel) (by decide +kernel)
set_option maxRecDepth 20000 in
theorem gX9_takeText_X5_addThing : GoodIn wsX9_takeText (wsV RX9 258 RX5 yX5_addThing wsX5_addThing) := goodIn_app (goodIn_of _ (by decide +kernel)) ggX9_takeText_X5_addThing
set_option maxRecDepth 20000 in
theorem ggX9_takeText_X5_becomeRusty : GoodIn wsX9_takeText wsX5_becomeRusty := goodIn_r _ [68, 69, 20, 58, 70, 71, 72, 73, 74, 75, 28, 76, 77, 78, 79, 80, 31, 81, 82, 83, 84, 34, 85, 50, 86, 87, 88, 89, 90, 91, 92, 108, 109, 110, 111, 112, 113, 114, 115, 116, 117, 118, 119, 120, 121, 122, 123, 124, 125, 126, 127, 128, 129, 130] (by decide +kernel) (by decide +kernel)
set_option maxRecDepth 20000 in
theorem gX9_takeText_X5_becomeRusty : GoodIn wsX9_takeText (wsV RX9 118 RX5 yX5_becomeRusty wsX5_becomeRusty) := goodIn_app (goodIn_of _ (by decide +kernel)) ggX9_takeText_X5_becomeRusty
theorem dX9_takeText_0 : decode cX9_takeText 0 = .ok (.aload_n 0, 1) := by decide +kernel
theorem dX9_takeText_1 : decode cX9_takeText 1 = .ok (.getfield 12, 3) := by decide +kernel
theorem dX9_takeText_4 : decode cX9_takeText 4 = .ok (.aload_n 1, 1) := by decide +kernel
theorem dX9_takeText_5 : decode cX9_takeText 5 = .ok (.iload_n 2, 1) := by decide +kernel
theorem dX9_takeText_6 : decode cX9_takeText 6 = .ok (.iconst 1, 1) := by decide +kernel
theorem dX9_takeText_7 : decode cX9_takeText 7 = .ok (.iadd, 1) := by decide +kernel
theorem dX9_takeText_8 : decode cX9_takeText 8 = .ok (.invokevirtual 213, 3) := by decide +kernel
theorem dX9_takeText_11 : decode cX9_takeText 11 = .ok (.bipush 48, 2) := by decide +kernel
theorem dX9_takeText_13 : decode cX9_takeText 13 = .ok (.isub, 1) := by decide +kernel
theorem dX9_takeText_14 : decode cX9_takeText 14 = .ok (.invokevirtual 251, 3) := by decide +kernel
theorem dX9_takeText_17 : decode cX9_takeText 17 = .ok (.iload_n 3, 1) := by decide +kernel
theorem dX9_takeText_18 : decode cX9_takeText 18 = .ok (.iconst 2, 1) := by decide +kernel
theorem dX9_takeText_19 : decode cX9_takeText 19 = .ok (.isub, 1) := by decide +kernel
theorem dX9_takeText_20 : decode cX9_takeText 20 = .ok (.bipush 7, 2) := by decide +kernel
theorem dX9_takeText_22 : decode cX9_takeText 22 = .ok (.idiv, 1) := by decide +kernel
theorem dX9_takeText_23 : decode cX9_takeText 23 = .ok (.istore 4, 2) := by decide +kernel
theorem dX9_takeText_25 : decode cX9_takeText 25 = .ok (.iconst 0, 1) := by decide +kernel
theorem dX9_takeText_26 : decode cX9_takeText 26 = .ok (.istore 5, 2) := by decide +kernel
theorem dX9_takeText_28 : decode cX9_takeText 28 = .ok (.iload 5, 2) := by decide +kernel
theorem dX9_takeText_30 : decode cX9_takeText 30 = .ok (.iload 4, 2) := by decide +kernel
theorem dX9_takeText_32 : decode cX9_takeText 32 = .ok (.if_icmp .ge 31, 3) := by decide +kernel
theorem dX9_takeText_35 : decode cX9_takeText 35 = .ok (.aload_n 0, 1) := by decide +kernel
theorem dX9_takeText_36 : decode cX9_takeText 36 = .ok (.getfield 12, 3) := by decide +kernel
theorem dX9_takeText_39 : decode cX9_takeText 39 = .ok (.aload_n 1, 1) := by decide +kernel
theorem dX9_takeText_40 : decode cX9_takeText 40 = .ok (.iload_n 2, 1) := by decide +kernel
theorem dX9_takeText_41 : decode cX9_takeText 41 = .ok (.iconst 2, 1) := by decide +kernel
theorem dX9_takeText_42 : decode cX9_takeText 42 = .ok (.iadd, 1) := by decide +kernel
theorem dX9_takeText_43 : decode cX9_takeText 43 = .ok (.iload 5, 2) := by decide +kernel
theorem dX9_takeText_45 : decode cX9_takeText 45 = .ok (.bipush 7, 2) := by decide +kernel
theorem dX9_takeText_47 : decode cX9_takeText 47 = .ok (.imul, 1) := by decide +kernel
theorem dX9_takeText_48 : decode cX9_takeText 48 = .ok (.iadd, 1) := by decide +kernel
theorem dX9_takeText_49 : decode cX9_takeText 49 = .ok (.iload 5, 2) := by decide +kernel
theorem dX9_takeText_51 : decode cX9_takeText 51 = .ok (.invokestatic 254, 3) := by decide +kernel
theorem dX9_takeText_54 : decode cX9_takeText 54 = .ok (.invokevirtual 258, 3) := by decide +kernel
theorem dX9_takeText_57 : decode cX9_takeText 57 = .ok (.iinc 5 1, 3) := by decide +kernel
theorem dX9_takeText_60 : decode cX9_takeText 60 = .ok (.goto (-32), 3) := by decide +kernel
theorem dX9_takeText_63 : decode cX9_takeText 63 = .ok (.aload_n 0, 1) := by decide +kernel
theorem dX9_takeText_64 : decode cX9_takeText 64 = .ok (.getfield 12, 3) := by decide +kernel
theorem dX9_takeText_67 : decode cX9_takeText 67 = .ok (.iconst 0, 1) := by decide +kernel
theorem dX9_takeText_68 : decode cX9_takeText 68 = .ok (.invokevirtual 118, 3) := by decide +kernel
theorem dX9_takeText_71 : decode cX9_takeText 71 = .ok (.aload_n 0, 1) := by decide +kernel
theorem dX9_takeText_72 : decode cX9_takeText 72 = .ok (.getfield 21, 3) := by decide +kernel
theorem dX9_takeText_75 : decode cX9_takeText 75 = .ok (.iconst 0, 1) := by decide +kernel
theorem dX9_takeText_76 : decode cX9_takeText 76 = .ok (.putfield 183, 3) := by decide +kernel
theorem dX9_takeText_79 : decode cX9_takeText 79 = .ok (.return_, 1) := by decide +kernel
set_option maxRecDepth 20000 in
theorem ggX9_readThing_X4_read : GoodIn wsX9_readThing wsX4_read := goodIn_r _ [14, 15, 16, 17, 18, 13, 19, 20, 55, 56, 57] (by decide +kernel) (by decide +kernel)
set_option maxRecDepth 20000 in
theorem gX9_readThing_X4_read : GoodIn wsX9_readThing (wsV RX9 213 RX4 yX4_read wsX4_read) := goodIn_app (goodIn_of _ (by decide +kernel)) ggX9_readThing_X4_read
set_option maxRecDepth 20000 in
theorem ggX9_readThing_X0_init : GoodIn wsX9_readThing wsX0_init := goodIn_r _ [23, 24, 25, 6, 26, 27, 28, 9, 29, 30, 31, 32, 33, 34, 35, 36, 37, 40, 41, 42, 43, 44, 45, 46, 47, 48, 49, 50, 51, 52, 53, 54] (by decide +kernel) (by decide +kernel)
set_option maxRecDepth 20000 in
theorem gX9_readThing_X0_init : GoodIn wsX9_readThing (wsX0_init) := ggX9_readThing_X0_init
set_option maxRecDepth 20000 in
theorem ggX9_readThing_X1_init : GoodIn wsX9_readThing wsX1_init := goodIn_r _ [26, 27, 28, 9, 29, 30, 31, 32, 33, 34, 35, 36, 37, 40, 41, 42, 43, 44, 45, 46, 47, 48, 49, 50, 51, 52, 53, 54] (by decide +kernel) (by decide +kernel)
set_option maxRecDepth 20000 in
theorem gX9_readThing_X1_init : GoodIn wsX9_readThing (wsX1_init) := ggX9_readThing_X1_init
set_option maxRecDepth 20000 in
theorem ggX9_readThing_X6_init : GoodIn wsX9_readThing wsX6_init := goodIn_r _ [29, 30, 31, 32, 33, 34, 35, 36, 37, 40, 41, 42, 43, 44, 45, 46, 47, 48, 49, 50, 51, 52, 53, 54] (by decide +kernel) (by decide +kernel)
set_option maxRecDepth 20000 in
theorem gX9_readThing_X6_init : GoodIn wsX9_readThing (wsX6_init) := ggX9_readThing_X6_init
theorem dX9_readThing_0 : decode cX9_readThing 0 = .ok (.aload_n 0, 1) := by decide +kernel
theorem dX9_readThing_1 : decode cX9_readThing 1 = .ok (.iload_n 1, 1) := by decide +kernel
theorem dX9_readThing_2 : decode cX9_readThing 2 = .ok (.iconst 1, 1) := by decide +kernel
theorem dX9_readThing_3 : decode cX9_readThing 3 = .ok (.iadd, 1) := by decide +kernel
theorem dX9_readThing_4 : decode cX9_readThing 4 = .ok (.invokevirtual 213, 3) := by decide +kernel
theorem dX9_readThing_7 : decode cX9_readThing 7 = .ok (.istore_n 3, 1) := by decide +kernel
theorem dX9_readThing_8 : decode cX9_readThing 8 = .ok (.aload_n 0, 1) := by decide +kernel
theorem dX9_readThing_9 : decode cX9_readThing 9 = .ok (.iload_n 1, 1) := by decide +kernel
theorem dX9_readThing_10 : decode cX9_readThing 10 = .ok (.iconst 2, 1) := by decide +kernel
theorem dX9_readThing_11 : decode cX9_readThing 11 = .ok (.iadd, 1) := by decide +kernel
theorem dX9_readThing_12 : decode cX9_readThing 12 = .ok (.invokevirtual 213, 3) := by decide +kernel
theorem dX9_readThing_15 : decode cX9_readThing 15 = .ok (.bipush 48, 2) := by decide +kernel
theorem dX9_readThing_17 : decode cX9_readThing 17 = .ok (.isub, 1) := by decide +kernel
theorem dX9_readThing_18 : decode cX9_readThing 18 = .ok (.istore 4, 2) := by decide +kernel
theorem dX9_readThing_20 : decode cX9_readThing 20 = .ok (.aload_n 0, 1) := by decide +kernel
theorem dX9_readThing_21 : decode cX9_readThing 21 = .ok (.iload_n 1, 1) := by decide +kernel
theorem dX9_readThing_22 : decode cX9_readThing 22 = .ok (.iconst 3, 1) := by decide +kernel
theorem dX9_readThing_23 : decode cX9_readThing 23 = .ok (.iadd, 1) := by decide +kernel
theorem dX9_readThing_24 : decode cX9_readThing 24 = .ok (.invokevirtual 213, 3) := by decide +kernel
theorem dX9_readThing_27 : decode cX9_readThing 27 = .ok (.bipush 48, 2) := by decide +kernel
theorem dX9_readThing_29 : decode cX9_readThing 29 = .ok (.isub, 1) := by decide +kernel
theorem dX9_readThing_30 : decode cX9_readThing 30 = .ok (.istore 5, 2) := by decide +kernel
theorem dX9_readThing_32 : decode cX9_readThing 32 = .ok (.bipush 10, 2) := by decide +kernel
theorem dX9_readThing_34 : decode cX9_readThing 34 = .ok (.aload_n 0, 1) := by decide +kernel
theorem dX9_readThing_35 : decode cX9_readThing 35 = .ok (.iload_n 1, 1) := by decide +kernel
theorem dX9_readThing_36 : decode cX9_readThing 36 = .ok (.iconst 4, 1) := by decide +kernel
theorem dX9_readThing_37 : decode cX9_readThing 37 = .ok (.iadd, 1) := by decide +kernel
theorem dX9_readThing_38 : decode cX9_readThing 38 = .ok (.invokevirtual 213, 3) := by decide +kernel
theorem dX9_readThing_41 : decode cX9_readThing 41 = .ok (.bipush 48, 2) := by decide +kernel
theorem dX9_readThing_43 : decode cX9_readThing 43 = .ok (.isub, 1) := by decide +kernel
theorem dX9_readThing_44 : decode cX9_readThing 44 = .ok (.imul, 1) := by decide +kernel
theorem dX9_readThing_45 : decode cX9_readThing 45 = .ok (.aload_n 0, 1) := by decide +kernel
theorem dX9_readThing_46 : decode cX9_readThing 46 = .ok (.iload_n 1, 1) := by decide +kernel
theorem dX9_readThing_47 : decode cX9_readThing 47 = .ok (.iconst 5, 1) := by decide +kernel
theorem dX9_readThing_48 : decode cX9_readThing 48 = .ok (.iadd, 1) := by decide +kernel
theorem dX9_readThing_49 : decode cX9_readThing 49 = .ok (.invokevirtual 213, 3) := by decide +kernel
theorem dX9_readThing_52 : decode cX9_readThing 52 = .ok (.iadd, 1) := by decide +kernel
theorem dX9_readThing_53 : decode cX9_readThing 53 = .ok (.bipush 48, 2) := by decide +kernel
theorem dX9_readThing_55 : decode cX9_readThing 55 = .ok (.isub, 1) := by decide +kernel
theorem dX9_readThing_56 : decode cX9_readThing 56 = .ok (.istore 6, 2) := by decide +kernel
theorem dX9_readThing_58 : decode cX9_readThing 58 = .ok (.aload_n 0, 1) := by decide +kernel
theorem dX9_readThing_59 : decode cX9_readThing 59 = .ok (.iload_n 1, 1) := by decide +kernel
theorem dX9_readThing_60 : decode cX9_readThing 60 = .ok (.bipush 6, 2) := by decide +kernel
theorem dX9_readThing_62 : decode cX9_readThing 62 = .ok (.iadd, 1) := by decide +kernel
theorem dX9_readThing_63 : decode cX9_readThing 63 = .ok (.invokevirtual 213, 3) := by decide +kernel
theorem dX9_readThing_66 : decode cX9_readThing 66 = .ok (.bipush 48, 2) := by decide +kernel
theorem dX9_readThing_68 : decode cX9_readThing 68 = .ok (.isub, 1) := by decide +kernel
theorem dX9_readThing_69 : decode cX9_readThing 69 = .ok (.istore 7, 2) := by decide +kernel
theorem dX9_readThing_71 : decode cX9_readThing 71 = .ok (.iload_n 3, 1) := by decide +kernel
theorem dX9_readThing_72 : decode cX9_readThing 72 = .ok (.bipush 99, 2) := by decide +kernel
theorem dX9_readThing_74 : decode cX9_readThing 74 = .ok (.if_icmp .ne 20, 3) := by decide +kernel
theorem dX9_readThing_77 : decode cX9_readThing 77 = .ok (.new 262, 3) := by decide +kernel
theorem dX9_readThing_80 : decode cX9_readThing 80 = .ok (.dup, 1) := by decide +kernel
theorem dX9_readThing_81 : decode cX9_readThing 81 = .ok (.iload_n 2, 1) := by decide +kernel
theorem dX9_readThing_82 : decode cX9_readThing 82 = .ok (.iload 4, 2) := by decide +kernel
theorem dX9_readThing_84 : decode cX9_readThing 84 = .ok (.iload 5, 2) := by decide +kernel
theorem dX9_readThing_86 : decode cX9_readThing 86 = .ok (.iload 6, 2) := by decide +kernel
theorem dX9_readThing_88 : decode cX9_readThing 88 = .ok (.iload 7, 2) := by decide +kernel
theorem dX9_readThing_90 : decode cX9_readThing 90 = .ok (.invokespecial 264, 3) := by decide +kernel
theorem dX9_readThing_93 : decode cX9_readThing 93 = .ok (.areturn, 1) := by decide +kernel
theorem dX9_readThing_94 : decode cX9_readThing 94 = .ok (.iload_n 3, 1) := by decide +kernel
theorem dX9_readThing_95 : decode cX9_readThing 95 = .ok (.bipush 100, 2) := by decide +kernel
theorem dX9_readThing_97 : decode cX9_readThing 97 = .ok (.if_icmp .ne 20, 3) := by decide +kernel
theorem dX9_readThing_100 : decode cX9_readThing 100 = .ok (.new 267, 3) := by decide +kernel
theorem dX9_readThing_103 : decode cX9_readThing 103 = .ok (.dup, 1) := by decide +kernel
theorem dX9_readThing_104 : decode cX9_readThing 104 = .ok (.iload_n 2, 1) := by decide +kernel
theorem dX9_readThing_105 : decode cX9_readThing 105 = .ok (.iload 4, 2) := by decide +kernel
theorem dX9_readThing_107 : decode cX9_readThing 107 = .ok (.iload 5, 2) := by decide +kernel
theorem dX9_readThing_109 : decode cX9_readThing 109 = .ok (.iload 6, 2) := by decide +kernel
theorem dX9_readThing_111 : decode cX9_readThing 111 = .ok (.iload 7, 2) := by decide +kernel
theorem dX9_readThing_113 : decode cX9_readThing 113 = .ok (.invokespecial 269, 3) := by decide +kernel
theorem dX9_readThing_116 : decode cX9_readThing 116 = .ok (.areturn, 1) := by decide +kernel
theorem dX9_readThing_117 : decode cX9_readThing 117 = .ok (.new 91, 3) := by decide +kernel
theorem dX9_readThing_120 : decode cX9_readThing 120 = .ok (.dup, 1) := by decide +kernel
theorem dX9_readThing_121 : decode cX9_readThing 121 = .ok (.iload_n 2, 1) := by decide +kernel
theorem dX9_readThing_122 : decode cX9_readThing 122 = .ok (.iload 4, 2) := by decide +kernel
theorem dX9_readThing_124 : decode cX9_readThing 124 = .ok (.iload 5, 2) := by decide +kernel
theorem dX9_readThing_126 : decode cX9_readThing 126 = .ok (.iload 6, 2) := by decide +kernel
theorem dX9_readThing_128 : decode cX9_readThing 128 = .ok (.iload 7, 2) := by decide +kernel
theorem dX9_readThing_130 : decode cX9_readThing 130 = .ok (.invokespecial 270, 3) := by decide +kernel
theorem dX9_readThing_133 : decode cX9_readThing 133 = .ok (.areturn, 1) := by decide +kernel
set_option maxRecDepth 20000 in
theorem ggX9_harmOfBoth_X5_all : GoodIn wsX9_harmOfBoth wsX5_all := goodIn_r _ [7, 8, 17, 18, 19, 20, 21, 22, 23, 24] (by decide +kernel) (by decide +kernel)
set_option maxRecDepth 20000 in
theorem gX9_harmOfBoth_X5_all : GoodIn wsX9_harmOfBoth (wsV RX9 150 RX5 yX5_all wsX5_all) := goodIn_app (goodIn_of _ (by decide +kernel)) ggX9_harmOfBoth_X5_all
theorem dX9_harmOfBoth_0 : decode cX9_harmOfBoth 0 = .ok (.aload_n 0, 1) := by decide +kernel
theorem dX9_harmOfBoth_1 : decode cX9_harmOfBoth 1 = .ok (.getfield 12, 3) := by decide +kernel
theorem dX9_harmOfBoth_4 : decode cX9_harmOfBoth 4 = .ok (.invokevirtual 150, 3) := by decide +kernel
theorem dX9_harmOfBoth_7 : decode cX9_harmOfBoth 7 = .ok (.iload_n 1, 1) := by decide +kernel
theorem dX9_harmOfBoth_8 : decode cX9_harmOfBoth 8 = .ok (.iconst (-1), 1) := by decide +kernel
theorem dX9_harmOfBoth_9 : decode cX9_harmOfBoth 9 = .ok (.ixor, 1) := by decide +kernel
theorem dX9_harmOfBoth_10 : decode cX9_harmOfBoth 10 = .ok (.iand, 1) := by decide +kernel
theorem dX9_harmOfBoth_11 : decode cX9_harmOfBoth 11 = .ok (.istore_n 2, 1) := by decide +kernel
theorem dX9_harmOfBoth_12 : decode cX9_harmOfBoth 12 = .ok (.iload_n 1, 1) := by decide +kernel
theorem dX9_harmOfBoth_13 : decode cX9_harmOfBoth 13 = .ok (.ifCond .lt 21, 3) := by decide +kernel
theorem dX9_harmOfBoth_16 : decode cX9_harmOfBoth 16 = .ok (.iload_n 1, 1) := by decide +kernel
theorem dX9_harmOfBoth_17 : decode cX9_harmOfBoth 17 = .ok (.aload_n 0, 1) := by decide +kernel
theorem dX9_harmOfBoth_18 : decode cX9_harmOfBoth 18 = .ok (.getfield 47, 3) := by decide +kernel
theorem dX9_harmOfBoth_21 : decode cX9_harmOfBoth 21 = .ok (.arraylength, 1) := by decide +kernel
theorem dX9_harmOfBoth_22 : decode cX9_harmOfBoth 22 = .ok (.if_icmp .ge 12, 3) := by decide +kernel
theorem dX9_harmOfBoth_25 : decode cX9_harmOfBoth 25 = .ok (.iload_n 2, 1) := by decide +kernel
theorem dX9_harmOfBoth_26 : decode cX9_harmOfBoth 26 = .ok (.aload_n 0, 1) := by decide +kernel
theorem dX9_harmOfBoth_27 : decode cX9_harmOfBoth 27 = .ok (.getfield 47, 3) := by decide +kernel
theorem dX9_harmOfBoth_30 : decode cX9_harmOfBoth 30 = .ok (.arraylength, 1) := by decide +kernel
theorem dX9_harmOfBoth_31 : decode cX9_harmOfBoth 31 = .ok (.if_icmp .lt 5, 3) := by decide +kernel
theorem dX9_harmOfBoth_34 : decode cX9_harmOfBoth 34 = .ok (.iconst 0, 1) := by decide +kernel
theorem dX9_harmOfBoth_35 : decode cX9_harmOfBoth 35 = .ok (.ireturn, 1) := by decide +kernel
theorem dX9_harmOfBoth_36 : decode cX9_harmOfBoth 36 = .ok (.aload_n 0, 1) := by decide +kernel
theorem dX9_harmOfBoth_37 : decode cX9_harmOfBoth 37 = .ok (.getfield 47, 3) := by decide +kernel
theorem dX9_harmOfBoth_40 : decode cX9_harmOfBoth 40 = .ok (.iload_n 1, 1) := by decide +kernel
theorem dX9_harmOfBoth_41 : decode cX9_harmOfBoth 41 = .ok (.iaload, 1) := by decide +kernel
theorem dX9_harmOfBoth_42 : decode cX9_harmOfBoth 42 = .ok (.aload_n 0, 1) := by decide +kernel
theorem dX9_harmOfBoth_43 : decode cX9_harmOfBoth 43 = .ok (.getfield 47, 3) := by decide +kernel
theorem dX9_harmOfBoth_46 : decode cX9_harmOfBoth 46 = .ok (.iload_n 2, 1) := by decide +kernel
theorem dX9_harmOfBoth_47 : decode cX9_harmOfBoth 47 = .ok (.iaload, 1) := by decide +kernel
theorem dX9_harmOfBoth_48 : decode cX9_harmOfBoth 48 = .ok (.iadd, 1) := by decide +kernel
theorem dX9_harmOfBoth_49 : decode cX9_harmOfBoth 49 = .ok (.ireturn, 1) := by decide +kernel
theorem dJ6_bitCount_0f7a4_0 : decode cJ6_bitCount_0f7a4 0 = .ok (.iload_n 0, 1) := by decide +kernel
theorem dJ6_bitCount_0f7a4_1 : decode cJ6_bitCount_0f7a4 1 = .ok (.iload_n 0, 1) := by decide +kernel
theorem dJ6_bitCount_0f7a4_2 : decode cJ6_bitCount_0f7a4 2 = .ok (.iconst 1, 1) := by decide +kernel
theorem dJ6_bitCount_0f7a4_3 : decode cJ6_bitCount_0f7a4 3 = .ok (.iushr, 1) := by decide +kernel
theorem dJ6_bitCount_0f7a4_4 : decode cJ6_bitCount_0f7a4 4 = .ok (.ldc_w 265, 3) := by decide +kernel
theorem dJ6_bitCount_0f7a4_7 : decode cJ6_bitCount_0f7a4 7 = .ok (.iand, 1) := by decide +kernel
theorem dJ6_bitCount_0f7a4_8 : decode cJ6_bitCount_0f7a4 8 = .ok (.isub, 1) := by decide +kernel
theorem dJ6_bitCount_0f7a4_9 : decode cJ6_bitCount_0f7a4 9 = .ok (.istore_n 0, 1) := by decide +kernel
theorem dJ6_bitCount_0f7a4_10 : decode cJ6_bitCount_0f7a4 10 = .ok (.iload_n 0, 1) := by decide +kernel
theorem dJ6_bitCount_0f7a4_11 : decode cJ6_bitCount_0f7a4 11 = .ok (.ldc_w 266, 3) := by decide +kernel
theorem dJ6_bitCount_0f7a4_14 : decode cJ6_bitCount_0f7a4 14 = .ok (.iand, 1) := by decide +kernel
theorem dJ6_bitCount_0f7a4_15 : decode cJ6_bitCount_0f7a4 15 = .ok (.iload_n 0, 1) := by decide +kernel
theorem dJ6_bitCount_0f7a4_16 : decode cJ6_bitCount_0f7a4 16 = .ok (.iconst 2, 1) := by decide +kernel
theorem dJ6_bitCount_0f7a4_17 : decode cJ6_bitCount_0f7a4 17 = .ok (.iushr, 1) := by decide +kernel
theorem dJ6_bitCount_0f7a4_18 : decode cJ6_bitCount_0f7a4 18 = .ok (.ldc_w 266, 3) := by decide +kernel
theorem dJ6_bitCount_0f7a4_21 : decode cJ6_bitCount_0f7a4 21 = .ok (.iand, 1) := by decide +kernel
theorem dJ6_bitCount_0f7a4_22 : decode cJ6_bitCount_0f7a4 22 = .ok (.iadd, 1) := by decide +kernel
theorem dJ6_bitCount_0f7a4_23 : decode cJ6_bitCount_0f7a4 23 = .ok (.istore_n 0, 1) := by decide +kernel
theorem dJ6_bitCount_0f7a4_24 : decode cJ6_bitCount_0f7a4 24 = .ok (.iload_n 0, 1) := by decide +kernel
theorem dJ6_bitCount_0f7a4_25 : decode cJ6_bitCount_0f7a4 25 = .ok (.iload_n 0, 1) := by decide +kernel
theorem dJ6_bitCount_0f7a4_26 : decode cJ6_bitCount_0f7a4 26 = .ok (.iconst 4, 1) := by decide +kernel
theorem dJ6_bitCount_0f7a4_27 : decode cJ6_bitCount_0f7a4 27 = .ok (.iushr, 1) := by decide +kernel
theorem dJ6_bitCount_0f7a4_28 : decode cJ6_bitCount_0f7a4 28 = .ok (.iadd, 1) := by decide +kernel
theorem dJ6_bitCount_0f7a4_29 : decode cJ6_bitCount_0f7a4 29 = .ok (.ldc_w 267, 3) := by decide +kernel
theorem dJ6_bitCount_0f7a4_32 : decode cJ6_bitCount_0f7a4 32 = .ok (.iand, 1) := by decide +kernel
theorem dJ6_bitCount_0f7a4_33 : decode cJ6_bitCount_0f7a4 33 = .ok (.istore_n 0, 1) := by decide +kernel
theorem dJ6_bitCount_0f7a4_34 : decode cJ6_bitCount_0f7a4 34 = .ok (.iload_n 0, 1) := by decide +kernel
theorem dJ6_bitCount_0f7a4_35 : decode cJ6_bitCount_0f7a4 35 = .ok (.iload_n 0, 1) := by decide +kernel
theorem dJ6_bitCount_0f7a4_36 : decode cJ6_bitCount_0f7a4 36 = .ok (.bipush 8, 2) := by decide +kernel
theorem dJ6_bitCount_0f7a4_38 : decode cJ6_bitCount_0f7a4 38 = .ok (.iushr, 1) := by decide +kernel
theorem dJ6_bitCount_0f7a4_39 : decode cJ6_bitCount_0f7a4 39 = .ok (.iadd, 1) := by decide +kernel
theorem dJ6_bitCount_0f7a4_40 : decode cJ6_bitCount_0f7a4 40 = .ok (.istore_n 0, 1) := by decide +kernel
theorem dJ6_bitCount_0f7a4_41 : decode cJ6_bitCount_0f7a4 41 = .ok (.iload_n 0, 1) := by decide +kernel
theorem dJ6_bitCount_0f7a4_42 : decode cJ6_bitCount_0f7a4 42 = .ok (.iload_n 0, 1) := by decide +kernel
theorem dJ6_bitCount_0f7a4_43 : decode cJ6_bitCount_0f7a4 43 = .ok (.bipush 16, 2) := by decide +kernel
theorem dJ6_bitCount_0f7a4_45 : decode cJ6_bitCount_0f7a4 45 = .ok (.iushr, 1) := by decide +kernel
theorem dJ6_bitCount_0f7a4_46 : decode cJ6_bitCount_0f7a4 46 = .ok (.iadd, 1) := by decide +kernel
theorem dJ6_bitCount_0f7a4_47 : decode cJ6_bitCount_0f7a4 47 = .ok (.istore_n 0, 1) := by decide +kernel
theorem dJ6_bitCount_0f7a4_48 : decode cJ6_bitCount_0f7a4 48 = .ok (.iload_n 0, 1) := by decide +kernel
theorem dJ6_bitCount_0f7a4_49 : decode cJ6_bitCount_0f7a4 49 = .ok (.bipush 63, 2) := by decide +kernel
theorem dJ6_bitCount_0f7a4_51 : decode cJ6_bitCount_0f7a4 51 = .ok (.iand, 1) := by decide +kernel
theorem dJ6_bitCount_0f7a4_52 : decode cJ6_bitCount_0f7a4 52 = .ok (.ireturn, 1) := by decide +kernel
theorem dJ9_abs_0f7a4_0 : decode cJ9_abs_0f7a4 0 = .ok (.iload_n 0, 1) := by decide +kernel
theorem dJ9_abs_0f7a4_1 : decode cJ9_abs_0f7a4 1 = .ok (.ifCond .ge 8, 3) := by decide +kernel
theorem dJ9_abs_0f7a4_4 : decode cJ9_abs_0f7a4 4 = .ok (.iload_n 0, 1) := by decide +kernel
theorem dJ9_abs_0f7a4_5 : decode cJ9_abs_0f7a4 5 = .ok (.ineg, 1) := by decide +kernel
theorem dJ9_abs_0f7a4_6 : decode cJ9_abs_0f7a4 6 = .ok (.goto 4, 3) := by decide +kernel
theorem dJ9_abs_0f7a4_9 : decode cJ9_abs_0f7a4 9 = .ok (.iload_n 0, 1) := by decide +kernel
theorem dJ9_abs_0f7a4_10 : decode cJ9_abs_0f7a4 10 = .ok (.ireturn, 1) := by decide +kernel
theorem dJ9_max_7cf53_0 : decode cJ9_max_7cf53 0 = .ok (.iload_n 0, 1) := by decide +kernel
theorem dJ9_max_7cf53_1 : decode cJ9_max_7cf53 1 = .ok (.iload_n 1, 1) := by decide +kernel
theorem dJ9_max_7cf53_2 : decode cJ9_max_7cf53 2 = .ok (.if_icmp .lt 7, 3) := by decide +kernel
theorem dJ9_max_7cf53_5 : decode cJ9_max_7cf53 5 = .ok (.iload_n 0, 1) := by decide +kernel
theorem dJ9_max_7cf53_6 : decode cJ9_max_7cf53 6 = .ok (.goto 4, 3) := by decide +kernel
theorem dJ9_max_7cf53_9 : decode cJ9_max_7cf53 9 = .ok (.iload_n 1, 1) := by decide +kernel
theorem dJ9_max_7cf53_10 : decode cJ9_max_7cf53 10 = .ok (.ireturn, 1) := by decide +kernel
theorem dJ9_min_7cf53_0 : decode cJ9_min_7cf53 0 = .ok (.iload_n 0, 1) := by decide +kernel
theorem dJ9_min_7cf53_1 : decode cJ9_min_7cf53 1 = .ok (.iload_n 1, 1) := by decide +kernel
theorem dJ9_min_7cf53_2 : decode cJ9_min_7cf53 2 = .ok (.if_icmp .gt 7, 3) := by decide +kernel
theorem dJ9_min_7cf53_5 : decode cJ9_min_7cf53 5 = .ok (.iload_n 0, 1) := by decide +kernel
theorem dJ9_min_7cf53_6 : decode cJ9_min_7cf53 6 = .ok (.goto 4, 3) := by decide +kernel
theorem dJ9_min_7cf53_9 : decode cJ9_min_7cf53 9 = .ok (.iload_n 1, 1) := by decide +kernel
theorem dJ9_min_7cf53_10 : decode cJ9_min_7cf53 10 = .ok (.ireturn, 1) := by decide +kernel

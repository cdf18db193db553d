set_option maxRecDepth 20000 in
theorem ggX10_nail_X10_layRow : GoodIn wsX10_nail wsX10_layRow := goodIn_r _ [19, 20, 21, 22, 23, 24, 25, 26, 8, 27, 28, 29, 30, 31, 32, 33, 1, 10, 11, 12, 34, 35, 36, 37, 47, 48, 49, 50, 51, 52, 53, 54, 55, 56, 57, 58, 59, 60, 61, 62, 63, 64, 65, 66, 67, 68, 69, 70, 71, 72, 73, 74, 75, 76, 77, 78, 79, 80] (by decide +kernel) (by decide +kernel)
set_option maxRecDepth 20000 in
theorem gX10_nail_X10_layRow : GoodIn wsX10_nail (wsV RX10 159 RX10 yX10_layRow wsX10_layRow) := goodIn_app (goodIn_of _ (by decide +kernel)) ggX10_nail_X10_layRow
set_option maxRecDepth 20000 in
theorem ggX10_nail_X10_layComings : GoodIn wsX10_nail wsX10_layComings := goodIn_r _ [41, 2, 23, 42, 43, 21, 4, 3, 5, 44, 45, 8, 46, 47, 48, 49, 50, 51, 52, 53, 54, 55, 56, 57, 58, 59, 60, 61, 62, 63, 64, 65, 66, 67, 68, 69, 70, 71, 72, 73, 74, 75, 76, 77, 78, 79, 80] (by decide +kernel) (by decide +kernel)
set_option maxRecDepth 20000 in
theorem gX10_nail_X10_layComings : GoodIn wsX10_nail (wsV RX10 151 RX10 yX10_layComings wsX10_layComings) := goodIn_app (goodIn_of _ (by decide +kernel)) ggX10_nail_X10_layComings
theorem dX10_nail_0 : decode cX10_nail 0 = .ok (.aload_n 0, 1) := by decide +kernel
theorem dX10_nail_1 : decode cX10_nail 1 = .ok (.iconst 0, 1) := by decide +kernel
theorem dX10_nail_2 : decode cX10_nail 2 = .ok (.putfield 80, 3) := by decide +kernel
theorem dX10_nail_5 : decode cX10_nail 5 = .ok (.iload_n 1, 1) := by decide +kernel
theorem dX10_nail_6 : decode cX10_nail 6 = .ok (.invokestatic 96, 3) := by decide +kernel
theorem dX10_nail_9 : decode cX10_nail 9 = .ok (.ifCond .ne 5, 3) := by decide +kernel
theorem dX10_nail_12 : decode cX10_nail 12 = .ok (.iconst (-1), 1) := by decide +kernel
theorem dX10_nail_13 : decode cX10_nail 13 = .ok (.ireturn, 1) := by decide +kernel
theorem dX10_nail_14 : decode cX10_nail 14 = .ok (.iload_n 2, 1) := by decide +kernel
theorem dX10_nail_15 : decode cX10_nail 15 = .ok (.invokestatic 100, 3) := by decide +kernel
theorem dX10_nail_18 : decode cX10_nail 18 = .ok (.ifCond .eq 15, 3) := by decide +kernel
theorem dX10_nail_21 : decode cX10_nail 21 = .ok (.iload 5, 2) := by decide +kernel
theorem dX10_nail_23 : decode cX10_nail 23 = .ok (.iconst 0, 1) := by decide +kernel
theorem dX10_nail_24 : decode cX10_nail 24 = .ok (.sipush 299, 3) := by decide +kernel
theorem dX10_nail_27 : decode cX10_nail 27 = .ok (.invokestatic 86, 3) := by decide +kernel
theorem dX10_nail_30 : decode cX10_nail 30 = .ok (.ifCond .ne 6, 3) := by decide +kernel
theorem dX10_nail_33 : decode cX10_nail 33 = .ok (.bipush (-2), 2) := by decide +kernel
theorem dX10_nail_35 : decode cX10_nail 35 = .ok (.ireturn, 1) := by decide +kernel
theorem dX10_nail_36 : decode cX10_nail 36 = .ok (.aload_n 0, 1) := by decide +kernel
theorem dX10_nail_37 : decode cX10_nail 37 = .ok (.iload_n 1, 1) := by decide +kernel
theorem dX10_nail_38 : decode cX10_nail 38 = .ok (.iload_n 2, 1) := by decide +kernel
theorem dX10_nail_39 : decode cX10_nail 39 = .ok (.iload_n 3, 1) := by decide +kernel
theorem dX10_nail_40 : decode cX10_nail 40 = .ok (.iload 4, 2) := by decide +kernel
theorem dX10_nail_42 : decode cX10_nail 42 = .ok (.invokevirtual 159, 3) := by decide +kernel
theorem dX10_nail_45 : decode cX10_nail 45 = .ok (.istore 6, 2) := by decide +kernel
theorem dX10_nail_47 : decode cX10_nail 47 = .ok (.iload 6, 2) := by decide +kernel
theorem dX10_nail_49 : decode cX10_nail 49 = .ok (.ifCond .eq 6, 3) := by decide +kernel
theorem dX10_nail_52 : decode cX10_nail 52 = .ok (.iload 6, 2) := by decide +kernel
theorem dX10_nail_54 : decode cX10_nail 54 = .ok (.ireturn, 1) := by decide +kernel
theorem dX10_nail_55 : decode cX10_nail 55 = .ok (.aload_n 0, 1) := by decide +kernel
theorem dX10_nail_56 : decode cX10_nail 56 = .ok (.sipush 300, 3) := by decide +kernel
theorem dX10_nail_59 : decode cX10_nail 59 = .ok (.sipush 400, 3) := by decide +kernel
theorem dX10_nail_62 : decode cX10_nail 62 = .ok (.invokevirtual 151, 3) := by decide +kernel
theorem dX10_nail_65 : decode cX10_nail 65 = .ok (.bipush (-9), 2) := by decide +kernel
theorem dX10_nail_67 : decode cX10_nail 67 = .ok (.istore 7, 2) := by decide +kernel
theorem dX10_nail_69 : decode cX10_nail 69 = .ok (.iconst 0, 1) := by decide +kernel
theorem dX10_nail_70 : decode cX10_nail 70 = .ok (.istore 8, 2) := by decide +kernel
theorem dX10_nail_72 : decode cX10_nail 72 = .ok (.iload 8, 2) := by decide +kernel
theorem dX10_nail_74 : decode cX10_nail 74 = .ok (.aload_n 0, 1) := by decide +kernel
theorem dX10_nail_75 : decode cX10_nail 75 = .ok (.getfield 142, 3) := by decide +kernel
theorem dX10_nail_78 : decode cX10_nail 78 = .ok (.if_icmp .ge 59, 3) := by decide +kernel
theorem dX10_nail_81 : decode cX10_nail 81 = .ok (.aload_n 0, 1) := by decide +kernel
theorem dX10_nail_82 : decode cX10_nail 82 = .ok (.getfield 55, 3) := by decide +kernel
theorem dX10_nail_85 : decode cX10_nail 85 = .ok (.iload 8, 2) := by decide +kernel
theorem dX10_nail_87 : decode cX10_nail 87 = .ok (.iaload, 1) := by decide +kernel
theorem dX10_nail_88 : decode cX10_nail 88 = .ok (.istore 9, 2) := by decide +kernel
theorem dX10_nail_90 : decode cX10_nail 90 = .ok (.aload_n 0, 1) := by decide +kernel
theorem dX10_nail_91 : decode cX10_nail 91 = .ok (.getfield 52, 3) := by decide +kernel
theorem dX10_nail_94 : decode cX10_nail 94 = .ok (.iload 8, 2) := by decide +kernel
theorem dX10_nail_96 : decode cX10_nail 96 = .ok (.iaload, 1) := by decide +kernel
theorem dX10_nail_97 : decode cX10_nail 97 = .ok (.iload 5, 2) := by decide +kernel
theorem dX10_nail_99 : decode cX10_nail 99 = .ok (.if_icmp .gt 28, 3) := by decide +kernel
theorem dX10_nail_102 : decode cX10_nail 102 = .ok (.iload 5, 2) := by decide +kernel
theorem dX10_nail_104 : decode cX10_nail 104 = .ok (.aload_n 0, 1) := by decide +kernel
theorem dX10_nail_105 : decode cX10_nail 105 = .ok (.getfield 52, 3) := by decide +kernel
theorem dX10_nail_108 : decode cX10_nail 108 = .ok (.iload 8, 2) := by decide +kernel
theorem dX10_nail_110 : decode cX10_nail 110 = .ok (.iaload, 1) := by decide +kernel
theorem dX10_nail_111 : decode cX10_nail 111 = .ok (.aload_n 0, 1) := by decide +kernel
theorem dX10_nail_112 : decode cX10_nail 112 = .ok (.getfield 25, 3) := by decide +kernel
theorem dX10_nail_115 : decode cX10_nail 115 = .ok (.iload 9, 2) := by decide +kernel
theorem dX10_nail_117 : decode cX10_nail 117 = .ok (.iaload, 1) := by decide +kernel
theorem dX10_nail_118 : decode cX10_nail 118 = .ok (.iadd, 1) := by decide +kernel
theorem dX10_nail_119 : decode cX10_nail 119 = .ok (.if_icmp .ge 8, 3) := by decide +kernel
theorem dX10_nail_122 : decode cX10_nail 122 = .ok (.iload 9, 2) := by decide +kernel
theorem dX10_nail_124 : decode cX10_nail 124 = .ok (.goto 5, 3) := by decide +kernel
theorem dX10_nail_127 : decode cX10_nail 127 = .ok (.iload 7, 2) := by decide +kernel
theorem dX10_nail_129 : decode cX10_nail 129 = .ok (.istore 7, 2) := by decide +kernel
theorem dX10_nail_131 : decode cX10_nail 131 = .ok (.iinc 8 1, 3) := by decide +kernel
theorem dX10_nail_134 : decode cX10_nail 134 = .ok (.goto (-62), 3) := by decide +kernel
theorem dX10_nail_137 : decode cX10_nail 137 = .ok (.iload 7, 2) := by decide +kernel
theorem dX10_nail_139 : decode cX10_nail 139 = .ok (.ireturn, 1) := by decide +kernel
theorem dX10_firstOrder_0 : decode cX10_firstOrder 0 = .ok (.aload_n 0, 1) := by decide +kernel
theorem dX10_firstOrder_1 : decode cX10_firstOrder 1 = .ok (.iconst 0, 1) := by decide +kernel
theorem dX10_firstOrder_2 : decode cX10_firstOrder 2 = .ok (.putfield 145, 3) := by decide +kernel
theorem dX10_firstOrder_5 : decode cX10_firstOrder 5 = .ok (.iconst 0, 1) := by decide +kernel
theorem dX10_firstOrder_6 : decode cX10_firstOrder 6 = .ok (.istore_n 2, 1) := by decide +kernel
theorem dX10_firstOrder_7 : decode cX10_firstOrder 7 = .ok (.iload_n 2, 1) := by decide +kernel
theorem dX10_firstOrder_8 : decode cX10_firstOrder 8 = .ok (.aload_n 0, 1) := by decide +kernel
theorem dX10_firstOrder_9 : decode cX10_firstOrder 9 = .ok (.getfield 90, 3) := by decide +kernel
theorem dX10_firstOrder_12 : decode cX10_firstOrder 12 = .ok (.if_icmp .ge 38, 3) := by decide +kernel
theorem dX10_firstOrder_15 : decode cX10_firstOrder 15 = .ok (.iload_n 1, 1) := by decide +kernel
theorem dX10_firstOrder_16 : decode cX10_firstOrder 16 = .ok (.iload_n 2, 1) := by decide +kernel
theorem dX10_firstOrder_17 : decode cX10_firstOrder 17 = .ok (.ishr, 1) := by decide +kernel
theorem dX10_firstOrder_18 : decode cX10_firstOrder 18 = .ok (.iconst 1, 1) := by decide +kernel
theorem dX10_firstOrder_19 : decode cX10_firstOrder 19 = .ok (.iand, 1) := by decide +kernel
theorem dX10_firstOrder_20 : decode cX10_firstOrder 20 = .ok (.iconst 1, 1) := by decide +kernel
theorem dX10_firstOrder_21 : decode cX10_firstOrder 21 = .ok (.if_icmp .ne 23, 3) := by decide +kernel
theorem dX10_firstOrder_24 : decode cX10_firstOrder 24 = .ok (.aload_n 0, 1) := by decide +kernel
theorem dX10_firstOrder_25 : decode cX10_firstOrder 25 = .ok (.getfield 49, 3) := by decide +kernel
theorem dX10_firstOrder_28 : decode cX10_firstOrder 28 = .ok (.aload_n 0, 1) := by decide +kernel
theorem dX10_firstOrder_29 : decode cX10_firstOrder 29 = .ok (.getfield 145, 3) := by decide +kernel
theorem dX10_firstOrder_32 : decode cX10_firstOrder 32 = .ok (.iload_n 2, 1) := by decide +kernel
theorem dX10_firstOrder_33 : decode cX10_firstOrder 33 = .ok (.iastore, 1) := by decide +kernel
theorem dX10_firstOrder_34 : decode cX10_firstOrder 34 = .ok (.aload_n 0, 1) := by decide +kernel
theorem dX10_firstOrder_35 : decode cX10_firstOrder 35 = .ok (.dup, 1) := by decide +kernel
theorem dX10_firstOrder_36 : decode cX10_firstOrder 36 = .ok (.getfield 145, 3) := by decide +kernel
theorem dX10_firstOrder_39 : decode cX10_firstOrder 39 = .ok (.iconst 1, 1) := by decide +kernel
theorem dX10_firstOrder_40 : decode cX10_firstOrder 40 = .ok (.iadd, 1) := by decide +kernel
theorem dX10_firstOrder_41 : decode cX10_firstOrder 41 = .ok (.putfield 145, 3) := by decide +kernel
theorem dX10_firstOrder_44 : decode cX10_firstOrder 44 = .ok (.iinc 2 1, 3) := by decide +kernel
theorem dX10_firstOrder_47 : decode cX10_firstOrder 47 = .ok (.goto (-40), 3) := by decide +kernel
theorem dX10_firstOrder_50 : decode cX10_firstOrder 50 = .ok (.return_, 1) := by decide +kernel
theorem dX10_change_0 : decode cX10_change 0 = .ok (.aload_n 0, 1) := by decide +kernel
theorem dX10_change_1 : decode cX10_change 1 = .ok (.getfield 49, 3) := by decide +kernel
theorem dX10_change_4 : decode cX10_change 4 = .ok (.iload_n 1, 1) := by decide +kernel
theorem dX10_change_5 : decode cX10_change 5 = .ok (.iaload, 1) := by decide +kernel
theorem dX10_change_6 : decode cX10_change 6 = .ok (.istore_n 3, 1) := by decide +kernel
theorem dX10_change_7 : decode cX10_change 7 = .ok (.aload_n 0, 1) := by decide +kernel
theorem dX10_change_8 : decode cX10_change 8 = .ok (.getfield 49, 3) := by decide +kernel
theorem dX10_change_11 : decode cX10_change 11 = .ok (.iload_n 1, 1) := by decide +kernel
theorem dX10_change_12 : decode cX10_change 12 = .ok (.aload_n 0, 1) := by decide +kernel
theorem dX10_change_13 : decode cX10_change 13 = .ok (.getfield 49, 3) := by decide +kernel
theorem dX10_change_16 : decode cX10_change 16 = .ok (.iload_n 2, 1) := by decide +kernel
theorem dX10_change_17 : decode cX10_change 17 = .ok (.iaload, 1) := by decide +kernel
theorem dX10_change_18 : decode cX10_change 18 = .ok (.iastore, 1) := by decide +kernel
theorem dX10_change_19 : decode cX10_change 19 = .ok (.aload_n 0, 1) := by decide +kernel
theorem dX10_change_20 : decode cX10_change 20 = .ok (.getfield 49, 3) := by decide +kernel
theorem dX10_change_23 : decode cX10_change 23 = .ok (.iload_n 2, 1) := by decide +kernel
theorem dX10_change_24 : decode cX10_change 24 = .ok (.iload_n 3, 1) := by decide +kernel
theorem dX10_change_25 : decode cX10_change 25 = .ok (.iastore, 1) := by decide +kernel
theorem dX10_change_26 : decode cX10_change 26 = .ok (.return_, 1) := by decide +kernel
set_option maxRecDepth 20000 in
theorem ggX10_nextOrder_X10_change : GoodIn wsX10_nextOrder wsX10_change := goodIn_r _ [7, 2, 8, 9, 10, 11, 12, 13, 14, 15, 16, 17, 18, 19, 20, 21, 22, 23, 24, 25, 26, 27, 28, 29, 30, 31, 32, 33, 34, 35, 36, 37, 38, 39, 40, 41] (by decide +kernel) (by decide +kernel)
set_option maxRecDepth 20000 in
theorem gX10_nextOrder_X10_change : GoodIn wsX10_nextOrder (wsV RX10 175 RX10 yX10_change wsX10_change) := goodIn_app (goodIn_of _ (by decide +kernel)) ggX10_nextOrder_X10_change
theorem dX10_nextOrder_0 : decode cX10_nextOrder 0 = .ok (.aload_n 0, 1) := by decide +kernel
theorem dX10_nextOrder_1 : decode cX10_nextOrder 1 = .ok (.getfield 145, 3) := by decide +kernel
theorem dX10_nextOrder_4 : decode cX10_nextOrder 4 = .ok (.iconst 2, 1) := by decide +kernel
theorem dX10_nextOrder_5 : decode cX10_nextOrder 5 = .ok (.isub, 1) := by decide +kernel
theorem dX10_nextOrder_6 : decode cX10_nextOrder 6 = .ok (.istore_n 1, 1) := by decide +kernel
theorem dX10_nextOrder_7 : decode cX10_nextOrder 7 = .ok (.iload_n 1, 1) := by decide +kernel
theorem dX10_nextOrder_8 : decode cX10_nextOrder 8 = .ok (.ifCond .lt 26, 3) := by decide +kernel
theorem dX10_nextOrder_11 : decode cX10_nextOrder 11 = .ok (.aload_n 0, 1) := by decide +kernel
theorem dX10_nextOrder_12 : decode cX10_nextOrder 12 = .ok (.getfield 49, 3) := by decide +kernel
theorem dX10_nextOrder_15 : decode cX10_nextOrder 15 = .ok (.iload_n 1, 1) := by decide +kernel
theorem dX10_nextOrder_16 : decode cX10_nextOrder 16 = .ok (.iaload, 1) := by decide +kernel
theorem dX10_nextOrder_17 : decode cX10_nextOrder 17 = .ok (.aload_n 0, 1) := by decide +kernel
theorem dX10_nextOrder_18 : decode cX10_nextOrder 18 = .ok (.getfield 49, 3) := by decide +kernel
theorem dX10_nextOrder_21 : decode cX10_nextOrder 21 = .ok (.iload_n 1, 1) := by decide +kernel
theorem dX10_nextOrder_22 : decode cX10_nextOrder 22 = .ok (.iconst 1, 1) := by decide +kernel
theorem dX10_nextOrder_23 : decode cX10_nextOrder 23 = .ok (.iadd, 1) := by decide +kernel
theorem dX10_nextOrder_24 : decode cX10_nextOrder 24 = .ok (.iaload, 1) := by decide +kernel
theorem dX10_nextOrder_25 : decode cX10_nextOrder 25 = .ok (.if_icmp .le 9, 3) := by decide +kernel
theorem dX10_nextOrder_28 : decode cX10_nextOrder 28 = .ok (.iinc 1 (-1), 3) := by decide +kernel
theorem dX10_nextOrder_31 : decode cX10_nextOrder 31 = .ok (.goto (-24), 3) := by decide +kernel
theorem dX10_nextOrder_34 : decode cX10_nextOrder 34 = .ok (.iload_n 1, 1) := by decide +kernel
theorem dX10_nextOrder_35 : decode cX10_nextOrder 35 = .ok (.ifCond .ge 5, 3) := by decide +kernel
theorem dX10_nextOrder_38 : decode cX10_nextOrder 38 = .ok (.iconst 0, 1) := by decide +kernel
theorem dX10_nextOrder_39 : decode cX10_nextOrder 39 = .ok (.ireturn, 1) := by decide +kernel
theorem dX10_nextOrder_40 : decode cX10_nextOrder 40 = .ok (.aload_n 0, 1) := by decide +kernel
theorem dX10_nextOrder_41 : decode cX10_nextOrder 41 = .ok (.getfield 145, 3) := by decide +kernel
theorem dX10_nextOrder_44 : decode cX10_nextOrder 44 = .ok (.iconst 1, 1) := by decide +kernel
theorem dX10_nextOrder_45 : decode cX10_nextOrder 45 = .ok (.isub, 1) := by decide +kernel
theorem dX10_nextOrder_46 : decode cX10_nextOrder 46 = .ok (.istore_n 2, 1) := by decide +kernel
theorem dX10_nextOrder_47 : decode cX10_nextOrder 47 = .ok (.aload_n 0, 1) := by decide +kernel
theorem dX10_nextOrder_48 : decode cX10_nextOrder 48 = .ok (.getfield 49, 3) := by decide +kernel
theorem dX10_nextOrder_51 : decode cX10_nextOrder 51 = .ok (.iload_n 2, 1) := by decide +kernel
theorem dX10_nextOrder_52 : decode cX10_nextOrder 52 = .ok (.iaload, 1) := by decide +kernel
theorem dX10_nextOrder_53 : decode cX10_nextOrder 53 = .ok (.aload_n 0, 1) := by decide +kernel
theorem dX10_nextOrder_54 : decode cX10_nextOrder 54 = .ok (.getfield 49, 3) := by decide +kernel
theorem dX10_nextOrder_57 : decode cX10_nextOrder 57 = .ok (.iload_n 1, 1) := by decide +kernel
theorem dX10_nextOrder_58 : decode cX10_nextOrder 58 = .ok (.iaload, 1) := by decide +kernel
theorem dX10_nextOrder_59 : decode cX10_nextOrder 59 = .ok (.if_icmp .ge 9, 3) := by decide +kernel
theorem dX10_nextOrder_62 : decode cX10_nextOrder 62 = .ok (.iinc 2 (-1), 3) := by decide +kernel
theorem dX10_nextOrder_65 : decode cX10_nextOrder 65 = .ok (.goto (-18), 3) := by decide +kernel
theorem dX10_nextOrder_68 : decode cX10_nextOrder 68 = .ok (.aload_n 0, 1) := by decide +kernel
theorem dX10_nextOrder_69 : decode cX10_nextOrder 69 = .ok (.iload_n 1, 1) := by decide +kernel
theorem dX10_nextOrder_70 : decode cX10_nextOrder 70 = .ok (.iload_n 2, 1) := by decide +kernel
theorem dX10_nextOrder_71 : decode cX10_nextOrder 71 = .ok (.invokevirtual 175, 3) := by decide +kernel
theorem dX10_nextOrder_74 : decode cX10_nextOrder 74 = .ok (.iload_n 1, 1) := by decide +kernel
theorem dX10_nextOrder_75 : decode cX10_nextOrder 75 = .ok (.iconst 1, 1) := by decide +kernel
theorem dX10_nextOrder_76 : decode cX10_nextOrder 76 = .ok (.iadd, 1) := by decide +kernel
theorem dX10_nextOrder_77 : decode cX10_nextOrder 77 = .ok (.istore_n 3, 1) := by decide +kernel
theorem dX10_nextOrder_78 : decode cX10_nextOrder 78 = .ok (.aload_n 0, 1) := by decide +kernel
theorem dX10_nextOrder_79 : decode cX10_nextOrder 79 = .ok (.getfield 145, 3) := by decide +kernel
theorem dX10_nextOrder_82 : decode cX10_nextOrder 82 = .ok (.iconst 1, 1) := by decide +kernel
theorem dX10_nextOrder_83 : decode cX10_nextOrder 83 = .ok (.isub, 1) := by decide +kernel
theorem dX10_nextOrder_84 : decode cX10_nextOrder 84 = .ok (.istore 4, 2) := by decide +kernel
theorem dX10_nextOrder_86 : decode cX10_nextOrder 86 = .ok (.iload_n 3, 1) := by decide +kernel
theorem dX10_nextOrder_87 : decode cX10_nextOrder 87 = .ok (.iload 4, 2) := by decide +kernel
theorem dX10_nextOrder_89 : decode cX10_nextOrder 89 = .ok (.if_icmp .ge 19, 3) := by decide +kernel
theorem dX10_nextOrder_92 : decode cX10_nextOrder 92 = .ok (.aload_n 0, 1) := by decide +kernel
theorem dX10_nextOrder_93 : decode cX10_nextOrder 93 = .ok (.iload_n 3, 1) := by decide +kernel
theorem dX10_nextOrder_94 : decode cX10_nextOrder 94 = .ok (.iload 4, 2) := by decide +kernel
theorem dX10_nextOrder_96 : decode cX10_nextOrder 96 = .ok (.invokevirtual 175, 3) := by decide +kernel
theorem dX10_nextOrder_99 : decode cX10_nextOrder 99 = .ok (.iinc 3 1, 3) := by decide +kernel
theorem dX10_nextOrder_102 : decode cX10_nextOrder 102 = .ok (.iinc 4 (-1), 3) := by decide +kernel
theorem dX10_nextOrder_105 : decode cX10_nextOrder 105 = .ok (.goto (-19), 3) := by decide +kernel
theorem dX10_nextOrder_108 : decode cX10_nextOrder 108 = .ok (.iconst 1, 1) := by decide +kernel
theorem dX10_nextOrder_109 : decode cX10_nextOrder 109 = .ok (.ireturn, 1) := by decide +kernel
set_option maxRecDepth 20000 in
theorem ggX10_leastHarm_X10_firstOrder : GoodIn wsX10_leastHarm wsX10_firstOrder := goodIn_r _ [8, 1, 9, 3, 48, 49, 50, 51, 52, 53, 54, 55, 56, 57, 58, 59, 60, 61, 62, 63, 64, 65, 66, 67, 68, 69, 70, 71, 72, 73, 74, 75, 76, 77, 78, 79, 80, 81] (by decide +kernel) (by decide +kernel)
set_option maxRecDepth 20000 in
theorem gX10_leastHarm_X10_firstOrder : GoodIn wsX10_leastHarm (wsV RX10 178 RX10 yX10_firstOrder wsX10_firstOrder) := goodIn_app (goodIn_of _ (by decide +kernel)) ggX10_leastHarm_X10_firstOrder
set_option maxRecDepth 20000 in
theorem ggX10_leastHarm_X10_harmOf : GoodIn wsX10_leastHarm wsX10_harmOf := goodIn_r _ [13, 9, 14, 15, 16, 17, 7, 18, 19, 1, 20, 21, 3, 22, 23, 24, 25, 26, 27, 28, 29, 30, 31, 32, 33, 34, 35, 36, 37, 38, 39, 48, 49, 50, 51, 52, 53, 54, 55, 56, 57, 58, 59, 60, 61, 62, 63, 64, 65, 66, 67, 68, 69, 70, 71, 72, 73, 74, 75, 76, 77, 78, 79, 80, 81] (by decide +kernel) (by decide +kernel)
set_option maxRecDepth 20000 in
theorem gX10_leastHarm_X10_harmOf : GoodIn wsX10_leastHarm (wsV RX10 166 RX10 yX10_harmOf wsX10_harmOf) := goodIn_app (goodIn_of _ (by decide +kernel)) ggX10_leastHarm_X10_harmOf
set_option maxRecDepth 20000 in
theorem ggX10_leastHarm_X10_nextOrder : GoodIn wsX10_leastHarm wsX10_nextOrder := goodIn_r _ [43, 1, 3, 44, 45, 46, 7, 47, 48, 49, 50, 51, 52, 53, 54, 55, 56, 57, 58, 59, 60, 61, 62, 63, 64, 65, 66, 67, 68, 69, 70, 71, 72, 73, 74, 75, 76, 77, 78, 79, 80, 81] (by decide +kernel) (by decide +kernel)
set_option maxRecDepth 20000 in
theorem gX10_leastHarm_X10_nextOrder : GoodIn wsX10_leastHarm (wsV RX10 182 RX10 yX10_nextOrder wsX10_nextOrder) := goodIn_app (goodIn_of _ (by decide +kernel)) ggX10_leastHarm_X10_nextOrder
theorem dX10_leastHarm_0 : decode cX10_leastHarm 0 = .ok (.aload_n 0, 1) := by decide +kernel
theorem dX10_leastHarm_1 : decode cX10_leastHarm 1 = .ok (.iload_n 1, 1) := by decide +kernel
theorem dX10_leastHarm_2 : decode cX10_leastHarm 2 = .ok (.invokevirtual 178, 3) := by decide +kernel
theorem dX10_leastHarm_5 : decode cX10_leastHarm 5 = .ok (.bipush (-9), 2) := by decide +kernel
theorem dX10_leastHarm_7 : decode cX10_leastHarm 7 = .ok (.istore_n 3, 1) := by decide +kernel
theorem dX10_leastHarm_8 : decode cX10_leastHarm 8 = .ok (.iconst 1, 1) := by decide +kernel
theorem dX10_leastHarm_9 : decode cX10_leastHarm 9 = .ok (.istore 4, 2) := by decide +kernel
theorem dX10_leastHarm_11 : decode cX10_leastHarm 11 = .ok (.iload 4, 2) := by decide +kernel
theorem dX10_leastHarm_13 : decode cX10_leastHarm 13 = .ok (.ifCond .eq 67, 3) := by decide +kernel
theorem dX10_leastHarm_16 : decode cX10_leastHarm 16 = .ok (.aload_n 0, 1) := by decide +kernel
theorem dX10_leastHarm_17 : decode cX10_leastHarm 17 = .ok (.iload_n 1, 1) := by decide +kernel
theorem dX10_leastHarm_18 : decode cX10_leastHarm 18 = .ok (.iload_n 2, 1) := by decide +kernel
theorem dX10_leastHarm_19 : decode cX10_leastHarm 19 = .ok (.invokevirtual 166, 3) := by decide +kernel
theorem dX10_leastHarm_22 : decode cX10_leastHarm 22 = .ok (.istore 5, 2) := by decide +kernel
theorem dX10_leastHarm_24 : decode cX10_leastHarm 24 = .ok (.iload_n 3, 1) := by decide +kernel
theorem dX10_leastHarm_25 : decode cX10_leastHarm 25 = .ok (.bipush (-9), 2) := by decide +kernel
theorem dX10_leastHarm_27 : decode cX10_leastHarm 27 = .ok (.if_icmp .eq 9, 3) := by decide +kernel
theorem dX10_leastHarm_30 : decode cX10_leastHarm 30 = .ok (.iload 5, 2) := by decide +kernel
theorem dX10_leastHarm_32 : decode cX10_leastHarm 32 = .ok (.iload_n 3, 1) := by decide +kernel
theorem dX10_leastHarm_33 : decode cX10_leastHarm 33 = .ok (.if_icmp .ge 38, 3) := by decide +kernel
theorem dX10_leastHarm_36 : decode cX10_leastHarm 36 = .ok (.iload 5, 2) := by decide +kernel
theorem dX10_leastHarm_38 : decode cX10_leastHarm 38 = .ok (.istore_n 3, 1) := by decide +kernel
theorem dX10_leastHarm_39 : decode cX10_leastHarm 39 = .ok (.iconst 0, 1) := by decide +kernel
theorem dX10_leastHarm_40 : decode cX10_leastHarm 40 = .ok (.istore 6, 2) := by decide +kernel
theorem dX10_leastHarm_42 : decode cX10_leastHarm 42 = .ok (.iload 6, 2) := by decide +kernel
theorem dX10_leastHarm_44 : decode cX10_leastHarm 44 = .ok (.aload_n 0, 1) := by decide +kernel
theorem dX10_leastHarm_45 : decode cX10_leastHarm 45 = .ok (.getfield 145, 3) := by decide +kernel
theorem dX10_leastHarm_48 : decode cX10_leastHarm 48 = .ok (.if_icmp .ge 23, 3) := by decide +kernel
theorem dX10_leastHarm_51 : decode cX10_leastHarm 51 = .ok (.aload_n 0, 1) := by decide +kernel
theorem dX10_leastHarm_52 : decode cX10_leastHarm 52 = .ok (.getfield 65, 3) := by decide +kernel
theorem dX10_leastHarm_55 : decode cX10_leastHarm 55 = .ok (.iload 6, 2) := by decide +kernel
theorem dX10_leastHarm_57 : decode cX10_leastHarm 57 = .ok (.aload_n 0, 1) := by decide +kernel
theorem dX10_leastHarm_58 : decode cX10_leastHarm 58 = .ok (.getfield 49, 3) := by decide +kernel
theorem dX10_leastHarm_61 : decode cX10_leastHarm 61 = .ok (.iload 6, 2) := by decide +kernel
theorem dX10_leastHarm_63 : decode cX10_leastHarm 63 = .ok (.iaload, 1) := by decide +kernel
theorem dX10_leastHarm_64 : decode cX10_leastHarm 64 = .ok (.iastore, 1) := by decide +kernel
theorem dX10_leastHarm_65 : decode cX10_leastHarm 65 = .ok (.iinc 6 1, 3) := by decide +kernel
theorem dX10_leastHarm_68 : decode cX10_leastHarm 68 = .ok (.goto (-26), 3) := by decide +kernel
theorem dX10_leastHarm_71 : decode cX10_leastHarm 71 = .ok (.aload_n 0, 1) := by decide +kernel
theorem dX10_leastHarm_72 : decode cX10_leastHarm 72 = .ok (.invokevirtual 182, 3) := by decide +kernel
theorem dX10_leastHarm_75 : decode cX10_leastHarm 75 = .ok (.istore 4, 2) := by decide +kernel
theorem dX10_leastHarm_77 : decode cX10_leastHarm 77 = .ok (.goto (-66), 3) := by decide +kernel
theorem dX10_leastHarm_80 : decode cX10_leastHarm 80 = .ok (.iload_n 3, 1) := by decide +kernel
theorem dX10_leastHarm_81 : decode cX10_leastHarm 81 = .ok (.ireturn, 1) := by decide +kernel
set_option maxRecDepth 20000 in
theorem ggX10_best_X10_within : GoodIn wsX10_best wsX10_within := goodIn_r _ [6] (by decide +kernel) (by decide +kernel)
set_option maxRecDepth 20000 in
theorem gX10_best_X10_within : GoodIn wsX10_best (va_wsS RX10 86 yX10_within wsX10_within) := goodIn_app (goodIn_of _ (by decide +kernel)) ggX10_best_X10_within
set_option maxRecDepth 20000 in
theorem ggX10_best_X10_all : GoodIn wsX10_best wsX10_all := goodIn_r _ [10, 1, 59, 60, 61, 62, 63, 64, 65, 66, 67, 68, 69, 70, 71, 72, 73, 74, 75, 76, 77, 78, 79, 80, 81, 82, 83, 84, 85, 86, 87, 88, 89, 90, 91, 92] (by decide +kernel) (by decide +kernel)
set_option maxRecDepth 20000 in
theorem gX10_best_X10_all : GoodIn wsX10_best (wsV RX10 162 RX10 yX10_all wsX10_all) := goodIn_app (goodIn_of _ (by decide +kernel)) ggX10_best_X10_all
set_option maxRecDepth 20000 in
theorem ggX10_best_X10_leastHarm : GoodIn wsX10_best wsX10_leastHarm := goodIn_r _ [14, 15, 2, 16, 17, 18, 19, 5, 20, 1, 21, 22, 23, 24, 25, 26, 27, 28, 29, 30, 31, 32, 33, 34, 35, 36, 37, 38, 39, 40, 41, 42, 43, 44, 45, 46, 47, 48, 49, 50, 51, 52, 53, 54, 55, 56, 57, 58, 59, 60, 61, 62, 63, 64, 65, 66, 67, 68, 69, 70, 71, 72, 73, 74, 75, 76, 77, 78, 79, 80, 81, 82, 83, 84, 85, 86, 87, 88, 89, 90, 91, 92] (by decide +kernel) (by decide +kernel)
set_option maxRecDepth 20000 in
theorem gX10_best_X10_leastHarm : GoodIn wsX10_best (wsV RX10 186 RX10 yX10_leastHarm wsX10_leastHarm) := goodIn_app (goodIn_of _ (by decide +kernel)) ggX10_best_X10_leastHarm
theorem dX10_best_0 : decode cX10_best 0 = .ok (.aload_n 0, 1) := by decide +kernel
theorem dX10_best_1 : decode cX10_best 1 = .ok (.getfield 90, 3) := by decide +kernel
theorem dX10_best_4 : decode cX10_best 4 = .ok (.ifCond .ne 6, 3) := by decide +kernel
theorem dX10_best_7 : decode cX10_best 7 = .ok (.bipush (-3), 2) := by decide +kernel
theorem dX10_best_9 : decode cX10_best 9 = .ok (.ireturn, 1) := by decide +kernel
theorem dX10_best_10 : decode cX10_best 10 = .ok (.iload_n 1, 1) := by decide +kernel
theorem dX10_best_11 : decode cX10_best 11 = .ok (.iconst 1, 1) := by decide +kernel
theorem dX10_best_12 : decode cX10_best 12 = .ok (.sipush 300, 3) := by decide +kernel
theorem dX10_best_15 : decode cX10_best 15 = .ok (.invokestatic 86, 3) := by decide +kernel
theorem dX10_best_18 : decode cX10_best 18 = .ok (.ifCond .ne 6, 3) := by decide +kernel
theorem dX10_best_21 : decode cX10_best 21 = .ok (.bipush (-2), 2) := by decide +kernel
theorem dX10_best_23 : decode cX10_best 23 = .ok (.ireturn, 1) := by decide +kernel
theorem dX10_best_24 : decode cX10_best 24 = .ok (.iload_n 2, 1) := by decide +kernel
theorem dX10_best_25 : decode cX10_best 25 = .ok (.iconst (-1), 1) := by decide +kernel
theorem dX10_best_26 : decode cX10_best 26 = .ok (.aload_n 0, 1) := by decide +kernel
theorem dX10_best_27 : decode cX10_best 27 = .ok (.getfield 90, 3) := by decide +kernel
theorem dX10_best_30 : decode cX10_best 30 = .ok (.iconst 1, 1) := by decide +kernel
theorem dX10_best_31 : decode cX10_best 31 = .ok (.isub, 1) := by decide +kernel
theorem dX10_best_32 : decode cX10_best 32 = .ok (.invokestatic 86, 3) := by decide +kernel
theorem dX10_best_35 : decode cX10_best 35 = .ok (.ifCond .ne 5, 3) := by decide +kernel
theorem dX10_best_38 : decode cX10_best 38 = .ok (.iconst (-1), 1) := by decide +kernel
theorem dX10_best_39 : decode cX10_best 39 = .ok (.ireturn, 1) := by decide +kernel
theorem dX10_best_40 : decode cX10_best 40 = .ok (.aload_n 0, 1) := by decide +kernel
theorem dX10_best_41 : decode cX10_best 41 = .ok (.aload_n 0, 1) := by decide +kernel
theorem dX10_best_42 : decode cX10_best 42 = .ok (.invokevirtual 162, 3) := by decide +kernel
theorem dX10_best_45 : decode cX10_best 45 = .ok (.iload_n 1, 1) := by decide +kernel
theorem dX10_best_46 : decode cX10_best 46 = .ok (.invokevirtual 186, 3) := by decide +kernel
theorem dX10_best_49 : decode cX10_best 49 = .ok (.istore_n 3, 1) := by decide +kernel
theorem dX10_best_50 : decode cX10_best 50 = .ok (.iload_n 2, 1) := by decide +kernel
theorem dX10_best_51 : decode cX10_best 51 = .ok (.iconst (-1), 1) := by decide +kernel
theorem dX10_best_52 : decode cX10_best 52 = .ok (.if_icmp .ne 7, 3) := by decide +kernel
theorem dX10_best_55 : decode cX10_best 55 = .ok (.iload_n 3, 1) := by decide +kernel
theorem dX10_best_56 : decode cX10_best 56 = .ok (.goto 9, 3) := by decide +kernel
theorem dX10_best_59 : decode cX10_best 59 = .ok (.aload_n 0, 1) := by decide +kernel
theorem dX10_best_60 : decode cX10_best 60 = .ok (.getfield 65, 3) := by decide +kernel
theorem dX10_best_63 : decode cX10_best 63 = .ok (.iload_n 2, 1) := by decide +kernel
theorem dX10_best_64 : decode cX10_best 64 = .ok (.iaload, 1) := by decide +kernel
theorem dX10_best_65 : decode cX10_best 65 = .ok (.ireturn, 1) := by decide +kernel
set_option maxRecDepth 20000 in
theorem ggX10_safe_X10_all : GoodIn wsX10_safe wsX10_all := goodIn_r _ [6, 1, 46, 47, 48, 49, 50, 51, 52, 53, 54, 55, 56, 57, 58, 59, 60, 61, 62, 63, 64, 65, 66, 67, 68, 69, 70, 71, 72, 73, 74, 75, 76, 77, 78, 79] (by decide +kernel) (by decide +kernel)
set_option maxRecDepth 20000 in
theorem gX10_safe_X10_all : GoodIn wsX10_safe (wsV RX10 162 RX10 yX10_all wsX10_all) := goodIn_app (goodIn_of _ (by decide +kernel)) ggX10_safe_X10_all
set_option maxRecDepth 20000 in
theorem ggX10_safe_X10_firstOrder : GoodIn wsX10_safe wsX10_firstOrder := goodIn_r _ [10, 11, 1, 12, 46, 47, 48, 49, 50, 51, 52, 53, 54, 55, 56, 57, 58, 59, 60, 61, 62, 63, 64, 65, 66, 67, 68, 69, 70, 71, 72, 73, 74, 75, 76, 77, 78, 79] (by decide +kernel) (by decide +kernel)
set_option maxRecDepth 20000 in
theorem gX10_safe_X10_firstOrder : GoodIn wsX10_safe (wsV RX10 178 RX10 yX10_firstOrder wsX10_firstOrder) := goodIn_app (goodIn_of _ (by decide +kernel)) ggX10_safe_X10_firstOrder
set_option maxRecDepth 20000 in
theorem ggX10_safe_X10_isSafe : GoodIn wsX10_safe wsX10_isSafe := goodIn_r _ [16, 17, 11, 1, 18, 19, 20, 21, 22, 23, 24, 5, 25, 26, 27, 12, 28, 29, 30, 31, 32, 33, 34, 35, 36, 37, 46, 47, 48, 49, 50, 51, 52, 53, 54, 55, 56, 57, 58, 59, 60, 61, 62, 63, 64, 65, 66, 67, 68, 69, 70, 71, 72, 73, 74, 75, 76, 77, 78, 79] (by decide +kernel) (by decide +kernel)
set_option maxRecDepth 20000 in
theorem gX10_safe_X10_isSafe : GoodIn wsX10_safe (wsV RX10 169 RX10 yX10_isSafe wsX10_isSafe) := goodIn_app (goodIn_of _ (by decide +kernel)) ggX10_safe_X10_isSafe
set_option maxRecDepth 20000 in
theorem ggX10_safe_X10_nextOrder : GoodIn wsX10_safe wsX10_nextOrder := goodIn_r _ [41, 11, 12, 42, 43, 44, 5, 45, 46, 47, 48, 49, 50, 51, 52, 53, 54, 55, 56, 57, 58, 59, 60, 61, 62, 63, 64, 65, 66, 67, 68, 69, 70, 71, 72, 73, 74, 75, 76, 77, 78, 79] (by decide +kernel) (by decide +kernel)
set_option maxRecDepth 20000 in
theorem gX10_safe_X10_nextOrder : GoodIn wsX10_safe (wsV RX10 182 RX10 yX10_nextOrder wsX10_nextOrder) := goodIn_app (goodIn_of _ (by decide +kernel)) ggX10_safe_X10_nextOrder
theorem dX10_safe_0 : decode cX10_safe 0 = .ok (.aload_n 0, 1) := by decide +kernel
theorem dX10_safe_1 : decode cX10_safe 1 = .ok (.getfield 90, 3) := by decide +kernel
theorem dX10_safe_4 : decode cX10_safe 4 = .ok (.ifCond .ne 6, 3) := by decide +kernel
theorem dX10_safe_7 : decode cX10_safe 7 = .ok (.bipush (-3), 2) := by decide +kernel
theorem dX10_safe_9 : decode cX10_safe 9 = .ok (.ireturn, 1) := by decide +kernel
theorem dX10_safe_10 : decode cX10_safe 10 = .ok (.aload_n 0, 1) := by decide +kernel
theorem dX10_safe_11 : decode cX10_safe 11 = .ok (.aload_n 0, 1) := by decide +kernel
theorem dX10_safe_12 : decode cX10_safe 12 = .ok (.invokevirtual 162, 3) := by decide +kernel
theorem dX10_safe_15 : decode cX10_safe 15 = .ok (.invokevirtual 178, 3) := by decide +kernel
theorem dX10_safe_18 : decode cX10_safe 18 = .ok (.iconst 0, 1) := by decide +kernel
theorem dX10_safe_19 : decode cX10_safe 19 = .ok (.istore_n 1, 1) := by decide +kernel
theorem dX10_safe_20 : decode cX10_safe 20 = .ok (.iconst 1, 1) := by decide +kernel
theorem dX10_safe_21 : decode cX10_safe 21 = .ok (.istore_n 2, 1) := by decide +kernel
theorem dX10_safe_22 : decode cX10_safe 22 = .ok (.iload_n 2, 1) := by decide +kernel
theorem dX10_safe_23 : decode cX10_safe 23 = .ok (.ifCond .eq 30, 3) := by decide +kernel
theorem dX10_safe_26 : decode cX10_safe 26 = .ok (.iload_n 1, 1) := by decide +kernel
theorem dX10_safe_27 : decode cX10_safe 27 = .ok (.aload_n 0, 1) := by decide +kernel
theorem dX10_safe_28 : decode cX10_safe 28 = .ok (.aload_n 0, 1) := by decide +kernel
theorem dX10_safe_29 : decode cX10_safe 29 = .ok (.invokevirtual 162, 3) := by decide +kernel
theorem dX10_safe_32 : decode cX10_safe 32 = .ok (.invokevirtual 169, 3) := by decide +kernel
theorem dX10_safe_35 : decode cX10_safe 35 = .ok (.ifCond .eq 7, 3) := by decide +kernel
theorem dX10_safe_38 : decode cX10_safe 38 = .ok (.iconst 1, 1) := by decide +kernel
theorem dX10_safe_39 : decode cX10_safe 39 = .ok (.goto 4, 3) := by decide +kernel
theorem dX10_safe_42 : decode cX10_safe 42 = .ok (.iconst 0, 1) := by decide +kernel
theorem dX10_safe_43 : decode cX10_safe 43 = .ok (.iadd, 1) := by decide +kernel
theorem dX10_safe_44 : decode cX10_safe 44 = .ok (.istore_n 1, 1) := by decide +kernel
theorem dX10_safe_45 : decode cX10_safe 45 = .ok (.aload_n 0, 1) := by decide +kernel
theorem dX10_safe_46 : decode cX10_safe 46 = .ok (.invokevirtual 182, 3) := by decide +kernel
theorem dX10_safe_49 : decode cX10_safe 49 = .ok (.istore_n 2, 1) := by decide +kernel
theorem dX10_safe_50 : decode cX10_safe 50 = .ok (.goto (-28), 3) := by decide +kernel
theorem dX10_safe_53 : decode cX10_safe 53 = .ok (.iload_n 1, 1) := by decide +kernel
theorem dX10_safe_54 : decode cX10_safe 54 = .ok (.ireturn, 1) := by decide +kernel
set_option maxRecDepth 20000 in
theorem ggX10_canBeSafe_X10_firstOrder : GoodIn wsX10_canBeSafe wsX10_firstOrder := goodIn_r _ [5, 6, 7, 8, 42, 43, 44, 45, 46, 47, 48, 49, 50, 51, 52, 53, 54, 55, 56, 57, 58, 59, 60, 61, 62, 63, 64, 65, 66, 67, 68, 69, 70, 71, 72, 73, 74, 75] (by decide +kernel) (by decide +kernel)
set_option maxRecDepth 20000 in
theorem gX10_canBeSafe_X10_firstOrder : GoodIn wsX10_canBeSafe (wsV RX10 178 RX10 yX10_firstOrder wsX10_firstOrder) := goodIn_app (goodIn_of _ (by decide +kernel)) ggX10_canBeSafe_X10_firstOrder
set_option maxRecDepth 20000 in
theorem ggX10_canBeSafe_X10_isSafe : GoodIn wsX10_canBeSafe wsX10_isSafe := goodIn_r _ [12, 13, 6, 7, 14, 15, 16, 17, 18, 19, 20, 4, 21, 22, 23, 8, 24, 25, 26, 27, 28, 29, 30, 31, 32, 33, 42, 43, 44, 45, 46, 47, 48, 49, 50, 51, 52, 53, 54, 55, 56, 57, 58, 59, 60, 61, 62, 63, 64, 65, 66, 67, 68, 69, 70, 71, 72, 73, 74, 75] (by decide +kernel) (by decide +kernel)
set_option maxRecDepth 20000 in
theorem gX10_canBeSafe_X10_isSafe : GoodIn wsX10_canBeSafe (wsV RX10 169 RX10 yX10_isSafe wsX10_isSafe) := goodIn_app (goodIn_of _ (by decide +kernel)) ggX10_canBeSafe_X10_isSafe
set_option maxRecDepth 20000 in
theorem ggX10_canBeSafe_X10_nextOrder : GoodIn wsX10_canBeSafe wsX10_nextOrder := goodIn_r _ [37, 6, 8, 38, 39, 40, 4, 41, 42, 43, 44, 45, 46, 47, 48, 49, 50, 51, 52, 53, 54, 55, 56, 57, 58, 59, 60, 61, 62, 63, 64, 65, 66, 67, 68, 69, 70, 71, 72, 73, 74, 75] (by decide +kernel) (by decide +kernel)
set_option maxRecDepth 20000 in
theorem gX10_canBeSafe_X10_nextOrder : GoodIn wsX10_canBeSafe (wsV RX10 182 RX10 yX10_nextOrder wsX10_nextOrder) := goodIn_app (goodIn_of _ (by decide +kernel)) ggX10_canBeSafe_X10_nextOrder
theorem dX10_canBeSafe_0 : decode cX10_canBeSafe 0 = .ok (.aload_n 0, 1) := by decide +kernel
theorem dX10_canBeSafe_1 : decode cX10_canBeSafe 1 = .ok (.iload_n 1, 1) := by decide +kernel
theorem dX10_canBeSafe_2 : decode cX10_canBeSafe 2 = .ok (.invokevirtual 178, 3) := by decide +kernel
theorem dX10_canBeSafe_5 : decode cX10_canBeSafe 5 = .ok (.iconst 1, 1) := by decide +kernel
theorem dX10_canBeSafe_6 : decode cX10_canBeSafe 6 = .ok (.istore_n 2, 1) := by decide +kernel
theorem dX10_canBeSafe_7 : decode cX10_canBeSafe 7 = .ok (.iload_n 2, 1) := by decide +kernel
theorem dX10_canBeSafe_8 : decode cX10_canBeSafe 8 = .ok (.ifCond .eq 21, 3) := by decide +kernel
theorem dX10_canBeSafe_11 : decode cX10_canBeSafe 11 = .ok (.aload_n 0, 1) := by decide +kernel
theorem dX10_canBeSafe_12 : decode cX10_canBeSafe 12 = .ok (.iload_n 1, 1) := by decide +kernel
theorem dX10_canBeSafe_13 : decode cX10_canBeSafe 13 = .ok (.invokevirtual 169, 3) := by decide +kernel
theorem dX10_canBeSafe_16 : decode cX10_canBeSafe 16 = .ok (.ifCond .eq 5, 3) := by decide +kernel
theorem dX10_canBeSafe_19 : decode cX10_canBeSafe 19 = .ok (.iconst 1, 1) := by decide +kernel
theorem dX10_canBeSafe_20 : decode cX10_canBeSafe 20 = .ok (.ireturn, 1) := by decide +kernel
theorem dX10_canBeSafe_21 : decode cX10_canBeSafe 21 = .ok (.aload_n 0, 1) := by decide +kernel
theorem dX10_canBeSafe_22 : decode cX10_canBeSafe 22 = .ok (.invokevirtual 182, 3) := by decide +kernel
theorem dX10_canBeSafe_25 : decode cX10_canBeSafe 25 = .ok (.istore_n 2, 1) := by decide +kernel
theorem dX10_canBeSafe_26 : decode cX10_canBeSafe 26 = .ok (.goto (-19), 3) := by decide +kernel
theorem dX10_canBeSafe_29 : decode cX10_canBeSafe 29 = .ok (.iconst 0, 1) := by decide +kernel
theorem dX10_canBeSafe_30 : decode cX10_canBeSafe 30 = .ok (.ireturn, 1) := by decide +kernel
theorem dX10_size_0 : decode cX10_size 0 = .ok (.iconst 0, 1) := by decide +kernel
theorem dX10_size_1 : decode cX10_size 1 = .ok (.istore_n 1, 1) := by decide +kernel
theorem dX10_size_2 : decode cX10_size 2 = .ok (.iload_n 0, 1) := by decide +kernel
theorem dX10_size_3 : decode cX10_size 3 = .ok (.istore_n 2, 1) := by decide +kernel
theorem dX10_size_4 : decode cX10_size 4 = .ok (.iload_n 2, 1) := by decide +kernel
theorem dX10_size_5 : decode cX10_size 5 = .ok (.ifCond .le 16, 3) := by decide +kernel
theorem dX10_size_8 : decode cX10_size 8 = .ok (.iload_n 1, 1) := by decide +kernel
theorem dX10_size_9 : decode cX10_size 9 = .ok (.iload_n 2, 1) := by decide +kernel
theorem dX10_size_10 : decode cX10_size 10 = .ok (.iconst 1, 1) := by decide +kernel
theorem dX10_size_11 : decode cX10_size 11 = .ok (.iand, 1) := by decide +kernel
theorem dX10_size_12 : decode cX10_size 12 = .ok (.iadd, 1) := by decide +kernel
theorem dX10_size_13 : decode cX10_size 13 = .ok (.istore_n 1, 1) := by decide +kernel
theorem dX10_size_14 : decode cX10_size 14 = .ok (.iload_n 2, 1) := by decide +kernel
theorem dX10_size_15 : decode cX10_size 15 = .ok (.iconst 1, 1) := by decide +kernel
theorem dX10_size_16 : decode cX10_size 16 = .ok (.ishr, 1) := by decide +kernel
theorem dX10_size_17 : decode cX10_size 17 = .ok (.istore_n 2, 1) := by decide +kernel
theorem dX10_size_18 : decode cX10_size 18 = .ok (.goto (-14), 3) := by decide +kernel
theorem dX10_size_21 : decode cX10_size 21 = .ok (.iload_n 1, 1) := by decide +kernel
theorem dX10_size_22 : decode cX10_size 22 = .ok (.ireturn, 1) := by decide +kernel
set_option maxRecDepth 20000 in
theorem ggX10_letGo_X10_all : GoodIn wsX10_letGo wsX10_all := goodIn_r _ [6, 1, 53, 54, 55, 56, 57, 58, 59, 60, 61, 62, 63, 64, 65, 66, 67, 68, 69, 70, 71, 72, 73, 74, 75, 76, 77, 78, 79, 80, 81, 82, 83, 84, 85, 86] (by decide +kernel) (by decide +kernel)
set_option maxRecDepth 20000 in
theorem gX10_letGo_X10_all : GoodIn wsX10_letGo (wsV RX10 162 RX10 yX10_all wsX10_all) := goodIn_app (goodIn_of _ (by decide +kernel)) ggX10_letGo_X10_all
set_option maxRecDepth 20000 in
theorem ggX10_letGo_X10_size : GoodIn wsX10_letGo wsX10_size := goodIn_r _ [9] (by decide +kernel) (by decide +kernel)
set_option maxRecDepth 20000 in
theorem gX10_letGo_X10_size : GoodIn wsX10_letGo (va_wsS RX10 189 yX10_size wsX10_size) := goodIn_app (goodIn_of _ (by decide +kernel)) ggX10_letGo_X10_size
set_option maxRecDepth 20000 in
theorem ggX10_letGo_X10_canBeSafe : GoodIn wsX10_letGo wsX10_canBeSafe := goodIn_r _ [13, 14, 15, 16, 5, 17, 18, 1, 19, 20, 21, 22, 23, 24, 25, 26, 27, 28, 29, 30, 31, 32, 33, 34, 35, 36, 37, 38, 39, 40, 41, 42, 43, 44, 45, 46, 47, 48, 49, 50, 51, 52, 53, 54, 55, 56, 57, 58, 59, 60, 61, 62, 63, 64, 65, 66, 67, 68, 69, 70, 71, 72, 73, 74, 75, 76, 77, 78, 79, 80, 81, 82, 83, 84, 85, 86] (by decide +kernel) (by decide +kernel)
set_option maxRecDepth 20000 in
theorem gX10_letGo_X10_canBeSafe : GoodIn wsX10_letGo (wsV RX10 192 RX10 yX10_canBeSafe wsX10_canBeSafe) := goodIn_app (goodIn_of _ (by decide +kernel)) ggX10_letGo_X10_canBeSafe
theorem dX10_letGo_0 : decode cX10_letGo 0 = .ok (.aload_n 0, 1) := by decide +kernel
theorem dX10_letGo_1 : decode cX10_letGo 1 = .ok (.getfield 90, 3) := by decide +kernel
theorem dX10_letGo_4 : decode cX10_letGo 4 = .ok (.ifCond .ne 6, 3) := by decide +kernel
theorem dX10_letGo_7 : decode cX10_letGo 7 = .ok (.bipush (-3), 2) := by decide +kernel
theorem dX10_letGo_9 : decode cX10_letGo 9 = .ok (.ireturn, 1) := by decide +kernel
theorem dX10_letGo_10 : decode cX10_letGo 10 = .ok (.aload_n 0, 1) := by decide +kernel
theorem dX10_letGo_11 : decode cX10_letGo 11 = .ok (.invokevirtual 162, 3) := by decide +kernel
theorem dX10_letGo_14 : decode cX10_letGo 14 = .ok (.istore_n 1, 1) := by decide +kernel
theorem dX10_letGo_15 : decode cX10_letGo 15 = .ok (.aload_n 0, 1) := by decide +kernel
theorem dX10_letGo_16 : decode cX10_letGo 16 = .ok (.invokevirtual 162, 3) := by decide +kernel
theorem dX10_letGo_19 : decode cX10_letGo 19 = .ok (.istore_n 2, 1) := by decide +kernel
theorem dX10_letGo_20 : decode cX10_letGo 20 = .ok (.iload_n 2, 1) := by decide +kernel
theorem dX10_letGo_21 : decode cX10_letGo 21 = .ok (.ifCond .lt 39, 3) := by decide +kernel
theorem dX10_letGo_24 : decode cX10_letGo 24 = .ok (.iload_n 2, 1) := by decide +kernel
theorem dX10_letGo_25 : decode cX10_letGo 25 = .ok (.invokestatic 189, 3) := by decide +kernel
theorem dX10_letGo_28 : decode cX10_letGo 28 = .ok (.iload_n 1, 1) := by decide +kernel
theorem dX10_letGo_29 : decode cX10_letGo 29 = .ok (.invokestatic 189, 3) := by decide +kernel
theorem dX10_letGo_32 : decode cX10_letGo 32 = .ok (.if_icmp .gt 20, 3) := by decide +kernel
theorem dX10_letGo_35 : decode cX10_letGo 35 = .ok (.aload_n 0, 1) := by decide +kernel
theorem dX10_letGo_36 : decode cX10_letGo 36 = .ok (.aload_n 0, 1) := by decide +kernel
theorem dX10_letGo_37 : decode cX10_letGo 37 = .ok (.invokevirtual 162, 3) := by decide +kernel
theorem dX10_letGo_40 : decode cX10_letGo 40 = .ok (.iload_n 2, 1) := by decide +kernel
theorem dX10_letGo_41 : decode cX10_letGo 41 = .ok (.isub, 1) := by decide +kernel
theorem dX10_letGo_42 : decode cX10_letGo 42 = .ok (.invokevirtual 192, 3) := by decide +kernel
theorem dX10_letGo_45 : decode cX10_letGo 45 = .ok (.ifCond .eq 7, 3) := by decide +kernel
theorem dX10_letGo_48 : decode cX10_letGo 48 = .ok (.iload_n 2, 1) := by decide +kernel
theorem dX10_letGo_49 : decode cX10_letGo 49 = .ok (.goto 4, 3) := by decide +kernel
theorem dX10_letGo_52 : decode cX10_letGo 52 = .ok (.iload_n 1, 1) := by decide +kernel
theorem dX10_letGo_53 : decode cX10_letGo 53 = .ok (.istore_n 1, 1) := by decide +kernel
theorem dX10_letGo_54 : decode cX10_letGo 54 = .ok (.iinc 2 (-1), 3) := by decide +kernel
theorem dX10_letGo_57 : decode cX10_letGo 57 = .ok (.goto (-37), 3) := by decide +kernel
theorem dX10_letGo_60 : decode cX10_letGo 60 = .ok (.iload_n 1, 1) := by decide +kernel
theorem dX10_letGo_61 : decode cX10_letGo 61 = .ok (.ireturn, 1) := by decide +kernel
set_option maxRecDepth 20000 in
theorem ggX10_two_X10_within : GoodIn wsX10_two wsX10_within := goodIn_r _ [6] (by decide +kernel) (by decide +kernel)
set_option maxRecDepth 20000 in
theorem gX10_two_X10_within : GoodIn wsX10_two (va_wsS RX10 86 yX10_within wsX10_within) := goodIn_app (goodIn_of _ (by decide +kernel)) ggX10_two_X10_within
set_option maxRecDepth 20000 in
theorem ggX10_two_X10_all : GoodIn wsX10_two wsX10_all := goodIn_r _ [10, 1, 60, 61, 62, 63, 64, 65, 66, 67, 68, 69, 70, 71, 72, 73, 74, 75, 76, 77, 78, 79, 80, 81, 82, 83, 84, 85, 86, 87, 88, 89, 90, 91, 92, 93] (by decide +kernel) (by decide +kernel)
set_option maxRecDepth 20000 in
theorem gX10_two_X10_all : GoodIn wsX10_two (wsV RX10 162 RX10 yX10_all wsX10_all) := goodIn_app (goodIn_of _ (by decide +kernel)) ggX10_two_X10_all
set_option maxRecDepth 20000 in
theorem ggX10_two_X10_leastHarm : GoodIn wsX10_two wsX10_leastHarm := goodIn_r _ [14, 15, 16, 17, 18, 19, 20, 5, 21, 1, 22, 23, 24, 25, 26, 27, 28, 29, 30, 31, 32, 33, 34, 35, 36, 37, 38, 39, 40, 41, 42, 43, 44, 45, 46, 47, 48, 49, 50, 51, 52, 53, 54, 55, 56, 57, 58, 59, 60, 61, 62, 63, 64, 65, 66, 67, 68, 69, 70, 71, 72, 73, 74, 75, 76, 77, 78, 79, 80, 81, 82, 83, 84, 85, 86, 87, 88, 89, 90, 91, 92, 93] (by decide +kernel) (by decide +kernel)
set_option maxRecDepth 20000 in
theorem gX10_two_X10_leastHarm : GoodIn wsX10_two (wsV RX10 186 RX10 yX10_leastHarm wsX10_leastHarm) := goodIn_app (goodIn_of _ (by decide +kernel)) ggX10_two_X10_leastHarm
theorem dX10_two_0 : decode cX10_two 0 = .ok (.aload_n 0, 1) := by decide +kernel
theorem dX10_two_1 : decode cX10_two 1 = .ok (.getfield 90, 3) := by decide +kernel
theorem dX10_two_4 : decode cX10_two 4 = .ok (.ifCond .ne 6, 3) := by decide +kernel
theorem dX10_two_7 : decode cX10_two 7 = .ok (.bipush (-3), 2) := by decide +kernel
theorem dX10_two_9 : decode cX10_two 9 = .ok (.ireturn, 1) := by decide +kernel
theorem dX10_two_10 : decode cX10_two 10 = .ok (.iload_n 1, 1) := by decide +kernel
theorem dX10_two_11 : decode cX10_two 11 = .ok (.iconst 1, 1) := by decide +kernel
theorem dX10_two_12 : decode cX10_two 12 = .ok (.sipush 300, 3) := by decide +kernel
theorem dX10_two_15 : decode cX10_two 15 = .ok (.invokestatic 86, 3) := by decide +kernel
theorem dX10_two_18 : decode cX10_two 18 = .ok (.ifCond .eq 12, 3) := by decide +kernel
theorem dX10_two_21 : decode cX10_two 21 = .ok (.iload_n 2, 1) := by decide +kernel
theorem dX10_two_22 : decode cX10_two 22 = .ok (.iconst 0, 1) := by decide +kernel
theorem dX10_two_23 : decode cX10_two 23 = .ok (.iconst 1, 1) := by decide +kernel
theorem dX10_two_24 : decode cX10_two 24 = .ok (.invokestatic 86, 3) := by decide +kernel
theorem dX10_two_27 : decode cX10_two 27 = .ok (.ifCond .ne 6, 3) := by decide +kernel
theorem dX10_two_30 : decode cX10_two 30 = .ok (.bipush (-2), 2) := by decide +kernel
theorem dX10_two_32 : decode cX10_two 32 = .ok (.ireturn, 1) := by decide +kernel
theorem dX10_two_33 : decode cX10_two 33 = .ok (.iconst 0, 1) := by decide +kernel
theorem dX10_two_34 : decode cX10_two 34 = .ok (.istore_n 3, 1) := by decide +kernel
theorem dX10_two_35 : decode cX10_two 35 = .ok (.iload_n 3, 1) := by decide +kernel
theorem dX10_two_36 : decode cX10_two 36 = .ok (.aload_n 0, 1) := by decide +kernel
theorem dX10_two_37 : decode cX10_two 37 = .ok (.invokevirtual 162, 3) := by decide +kernel
theorem dX10_two_40 : decode cX10_two 40 = .ok (.if_icmp .gt 21, 3) := by decide +kernel
theorem dX10_two_43 : decode cX10_two 43 = .ok (.aload_n 0, 1) := by decide +kernel
theorem dX10_two_44 : decode cX10_two 44 = .ok (.getfield 68, 3) := by decide +kernel
theorem dX10_two_47 : decode cX10_two 47 = .ok (.iload_n 3, 1) := by decide +kernel
theorem dX10_two_48 : decode cX10_two 48 = .ok (.aload_n 0, 1) := by decide +kernel
theorem dX10_two_49 : decode cX10_two 49 = .ok (.iload_n 3, 1) := by decide +kernel
theorem dX10_two_50 : decode cX10_two 50 = .ok (.iload_n 1, 1) := by decide +kernel
theorem dX10_two_51 : decode cX10_two 51 = .ok (.invokevirtual 186, 3) := by decide +kernel
theorem dX10_two_54 : decode cX10_two 54 = .ok (.iastore, 1) := by decide +kernel
theorem dX10_two_55 : decode cX10_two 55 = .ok (.iinc 3 1, 3) := by decide +kernel
theorem dX10_two_58 : decode cX10_two 58 = .ok (.goto (-23), 3) := by decide +kernel
theorem dX10_two_61 : decode cX10_two 61 = .ok (.iconst 0, 1) := by decide +kernel
theorem dX10_two_62 : decode cX10_two 62 = .ok (.istore_n 3, 1) := by decide +kernel
theorem dX10_two_63 : decode cX10_two 63 = .ok (.iconst 1, 1) := by decide +kernel
theorem dX10_two_64 : decode cX10_two 64 = .ok (.istore 4, 2) := by decide +kernel
theorem dX10_two_66 : decode cX10_two 66 = .ok (.iload 4, 2) := by decide +kernel
theorem dX10_two_68 : decode cX10_two 68 = .ok (.aload_n 0, 1) := by decide +kernel
theorem dX10_two_69 : decode cX10_two 69 = .ok (.invokevirtual 162, 3) := by decide +kernel
theorem dX10_two_72 : decode cX10_two 72 = .ok (.if_icmp .gt 57, 3) := by decide +kernel
theorem dX10_two_75 : decode cX10_two 75 = .ok (.aload_n 0, 1) := by decide +kernel
theorem dX10_two_76 : decode cX10_two 76 = .ok (.getfield 68, 3) := by decide +kernel
theorem dX10_two_79 : decode cX10_two 79 = .ok (.iload 4, 2) := by decide +kernel
theorem dX10_two_81 : decode cX10_two 81 = .ok (.iaload, 1) := by decide +kernel
theorem dX10_two_82 : decode cX10_two 82 = .ok (.aload_n 0, 1) := by decide +kernel
theorem dX10_two_83 : decode cX10_two 83 = .ok (.getfield 68, 3) := by decide +kernel
theorem dX10_two_86 : decode cX10_two 86 = .ok (.aload_n 0, 1) := by decide +kernel
theorem dX10_two_87 : decode cX10_two 87 = .ok (.invokevirtual 162, 3) := by decide +kernel
theorem dX10_two_90 : decode cX10_two 90 = .ok (.iload 4, 2) := by decide +kernel
theorem dX10_two_92 : decode cX10_two 92 = .ok (.isub, 1) := by decide +kernel
theorem dX10_two_93 : decode cX10_two 93 = .ok (.iaload, 1) := by decide +kernel
theorem dX10_two_94 : decode cX10_two 94 = .ok (.iadd, 1) := by decide +kernel
theorem dX10_two_95 : decode cX10_two 95 = .ok (.aload_n 0, 1) := by decide +kernel
theorem dX10_two_96 : decode cX10_two 96 = .ok (.getfield 68, 3) := by decide +kernel
theorem dX10_two_99 : decode cX10_two 99 = .ok (.iload_n 3, 1) := by decide +kernel
theorem dX10_two_100 : decode cX10_two 100 = .ok (.iaload, 1) := by decide +kernel
theorem dX10_two_101 : decode cX10_two 101 = .ok (.aload_n 0, 1) := by decide +kernel
theorem dX10_two_102 : decode cX10_two 102 = .ok (.getfield 68, 3) := by decide +kernel
theorem dX10_two_105 : decode cX10_two 105 = .ok (.aload_n 0, 1) := by decide +kernel
theorem dX10_two_106 : decode cX10_two 106 = .ok (.invokevirtual 162, 3) := by decide +kernel
theorem dX10_two_109 : decode cX10_two 109 = .ok (.iload_n 3, 1) := by decide +kernel
theorem dX10_two_110 : decode cX10_two 110 = .ok (.isub, 1) := by decide +kernel
theorem dX10_two_111 : decode cX10_two 111 = .ok (.iaload, 1) := by decide +kernel
theorem dX10_two_112 : decode cX10_two 112 = .ok (.iadd, 1) := by decide +kernel
theorem dX10_two_113 : decode cX10_two 113 = .ok (.if_icmp .ge 8, 3) := by decide +kernel
theorem dX10_two_116 : decode cX10_two 116 = .ok (.iload 4, 2) := by decide +kernel
theorem dX10_two_118 : decode cX10_two 118 = .ok (.goto 4, 3) := by decide +kernel
theorem dX10_two_121 : decode cX10_two 121 = .ok (.iload_n 3, 1) := by decide +kernel
theorem dX10_two_122 : decode cX10_two 122 = .ok (.istore_n 3, 1) := by decide +kernel
theorem dX10_two_123 : decode cX10_two 123 = .ok (.iinc 4 1, 3) := by decide +kernel
theorem dX10_two_126 : decode cX10_two 126 = .ok (.goto (-60), 3) := by decide +kernel
theorem dX10_two_129 : decode cX10_two 129 = .ok (.iload_n 2, 1) := by decide +kernel
theorem dX10_two_130 : decode cX10_two 130 = .ok (.ifCond .ne 7, 3) := by decide +kernel
theorem dX10_two_133 : decode cX10_two 133 = .ok (.iload_n 3, 1) := by decide +kernel
theorem dX10_two_134 : decode cX10_two 134 = .ok (.goto 21, 3) := by decide +kernel
theorem dX10_two_137 : decode cX10_two 137 = .ok (.aload_n 0, 1) := by decide +kernel
theorem dX10_two_138 : decode cX10_two 138 = .ok (.getfield 68, 3) := by decide +kernel
theorem dX10_two_141 : decode cX10_two 141 = .ok (.iload_n 3, 1) := by decide +kernel
theorem dX10_two_142 : decode cX10_two 142 = .ok (.iaload, 1) := by decide +kernel
theorem dX10_two_143 : decode cX10_two 143 = .ok (.aload_n 0, 1) := by decide +kernel
theorem dX10_two_144 : decode cX10_two 144 = .ok (.getfield 68, 3) := by decide +kernel
theorem dX10_two_147 : decode cX10_two 147 = .ok (.aload_n 0, 1) := by decide +kernel
theorem dX10_two_148 : decode cX10_two 148 = .ok (.invokevirtual 162, 3) := by decide +kernel
theorem dX10_two_151 : decode cX10_two 151 = .ok (.iload_n 3, 1) := by decide +kernel
theorem dX10_two_152 : decode cX10_two 152 = .ok (.isub, 1) := by decide +kernel
theorem dX10_two_153 : decode cX10_two 153 = .ok (.iaload, 1) := by decide +kernel
theorem dX10_two_154 : decode cX10_two 154 = .ok (.iadd, 1) := by decide +kernel
theorem dX10_two_155 : decode cX10_two 155 = .ok (.ireturn, 1) := by decide +kernel
set_option maxRecDepth 20000 in
theorem ggX10_site_X10_within : GoodIn wsX10_site wsX10_within := goodIn_r _ [6] (by decide +kernel) (by decide +kernel)
set_option maxRecDepth 20000 in
theorem gX10_site_X10_within : GoodIn wsX10_site (va_wsS RX10 86 yX10_within wsX10_within) := goodIn_app (goodIn_of _ (by decide +kernel)) ggX10_site_X10_within
set_option maxRecDepth 20000 in
theorem ggX10_site_X10_all : GoodIn wsX10_site wsX10_all := goodIn_r _ [10, 1, 59, 60, 61, 62, 63, 64, 65, 66, 67, 68, 69, 70, 71, 72, 73, 74, 75, 76, 77, 78, 79, 80, 81, 82, 83, 84, 85, 86, 87, 88, 89, 90, 91, 92] (by decide +kernel) (by decide +kernel)
set_option maxRecDepth 20000 in
theorem gX10_site_X10_all : GoodIn wsX10_site (wsV RX10 162 RX10 yX10_all wsX10_all) := goodIn_app (goodIn_of _ (by decide +kernel)) ggX10_site_X10_all
set_option maxRecDepth 20000 in
theorem ggX10_site_X10_leastHarm : GoodIn wsX10_site wsX10_leastHarm := goodIn_r _ [14, 15, 16, 17, 18, 19, 20, 5, 21, 1, 22, 23, 24, 25, 26, 27, 28, 29, 30, 31, 2, 32, 33, 34, 35, 36, 37, 38, 39, 40, 41, 42, 43, 44, 45, 46, 47, 48, 49, 50, 51, 52, 53, 54, 55, 56, 57, 58, 59, 60, 61, 62, 63, 64, 65, 66, 67, 68, 69, 70, 71, 72, 73, 74, 75, 76, 77, 78, 79, 80, 81, 82, 83, 84, 85, 86, 87, 88, 89, 90, 91, 92] (by decide +kernel) (by decide +kernel)
set_option maxRecDepth 20000 in
theorem gX10_site_X10_leastHarm : GoodIn wsX10_site (wsV RX10 186 RX10 yX10_leastHarm wsX10_leastHarm) := goodIn_app (goodIn_of _ (by decide +kernel)) ggX10_site_X10_leastHarm
theorem dX10_site_0 : decode cX10_site 0 = .ok (.aload_n 0, 1) := by decide +kernel
theorem dX10_site_1 : decode cX10_site 1 = .ok (.getfield 90, 3) := by decide +kernel
theorem dX10_site_4 : decode cX10_site 4 = .ok (.ifCond .ne 6, 3) := by decide +kernel
theorem dX10_site_7 : decode cX10_site 7 = .ok (.bipush (-3), 2) := by decide +kernel
theorem dX10_site_9 : decode cX10_site 9 = .ok (.ireturn, 1) := by decide +kernel
theorem dX10_site_10 : decode cX10_site 10 = .ok (.iload_n 1, 1) := by decide +kernel
theorem dX10_site_11 : decode cX10_site 11 = .ok (.iconst 1, 1) := by decide +kernel
theorem dX10_site_12 : decode cX10_site 12 = .ok (.sipush 300, 3) := by decide +kernel
theorem dX10_site_15 : decode cX10_site 15 = .ok (.invokestatic 86, 3) := by decide +kernel
theorem dX10_site_18 : decode cX10_site 18 = .ok (.ifCond .eq 12, 3) := by decide +kernel
theorem dX10_site_21 : decode cX10_site 21 = .ok (.iload_n 2, 1) := by decide +kernel
theorem dX10_site_22 : decode cX10_site 22 = .ok (.iconst 0, 1) := by decide +kernel
theorem dX10_site_23 : decode cX10_site 23 = .ok (.iconst 1, 1) := by decide +kernel
theorem dX10_site_24 : decode cX10_site 24 = .ok (.invokestatic 86, 3) := by decide +kernel
theorem dX10_site_27 : decode cX10_site 27 = .ok (.ifCond .ne 6, 3) := by decide +kernel
theorem dX10_site_30 : decode cX10_site 30 = .ok (.bipush (-2), 2) := by decide +kernel
theorem dX10_site_32 : decode cX10_site 32 = .ok (.ireturn, 1) := by decide +kernel
theorem dX10_site_33 : decode cX10_site 33 = .ok (.aload_n 0, 1) := by decide +kernel
theorem dX10_site_34 : decode cX10_site 34 = .ok (.getfield 117, 3) := by decide +kernel
theorem dX10_site_37 : decode cX10_site 37 = .ok (.istore_n 3, 1) := by decide +kernel
theorem dX10_site_38 : decode cX10_site 38 = .ok (.bipush (-9), 2) := by decide +kernel
theorem dX10_site_40 : decode cX10_site 40 = .ok (.istore 4, 2) := by decide +kernel
theorem dX10_site_42 : decode cX10_site 42 = .ok (.bipush (-9), 2) := by decide +kernel
theorem dX10_site_44 : decode cX10_site 44 = .ok (.istore 5, 2) := by decide +kernel
theorem dX10_site_46 : decode cX10_site 46 = .ok (.aload_n 0, 1) := by decide +kernel
theorem dX10_site_47 : decode cX10_site 47 = .ok (.iconst 0, 1) := by decide +kernel
theorem dX10_site_48 : decode cX10_site 48 = .ok (.putfield 117, 3) := by decide +kernel
theorem dX10_site_51 : decode cX10_site 51 = .ok (.aload_n 0, 1) := by decide +kernel
theorem dX10_site_52 : decode cX10_site 52 = .ok (.getfield 117, 3) := by decide +kernel
theorem dX10_site_55 : decode cX10_site 55 = .ok (.bipush 9, 2) := by decide +kernel
theorem dX10_site_57 : decode cX10_site 57 = .ok (.if_icmp .gt 51, 3) := by decide +kernel
theorem dX10_site_60 : decode cX10_site 60 = .ok (.aload_n 0, 1) := by decide +kernel
theorem dX10_site_61 : decode cX10_site 61 = .ok (.aload_n 0, 1) := by decide +kernel
theorem dX10_site_62 : decode cX10_site 62 = .ok (.invokevirtual 162, 3) := by decide +kernel
theorem dX10_site_65 : decode cX10_site 65 = .ok (.iload_n 1, 1) := by decide +kernel
theorem dX10_site_66 : decode cX10_site 66 = .ok (.invokevirtual 186, 3) := by decide +kernel
theorem dX10_site_69 : decode cX10_site 69 = .ok (.istore 6, 2) := by decide +kernel
theorem dX10_site_71 : decode cX10_site 71 = .ok (.iload 4, 2) := by decide +kernel
theorem dX10_site_73 : decode cX10_site 73 = .ok (.bipush (-9), 2) := by decide +kernel
theorem dX10_site_75 : decode cX10_site 75 = .ok (.if_icmp .eq 10, 3) := by decide +kernel
theorem dX10_site_78 : decode cX10_site 78 = .ok (.iload 6, 2) := by decide +kernel
theorem dX10_site_80 : decode cX10_site 80 = .ok (.iload 5, 2) := by decide +kernel
theorem dX10_site_82 : decode cX10_site 82 = .ok (.if_icmp .ge 13, 3) := by decide +kernel
theorem dX10_site_85 : decode cX10_site 85 = .ok (.aload_n 0, 1) := by decide +kernel
theorem dX10_site_86 : decode cX10_site 86 = .ok (.getfield 117, 3) := by decide +kernel
theorem dX10_site_89 : decode cX10_site 89 = .ok (.istore 4, 2) := by decide +kernel
theorem dX10_site_91 : decode cX10_site 91 = .ok (.iload 6, 2) := by decide +kernel
theorem dX10_site_93 : decode cX10_site 93 = .ok (.istore 5, 2) := by decide +kernel
theorem dX10_site_95 : decode cX10_site 95 = .ok (.aload_n 0, 1) := by decide +kernel
theorem dX10_site_96 : decode cX10_site 96 = .ok (.dup, 1) := by decide +kernel
theorem dX10_site_97 : decode cX10_site 97 = .ok (.getfield 117, 3) := by decide +kernel
theorem dX10_site_100 : decode cX10_site 100 = .ok (.iconst 1, 1) := by decide +kernel
theorem dX10_site_101 : decode cX10_site 101 = .ok (.iadd, 1) := by decide +kernel
theorem dX10_site_102 : decode cX10_site 102 = .ok (.putfield 117, 3) := by decide +kernel
theorem dX10_site_105 : decode cX10_site 105 = .ok (.goto (-54), 3) := by decide +kernel
theorem dX10_site_108 : decode cX10_site 108 = .ok (.aload_n 0, 1) := by decide +kernel
theorem dX10_site_109 : decode cX10_site 109 = .ok (.iload_n 3, 1) := by decide +kernel
theorem dX10_site_110 : decode cX10_site 110 = .ok (.putfield 117, 3) := by decide +kernel
theorem dX10_site_113 : decode cX10_site 113 = .ok (.iload_n 2, 1) := by decide +kernel
theorem dX10_site_114 : decode cX10_site 114 = .ok (.ifCond .ne 8, 3) := by decide +kernel
theorem dX10_site_117 : decode cX10_site 117 = .ok (.iload 4, 2) := by decide +kernel
theorem dX10_site_119 : decode cX10_site 119 = .ok (.goto 5, 3) := by decide +kernel
theorem dX10_site_122 : decode cX10_site 122 = .ok (.iload 5, 2) := by decide +kernel
theorem dX10_site_124 : decode cX10_site 124 = .ok (.ireturn, 1) := by decide +kernel
set_option maxRecDepth 20000 in
theorem ggX10_reading_X10_isThing : GoodIn wsX10_reading wsX10_isThing := goodIn_r _ [9, 10, 14, 15, 16, 17, 18, 19, 20, 21, 22, 23, 24, 25, 26, 27, 28, 29, 30, 31, 32, 33, 34, 35, 36, 37, 38, 39, 40, 41, 42, 43, 44, 45, 46, 47] (by decide +kernel) (by decide +kernel)
set_option maxRecDepth 20000 in
theorem gX10_reading_X10_isThing : GoodIn wsX10_reading (wsV RX10 136 RX10 yX10_isThing wsX10_isThing) := goodIn_app (goodIn_of _ (by decide +kernel)) ggX10_reading_X10_isThing
set_option maxRecDepth 20000 in
theorem ggX10_reading_X10_within : GoodIn wsX10_reading wsX10_within := goodIn_r _ [13] (by decide +kernel) (by decide +kernel)
set_option maxRecDepth 20000 in
theorem gX10_reading_X10_within : GoodIn wsX10_reading (va_wsS RX10 86 yX10_within wsX10_within) := goodIn_app (goodIn_of _ (by decide +kernel)) ggX10_reading_X10_within
theorem dX10_reading_0 : decode cX10_reading 0 = .ok (.aload_n 0, 1) := by decide +kernel
theorem dX10_reading_1 : decode cX10_reading 1 = .ok (.iload_n 1, 1) := by decide +kernel
theorem dX10_reading_2 : decode cX10_reading 2 = .ok (.invokevirtual 136, 3) := by decide +kernel
theorem dX10_reading_5 : decode cX10_reading 5 = .ok (.ifCond .ne 5, 3) := by decide +kernel
theorem dX10_reading_8 : decode cX10_reading 8 = .ok (.iconst (-1), 1) := by decide +kernel
theorem dX10_reading_9 : decode cX10_reading 9 = .ok (.ireturn, 1) := by decide +kernel
theorem dX10_reading_10 : decode cX10_reading 10 = .ok (.iload_n 2, 1) := by decide +kernel
theorem dX10_reading_11 : decode cX10_reading 11 = .ok (.iconst 0, 1) := by decide +kernel
theorem dX10_reading_12 : decode cX10_reading 12 = .ok (.sipush 299, 3) := by decide +kernel
theorem dX10_reading_15 : decode cX10_reading 15 = .ok (.invokestatic 86, 3) := by decide +kernel
theorem dX10_reading_18 : decode cX10_reading 18 = .ok (.ifCond .ne 6, 3) := by decide +kernel
theorem dX10_reading_21 : decode cX10_reading 21 = .ok (.bipush (-2), 2) := by decide +kernel
theorem dX10_reading_23 : decode cX10_reading 23 = .ok (.ireturn, 1) := by decide +kernel
theorem dX10_reading_24 : decode cX10_reading 24 = .ok (.aload_n 0, 1) := by decide +kernel
theorem dX10_reading_25 : decode cX10_reading 25 = .ok (.getfield 126, 3) := by decide +kernel
theorem dX10_reading_28 : decode cX10_reading 28 = .ok (.bipush 8, 2) := by decide +kernel
theorem dX10_reading_30 : decode cX10_reading 30 = .ok (.if_icmp .ne 6, 3) := by decide +kernel
theorem dX10_reading_33 : decode cX10_reading 33 = .ok (.bipush (-4), 2) := by decide +kernel
theorem dX10_reading_35 : decode cX10_reading 35 = .ok (.ireturn, 1) := by decide +kernel
theorem dX10_reading_36 : decode cX10_reading 36 = .ok (.aload_n 0, 1) := by decide +kernel
theorem dX10_reading_37 : decode cX10_reading 37 = .ok (.getfield 71, 3) := by decide +kernel
theorem dX10_reading_40 : decode cX10_reading 40 = .ok (.aload_n 0, 1) := by decide +kernel
theorem dX10_reading_41 : decode cX10_reading 41 = .ok (.getfield 126, 3) := by decide +kernel
theorem dX10_reading_44 : decode cX10_reading 44 = .ok (.iload_n 1, 1) := by decide +kernel
theorem dX10_reading_45 : decode cX10_reading 45 = .ok (.iastore, 1) := by decide +kernel
theorem dX10_reading_46 : decode cX10_reading 46 = .ok (.aload_n 0, 1) := by decide +kernel
theorem dX10_reading_47 : decode cX10_reading 47 = .ok (.getfield 74, 3) := by decide +kernel
theorem dX10_reading_50 : decode cX10_reading 50 = .ok (.aload_n 0, 1) := by decide +kernel
theorem dX10_reading_51 : decode cX10_reading 51 = .ok (.getfield 126, 3) := by decide +kernel
theorem dX10_reading_54 : decode cX10_reading 54 = .ok (.iload_n 2, 1) := by decide +kernel
theorem dX10_reading_55 : decode cX10_reading 55 = .ok (.iastore, 1) := by decide +kernel
theorem dX10_reading_56 : decode cX10_reading 56 = .ok (.aload_n 0, 1) := by decide +kernel
theorem dX10_reading_57 : decode cX10_reading 57 = .ok (.getfield 77, 3) := by decide +kernel
theorem dX10_reading_60 : decode cX10_reading 60 = .ok (.aload_n 0, 1) := by decide +kernel
theorem dX10_reading_61 : decode cX10_reading 61 = .ok (.getfield 126, 3) := by decide +kernel
theorem dX10_reading_64 : decode cX10_reading 64 = .ok (.iload_n 3, 1) := by decide +kernel
theorem dX10_reading_65 : decode cX10_reading 65 = .ok (.bastore, 1) := by decide +kernel
theorem dX10_reading_66 : decode cX10_reading 66 = .ok (.aload_n 0, 1) := by decide +kernel
theorem dX10_reading_67 : decode cX10_reading 67 = .ok (.dup, 1) := by decide +kernel
theorem dX10_reading_68 : decode cX10_reading 68 = .ok (.getfield 126, 3) := by decide +kernel
theorem dX10_reading_71 : decode cX10_reading 71 = .ok (.iconst 1, 1) := by decide +kernel
theorem dX10_reading_72 : decode cX10_reading 72 = .ok (.iadd, 1) := by decide +kernel
theorem dX10_reading_73 : decode cX10_reading 73 = .ok (.putfield 126, 3) := by decide +kernel
theorem dX10_reading_76 : decode cX10_reading 76 = .ok (.aload_n 0, 1) := by decide +kernel
theorem dX10_reading_77 : decode cX10_reading 77 = .ok (.getfield 126, 3) := by decide +kernel
theorem dX10_reading_80 : decode cX10_reading 80 = .ok (.iconst 1, 1) := by decide +kernel
theorem dX10_reading_81 : decode cX10_reading 81 = .ok (.isub, 1) := by decide +kernel
theorem dX10_reading_82 : decode cX10_reading 82 = .ok (.ireturn, 1) := by decide +kernel
set_option maxRecDepth 20000 in
theorem ggX10_back_X10_within : GoodIn wsX10_back wsX10_within := goodIn_r _ [5] (by decide +kernel) (by decide +kernel)
set_option maxRecDepth 20000 in
theorem gX10_back_X10_within : GoodIn wsX10_back (va_wsS RX10 86 yX10_within wsX10_within) := goodIn_app (goodIn_of _ (by decide +kernel)) ggX10_back_X10_within
theorem dX10_back_0 : decode cX10_back 0 = .ok (.iload_n 1, 1) := by decide +kernel
theorem dX10_back_1 : decode cX10_back 1 = .ok (.iconst 0, 1) := by decide +kernel
theorem dX10_back_2 : decode cX10_back 2 = .ok (.aload_n 0, 1) := by decide +kernel
theorem dX10_back_3 : decode cX10_back 3 = .ok (.getfield 126, 3) := by decide +kernel
theorem dX10_back_6 : decode cX10_back 6 = .ok (.invokestatic 86, 3) := by decide +kernel
theorem dX10_back_9 : decode cX10_back 9 = .ok (.ifCond .ne 6, 3) := by decide +kernel
theorem dX10_back_12 : decode cX10_back 12 = .ok (.bipush (-2), 2) := by decide +kernel
theorem dX10_back_14 : decode cX10_back 14 = .ok (.ireturn, 1) := by decide +kernel
theorem dX10_back_15 : decode cX10_back 15 = .ok (.aload_n 0, 1) := by decide +kernel
theorem dX10_back_16 : decode cX10_back 16 = .ok (.dup, 1) := by decide +kernel
theorem dX10_back_17 : decode cX10_back 17 = .ok (.getfield 126, 3) := by decide +kernel
theorem dX10_back_20 : decode cX10_back 20 = .ok (.iload_n 1, 1) := by decide +kernel
theorem dX10_back_21 : decode cX10_back 21 = .ok (.isub, 1) := by decide +kernel
theorem dX10_back_22 : decode cX10_back 22 = .ok (.putfield 126, 3) := by decide +kernel
theorem dX10_back_25 : decode cX10_back 25 = .ok (.aload_n 0, 1) := by decide +kernel
theorem dX10_back_26 : decode cX10_back 26 = .ok (.getfield 126, 3) := by decide +kernel
theorem dX10_back_29 : decode cX10_back 29 = .ok (.ireturn, 1) := by decide +kernel
set_option maxRecDepth 20000 in
theorem ggX10_isUp_X10_holds : GoodIn wsX10_isUp wsX10_holds := goodIn_r _ [9, 10, 11, 12, 13, 14, 15, 16, 17, 18, 19, 20, 21, 22, 23, 24, 25, 26, 27, 28, 29, 30, 31, 32, 33, 34, 35, 36, 37, 38, 39, 40, 41, 42, 43, 44, 45, 46] (by decide +kernel) (by decide +kernel)
set_option maxRecDepth 20000 in
theorem gX10_isUp_X10_holds : GoodIn wsX10_isUp (wsV RX10 139 RX10 yX10_holds wsX10_holds) := goodIn_app (goodIn_of _ (by decide +kernel)) ggX10_isUp_X10_holds
theorem dX10_isUp_0 : decode cX10_isUp 0 = .ok (.aload_n 0, 1) := by decide +kernel
theorem dX10_isUp_1 : decode cX10_isUp 1 = .ok (.iload_n 1, 1) := by decide +kernel
theorem dX10_isUp_2 : decode cX10_isUp 2 = .ok (.invokevirtual 139, 3) := by decide +kernel
theorem dX10_isUp_5 : decode cX10_isUp 5 = .ok (.istore_n 3, 1) := by decide +kernel
theorem dX10_isUp_6 : decode cX10_isUp 6 = .ok (.iconst 0, 1) := by decide +kernel
theorem dX10_isUp_7 : decode cX10_isUp 7 = .ok (.istore 4, 2) := by decide +kernel
theorem dX10_isUp_9 : decode cX10_isUp 9 = .ok (.iload 4, 2) := by decide +kernel
theorem dX10_isUp_11 : decode cX10_isUp 11 = .ok (.aload_n 0, 1) := by decide +kernel
theorem dX10_isUp_12 : decode cX10_isUp 12 = .ok (.getfield 142, 3) := by decide +kernel
theorem dX10_isUp_15 : decode cX10_isUp 15 = .ok (.if_icmp .ge 56, 3) := by decide +kernel
theorem dX10_isUp_18 : decode cX10_isUp 18 = .ok (.aload_n 0, 1) := by decide +kernel
theorem dX10_isUp_19 : decode cX10_isUp 19 = .ok (.getfield 55, 3) := by decide +kernel
theorem dX10_isUp_22 : decode cX10_isUp 22 = .ok (.iload 4, 2) := by decide +kernel
theorem dX10_isUp_24 : decode cX10_isUp 24 = .ok (.iaload, 1) := by decide +kernel
theorem dX10_isUp_25 : decode cX10_isUp 25 = .ok (.iload_n 1, 1) := by decide +kernel
theorem dX10_isUp_26 : decode cX10_isUp 26 = .ok (.if_icmp .ne 37, 3) := by decide +kernel
theorem dX10_isUp_29 : decode cX10_isUp 29 = .ok (.aload_n 0, 1) := by decide +kernel
theorem dX10_isUp_30 : decode cX10_isUp 30 = .ok (.getfield 52, 3) := by decide +kernel
theorem dX10_isUp_33 : decode cX10_isUp 33 = .ok (.iload 4, 2) := by decide +kernel
theorem dX10_isUp_35 : decode cX10_isUp 35 = .ok (.iaload, 1) := by decide +kernel
theorem dX10_isUp_36 : decode cX10_isUp 36 = .ok (.iload_n 2, 1) := by decide +kernel
theorem dX10_isUp_37 : decode cX10_isUp 37 = .ok (.if_icmp .gt 26, 3) := by decide +kernel
theorem dX10_isUp_40 : decode cX10_isUp 40 = .ok (.aload_n 0, 1) := by decide +kernel
theorem dX10_isUp_41 : decode cX10_isUp 41 = .ok (.getfield 52, 3) := by decide +kernel
theorem dX10_isUp_44 : decode cX10_isUp 44 = .ok (.iload 4, 2) := by decide +kernel
theorem dX10_isUp_46 : decode cX10_isUp 46 = .ok (.iaload, 1) := by decide +kernel
theorem dX10_isUp_47 : decode cX10_isUp 47 = .ok (.aload_n 0, 1) := by decide +kernel
theorem dX10_isUp_48 : decode cX10_isUp 48 = .ok (.getfield 25, 3) := by decide +kernel
theorem dX10_isUp_51 : decode cX10_isUp 51 = .ok (.iload_n 1, 1) := by decide +kernel
theorem dX10_isUp_52 : decode cX10_isUp 52 = .ok (.iaload, 1) := by decide +kernel
theorem dX10_isUp_53 : decode cX10_isUp 53 = .ok (.iadd, 1) := by decide +kernel
theorem dX10_isUp_54 : decode cX10_isUp 54 = .ok (.aload_n 0, 1) := by decide +kernel
theorem dX10_isUp_55 : decode cX10_isUp 55 = .ok (.iload_n 1, 1) := by decide +kernel
theorem dX10_isUp_56 : decode cX10_isUp 56 = .ok (.invokevirtual 139, 3) := by decide +kernel
theorem dX10_isUp_59 : decode cX10_isUp 59 = .ok (.iadd, 1) := by decide +kernel
theorem dX10_isUp_60 : decode cX10_isUp 60 = .ok (.goto 4, 3) := by decide +kernel
theorem dX10_isUp_63 : decode cX10_isUp 63 = .ok (.iload_n 3, 1) := by decide +kernel
theorem dX10_isUp_64 : decode cX10_isUp 64 = .ok (.istore_n 3, 1) := by decide +kernel
theorem dX10_isUp_65 : decode cX10_isUp 65 = .ok (.iinc 4 1, 3) := by decide +kernel
theorem dX10_isUp_68 : decode cX10_isUp 68 = .ok (.goto (-59), 3) := by decide +kernel
theorem dX10_isUp_71 : decode cX10_isUp 71 = .ok (.iload_n 2, 1) := by decide +kernel
theorem dX10_isUp_72 : decode cX10_isUp 72 = .ok (.iload_n 3, 1) := by decide +kernel
theorem dX10_isUp_73 : decode cX10_isUp 73 = .ok (.if_icmp .ge 7, 3) := by decide +kernel
theorem dX10_isUp_76 : decode cX10_isUp 76 = .ok (.iconst 1, 1) := by decide +kernel
theorem dX10_isUp_77 : decode cX10_isUp 77 = .ok (.goto 4, 3) := by decide +kernel
theorem dX10_isUp_80 : decode cX10_isUp 80 = .ok (.iconst 0, 1) := by decide +kernel
theorem dX10_isUp_81 : decode cX10_isUp 81 = .ok (.ireturn, 1) := by decide +kernel
set_option maxRecDepth 20000 in
theorem ggX10_areSo_X10_layComings : GoodIn wsX10_areSo wsX10_layComings := goodIn_r _ [9, 10, 11, 12, 13, 14, 15, 16, 17, 18, 19, 8, 20, 32, 33, 34, 35, 36, 37, 38, 39, 40, 41, 42, 43, 44, 45, 46, 47, 48, 49, 50, 51, 52, 53, 54, 55, 56, 57, 58, 59, 60, 61, 62, 63, 64, 65] (by decide +kernel) (by decide +kernel)
set_option maxRecDepth 20000 in
theorem gX10_areSo_X10_layComings : GoodIn wsX10_areSo (wsV RX10 151 RX10 yX10_layComings wsX10_layComings) := goodIn_app (goodIn_of _ (by decide +kernel)) ggX10_areSo_X10_layComings
set_option maxRecDepth 20000 in
theorem ggX10_areSo_X10_isUp : GoodIn wsX10_areSo wsX10_isUp := goodIn_r _ [24, 10, 16, 15, 17, 25, 26, 27, 8, 28, 29, 30, 31, 32, 33, 34, 35, 36, 37, 38, 39, 40, 41, 42, 43, 44, 45, 46, 47, 48, 49, 50, 51, 52, 53, 54, 55, 56, 57, 58, 59, 60, 61, 62, 63, 64, 65] (by decide +kernel) (by decide +kernel)
set_option maxRecDepth 20000 in
theorem gX10_areSo_X10_isUp : GoodIn wsX10_areSo (wsV RX10 195 RX10 yX10_isUp wsX10_isUp) := goodIn_app (goodIn_of _ (by decide +kernel)) ggX10_areSo_X10_isUp
theorem dX10_areSo_0 : decode cX10_areSo 0 = .ok (.aload_n 0, 1) := by decide +kernel
theorem dX10_areSo_1 : decode cX10_areSo 1 = .ok (.sipush 300, 3) := by decide +kernel
theorem dX10_areSo_4 : decode cX10_areSo 4 = .ok (.sipush 400, 3) := by decide +kernel
theorem dX10_areSo_7 : decode cX10_areSo 7 = .ok (.invokevirtual 151, 3) := by decide +kernel
theorem dX10_areSo_10 : decode cX10_areSo 10 = .ok (.iconst 0, 1) := by decide +kernel
theorem dX10_areSo_11 : decode cX10_areSo 11 = .ok (.istore_n 1, 1) := by decide +kernel
theorem dX10_areSo_12 : decode cX10_areSo 12 = .ok (.iload_n 1, 1) := by decide +kernel
theorem dX10_areSo_13 : decode cX10_areSo 13 = .ok (.aload_n 0, 1) := by decide +kernel
theorem dX10_areSo_14 : decode cX10_areSo 14 = .ok (.getfield 126, 3) := by decide +kernel
theorem dX10_areSo_17 : decode cX10_areSo 17 = .ok (.if_icmp .ge 36, 3) := by decide +kernel
theorem dX10_areSo_20 : decode cX10_areSo 20 = .ok (.aload_n 0, 1) := by decide +kernel
theorem dX10_areSo_21 : decode cX10_areSo 21 = .ok (.aload_n 0, 1) := by decide +kernel
theorem dX10_areSo_22 : decode cX10_areSo 22 = .ok (.getfield 71, 3) := by decide +kernel
theorem dX10_areSo_25 : decode cX10_areSo 25 = .ok (.iload_n 1, 1) := by decide +kernel
theorem dX10_areSo_26 : decode cX10_areSo 26 = .ok (.iaload, 1) := by decide +kernel
theorem dX10_areSo_27 : decode cX10_areSo 27 = .ok (.aload_n 0, 1) := by decide +kernel
theorem dX10_areSo_28 : decode cX10_areSo 28 = .ok (.getfield 74, 3) := by decide +kernel
theorem dX10_areSo_31 : decode cX10_areSo 31 = .ok (.iload_n 1, 1) := by decide +kernel
theorem dX10_areSo_32 : decode cX10_areSo 32 = .ok (.iaload, 1) := by decide +kernel
theorem dX10_areSo_33 : decode cX10_areSo 33 = .ok (.invokevirtual 195, 3) := by decide +kernel
theorem dX10_areSo_36 : decode cX10_areSo 36 = .ok (.aload_n 0, 1) := by decide +kernel
theorem dX10_areSo_37 : decode cX10_areSo 37 = .ok (.getfield 77, 3) := by decide +kernel
theorem dX10_areSo_40 : decode cX10_areSo 40 = .ok (.iload_n 1, 1) := by decide +kernel
theorem dX10_areSo_41 : decode cX10_areSo 41 = .ok (.baload, 1) := by decide +kernel
theorem dX10_areSo_42 : decode cX10_areSo 42 = .ok (.if_icmp .eq 5, 3) := by decide +kernel
theorem dX10_areSo_45 : decode cX10_areSo 45 = .ok (.iconst 0, 1) := by decide +kernel
theorem dX10_areSo_46 : decode cX10_areSo 46 = .ok (.ireturn, 1) := by decide +kernel
theorem dX10_areSo_47 : decode cX10_areSo 47 = .ok (.iinc 1 1, 3) := by decide +kernel
theorem dX10_areSo_50 : decode cX10_areSo 50 = .ok (.goto (-38), 3) := by decide +kernel
theorem dX10_areSo_53 : decode cX10_areSo 53 = .ok (.iconst 1, 1) := by decide +kernel
theorem dX10_areSo_54 : decode cX10_areSo 54 = .ok (.ireturn, 1) := by decide +kernel
set_option maxRecDepth 20000 in
theorem ggX10_fits_X10_within : GoodIn wsX10_fits wsX10_within := goodIn_r _ [6] (by decide +kernel) (by decide +kernel)
set_option maxRecDepth 20000 in
theorem gX10_fits_X10_within : GoodIn wsX10_fits (va_wsS RX10 86 yX10_within wsX10_within) := goodIn_app (goodIn_of _ (by decide +kernel)) ggX10_fits_X10_within
set_option maxRecDepth 20000 in
theorem ggX10_fits_X10_all : GoodIn wsX10_fits wsX10_all := goodIn_r _ [10, 1, 56, 57, 58, 59, 60, 61, 62, 63, 64, 65, 66, 67, 68, 69, 70, 71, 72, 73, 74, 75, 76, 77, 78, 79, 80, 81, 82, 83, 84, 85, 86, 87, 88, 89] (by decide +kernel) (by decide +kernel)
set_option maxRecDepth 20000 in
theorem gX10_fits_X10_all : GoodIn wsX10_fits (wsV RX10 162 RX10 yX10_all wsX10_all) := goodIn_app (goodIn_of _ (by decide +kernel)) ggX10_fits_X10_all
set_option maxRecDepth 20000 in
theorem ggX10_fits_X10_firstOrder : GoodIn wsX10_fits wsX10_firstOrder := goodIn_r _ [14, 15, 1, 2, 56, 57, 58, 59, 60, 61, 62, 63, 64, 65, 66, 67, 68, 69, 70, 71, 72, 73, 74, 75, 76, 77, 78, 79, 80, 81, 82, 83, 84, 85, 86, 87, 88, 89] (by decide +kernel) (by decide +kernel)
set_option maxRecDepth 20000 in
theorem gX10_fits_X10_firstOrder : GoodIn wsX10_fits (wsV RX10 178 RX10 yX10_firstOrder wsX10_firstOrder) := goodIn_app (goodIn_of _ (by decide +kernel)) ggX10_fits_X10_firstOrder
set_option maxRecDepth 20000 in
theorem ggX10_fits_X10_areSo : GoodIn wsX10_fits wsX10_areSo := goodIn_r _ [19, 20, 21, 22, 23, 24, 25, 26, 5, 27, 28, 15, 29, 30, 2, 31, 32, 33, 34, 35, 36, 37, 38, 39, 40, 41, 42, 43, 44, 45, 46, 47, 56, 57, 58, 59, 60, 61, 62, 63, 64, 65, 66, 67, 68, 69, 70, 71, 72, 73, 74, 75, 76, 77, 78, 79, 80, 81, 82, 83, 84, 85, 86, 87, 88, 89] (by decide +kernel) (by decide +kernel)
set_option maxRecDepth 20000 in
theorem gX10_fits_X10_areSo : GoodIn wsX10_fits (wsV RX10 198 RX10 yX10_areSo wsX10_areSo) := goodIn_app (goodIn_of _ (by decide +kernel)) ggX10_fits_X10_areSo
set_option maxRecDepth 20000 in
theorem ggX10_fits_X10_nextOrder : GoodIn wsX10_fits wsX10_nextOrder := goodIn_r _ [51, 15, 2, 52, 53, 54, 5, 55, 56, 57, 58, 59, 60, 61, 62, 63, 64, 65, 66, 67, 68, 69, 70, 71, 72, 73, 74, 75, 76, 77, 78, 79, 80, 81, 82, 83, 84, 85, 86, 87, 88, 89] (by decide +kernel) (by decide +kernel)
set_option maxRecDepth 20000 in
theorem gX10_fits_X10_nextOrder : GoodIn wsX10_fits (wsV RX10 182 RX10 yX10_nextOrder wsX10_nextOrder) := goodIn_app (goodIn_of _ (by decide +kernel)) ggX10_fits_X10_nextOrder
theorem dX10_fits_0 : decode cX10_fits 0 = .ok (.aload_n 0, 1) := by decide +kernel
theorem dX10_fits_1 : decode cX10_fits 1 = .ok (.getfield 90, 3) := by decide +kernel
theorem dX10_fits_4 : decode cX10_fits 4 = .ok (.ifCond .ne 6, 3) := by decide +kernel
theorem dX10_fits_7 : decode cX10_fits 7 = .ok (.bipush (-3), 2) := by decide +kernel
theorem dX10_fits_9 : decode cX10_fits 9 = .ok (.ireturn, 1) := by decide +kernel
theorem dX10_fits_10 : decode cX10_fits 10 = .ok (.iload_n 1, 1) := by decide +kernel
theorem dX10_fits_11 : decode cX10_fits 11 = .ok (.iconst (-1), 1) := by decide +kernel
theorem dX10_fits_12 : decode cX10_fits 12 = .ok (.aload_n 0, 1) := by decide +kernel
theorem dX10_fits_13 : decode cX10_fits 13 = .ok (.getfield 90, 3) := by decide +kernel
theorem dX10_fits_16 : decode cX10_fits 16 = .ok (.iconst 1, 1) := by decide +kernel
theorem dX10_fits_17 : decode cX10_fits 17 = .ok (.isub, 1) := by decide +kernel
theorem dX10_fits_18 : decode cX10_fits 18 = .ok (.invokestatic 86, 3) := by decide +kernel
theorem dX10_fits_21 : decode cX10_fits 21 = .ok (.ifCond .ne 5, 3) := by decide +kernel
theorem dX10_fits_24 : decode cX10_fits 24 = .ok (.iconst (-1), 1) := by decide +kernel
theorem dX10_fits_25 : decode cX10_fits 25 = .ok (.ireturn, 1) := by decide +kernel
theorem dX10_fits_26 : decode cX10_fits 26 = .ok (.aload_n 0, 1) := by decide +kernel
theorem dX10_fits_27 : decode cX10_fits 27 = .ok (.aload_n 0, 1) := by decide +kernel
theorem dX10_fits_28 : decode cX10_fits 28 = .ok (.invokevirtual 162, 3) := by decide +kernel
theorem dX10_fits_31 : decode cX10_fits 31 = .ok (.invokevirtual 178, 3) := by decide +kernel
theorem dX10_fits_34 : decode cX10_fits 34 = .ok (.iconst 0, 1) := by decide +kernel
theorem dX10_fits_35 : decode cX10_fits 35 = .ok (.istore_n 2, 1) := by decide +kernel
theorem dX10_fits_36 : decode cX10_fits 36 = .ok (.bipush (-9), 2) := by decide +kernel
theorem dX10_fits_38 : decode cX10_fits 38 = .ok (.istore_n 3, 1) := by decide +kernel
theorem dX10_fits_39 : decode cX10_fits 39 = .ok (.iconst 1, 1) := by decide +kernel
theorem dX10_fits_40 : decode cX10_fits 40 = .ok (.istore 4, 2) := by decide +kernel
theorem dX10_fits_42 : decode cX10_fits 42 = .ok (.iload 4, 2) := by decide +kernel
theorem dX10_fits_44 : decode cX10_fits 44 = .ok (.ifCond .eq 41, 3) := by decide +kernel
theorem dX10_fits_47 : decode cX10_fits 47 = .ok (.aload_n 0, 1) := by decide +kernel
theorem dX10_fits_48 : decode cX10_fits 48 = .ok (.invokevirtual 198, 3) := by decide +kernel
theorem dX10_fits_51 : decode cX10_fits 51 = .ok (.ifCond .eq 25, 3) := by decide +kernel
theorem dX10_fits_54 : decode cX10_fits 54 = .ok (.iload_n 2, 1) := by decide +kernel
theorem dX10_fits_55 : decode cX10_fits 55 = .ok (.ifCond .ne 16, 3) := by decide +kernel
theorem dX10_fits_58 : decode cX10_fits 58 = .ok (.iload_n 1, 1) := by decide +kernel
theorem dX10_fits_59 : decode cX10_fits 59 = .ok (.ifCond .lt 12, 3) := by decide +kernel
theorem dX10_fits_62 : decode cX10_fits 62 = .ok (.aload_n 0, 1) := by decide +kernel
theorem dX10_fits_63 : decode cX10_fits 63 = .ok (.getfield 49, 3) := by decide +kernel
theorem dX10_fits_66 : decode cX10_fits 66 = .ok (.iload_n 1, 1) := by decide +kernel
theorem dX10_fits_67 : decode cX10_fits 67 = .ok (.iaload, 1) := by decide +kernel
theorem dX10_fits_68 : decode cX10_fits 68 = .ok (.goto 4, 3) := by decide +kernel
theorem dX10_fits_71 : decode cX10_fits 71 = .ok (.iload_n 3, 1) := by decide +kernel
theorem dX10_fits_72 : decode cX10_fits 72 = .ok (.istore_n 3, 1) := by decide +kernel
theorem dX10_fits_73 : decode cX10_fits 73 = .ok (.iinc 2 1, 3) := by decide +kernel
theorem dX10_fits_76 : decode cX10_fits 76 = .ok (.aload_n 0, 1) := by decide +kernel
theorem dX10_fits_77 : decode cX10_fits 77 = .ok (.invokevirtual 182, 3) := by decide +kernel
theorem dX10_fits_80 : decode cX10_fits 80 = .ok (.istore 4, 2) := by decide +kernel
theorem dX10_fits_82 : decode cX10_fits 82 = .ok (.goto (-40), 3) := by decide +kernel
theorem dX10_fits_85 : decode cX10_fits 85 = .ok (.iload_n 1, 1) := by decide +kernel
theorem dX10_fits_86 : decode cX10_fits 86 = .ok (.iconst (-1), 1) := by decide +kernel
theorem dX10_fits_87 : decode cX10_fits 87 = .ok (.if_icmp .ne 7, 3) := by decide +kernel
theorem dX10_fits_90 : decode cX10_fits 90 = .ok (.iload_n 2, 1) := by decide +kernel
theorem dX10_fits_91 : decode cX10_fits 91 = .ok (.goto 4, 3) := by decide +kernel
theorem dX10_fits_94 : decode cX10_fits 94 = .ok (.iload_n 3, 1) := by decide +kernel
theorem dX10_fits_95 : decode cX10_fits 95 = .ok (.ireturn, 1) := by decide +kernel
set_option maxRecDepth 20000 in
theorem ggX10_sheet_X10_isSheet : GoodIn wsX10_sheet wsX10_isSheet := goodIn_r _ [8, 9, 10, 7, 11] (by decide +kernel) (by decide +kernel)
set_option maxRecDepth 20000 in
theorem gX10_sheet_X10_isSheet : GoodIn wsX10_sheet (va_wsS RX10 96 yX10_isSheet wsX10_isSheet) := goodIn_app (goodIn_of _ (by decide +kernel)) ggX10_sheet_X10_isSheet
set_option maxRecDepth 20000 in
theorem ggX10_sheet_X10_isSort : GoodIn wsX10_sheet wsX10_isSort := goodIn_r _ [14, 9, 10, 7, 11] (by decide +kernel) (by decide +kernel)
set_option maxRecDepth 20000 in
theorem gX10_sheet_X10_isSort : GoodIn wsX10_sheet (va_wsS RX10 100 yX10_isSort wsX10_isSort) := goodIn_app (goodIn_of _ (by decide +kernel)) ggX10_sheet_X10_isSort
set_option maxRecDepth 20000 in
theorem ggX10_sheet_X10_fails : GoodIn wsX10_sheet wsX10_fails := goodIn_r _ [18, 1, 19, 20, 21, 22, 23, 24, 25, 26, 27, 28, 29, 30, 31, 32, 33, 34, 35, 36, 37, 38, 39, 40, 41, 42, 43, 44, 45, 46, 47, 48, 49, 50, 51, 52] (by decide +kernel) (by decide +kernel)
set_option maxRecDepth 20000 in
theorem gX10_sheet_X10_fails : GoodIn wsX10_sheet (wsV RX10 107 RX10 yX10_fails wsX10_fails) := goodIn_app (goodIn_of _ (by decide +kernel)) ggX10_sheet_X10_fails
theorem dX10_sheet_0 : decode cX10_sheet 0 = .ok (.aload_n 0, 1) := by decide +kernel
theorem dX10_sheet_1 : decode cX10_sheet 1 = .ok (.iconst 0, 1) := by decide +kernel
theorem dX10_sheet_2 : decode cX10_sheet 2 = .ok (.putfield 80, 3) := by decide +kernel
theorem dX10_sheet_5 : decode cX10_sheet 5 = .ok (.iload_n 1, 1) := by decide +kernel
theorem dX10_sheet_6 : decode cX10_sheet 6 = .ok (.invokestatic 96, 3) := by decide +kernel
theorem dX10_sheet_9 : decode cX10_sheet 9 = .ok (.ifCond .ne 5, 3) := by decide +kernel
theorem dX10_sheet_12 : decode cX10_sheet 12 = .ok (.iconst (-1), 1) := by decide +kernel
theorem dX10_sheet_13 : decode cX10_sheet 13 = .ok (.ireturn, 1) := by decide +kernel
theorem dX10_sheet_14 : decode cX10_sheet 14 = .ok (.iload_n 2, 1) := by decide +kernel
theorem dX10_sheet_15 : decode cX10_sheet 15 = .ok (.invokestatic 100, 3) := by decide +kernel
theorem dX10_sheet_18 : decode cX10_sheet 18 = .ok (.ifCond .eq 9, 3) := by decide +kernel
theorem dX10_sheet_21 : decode cX10_sheet 21 = .ok (.iload_n 3, 1) := by decide +kernel
theorem dX10_sheet_22 : decode cX10_sheet 22 = .ok (.bipush 60, 2) := by decide +kernel
theorem dX10_sheet_24 : decode cX10_sheet 24 = .ok (.if_icmp .le 6, 3) := by decide +kernel
theorem dX10_sheet_27 : decode cX10_sheet 27 = .ok (.bipush (-2), 2) := by decide +kernel
theorem dX10_sheet_29 : decode cX10_sheet 29 = .ok (.ireturn, 1) := by decide +kernel
theorem dX10_sheet_30 : decode cX10_sheet 30 = .ok (.iload_n 3, 1) := by decide +kernel
theorem dX10_sheet_31 : decode cX10_sheet 31 = .ok (.ifCond .ge 9, 3) := by decide +kernel
theorem dX10_sheet_34 : decode cX10_sheet 34 = .ok (.aload_n 0, 1) := by decide +kernel
theorem dX10_sheet_35 : decode cX10_sheet 35 = .ok (.iconst 4, 1) := by decide +kernel
theorem dX10_sheet_36 : decode cX10_sheet 36 = .ok (.invokevirtual 107, 3) := by decide +kernel
theorem dX10_sheet_39 : decode cX10_sheet 39 = .ok (.ireturn, 1) := by decide +kernel
theorem dX10_sheet_40 : decode cX10_sheet 40 = .ok (.aload_n 0, 1) := by decide +kernel
theorem dX10_sheet_41 : decode cX10_sheet 41 = .ok (.getfield 9, 3) := by decide +kernel
theorem dX10_sheet_44 : decode cX10_sheet 44 = .ok (.iload_n 1, 1) := by decide +kernel
theorem dX10_sheet_45 : decode cX10_sheet 45 = .ok (.iload_n 2, 1) := by decide +kernel
theorem dX10_sheet_46 : decode cX10_sheet 46 = .ok (.iastore, 1) := by decide +kernel
theorem dX10_sheet_47 : decode cX10_sheet 47 = .ok (.aload_n 0, 1) := by decide +kernel
theorem dX10_sheet_48 : decode cX10_sheet 48 = .ok (.getfield 13, 3) := by decide +kernel
theorem dX10_sheet_51 : decode cX10_sheet 51 = .ok (.iload_n 1, 1) := by decide +kernel
theorem dX10_sheet_52 : decode cX10_sheet 52 = .ok (.iload_n 3, 1) := by decide +kernel
theorem dX10_sheet_53 : decode cX10_sheet 53 = .ok (.iastore, 1) := by decide +kernel
theorem dX10_sheet_54 : decode cX10_sheet 54 = .ok (.iconst 0, 1) := by decide +kernel
theorem dX10_sheet_55 : decode cX10_sheet 55 = .ok (.istore 4, 2) := by decide +kernel
theorem dX10_sheet_57 : decode cX10_sheet 57 = .ok (.iload 4, 2) := by decide +kernel
theorem dX10_sheet_59 : decode cX10_sheet 59 = .ok (.bipush 60, 2) := by decide +kernel
theorem dX10_sheet_61 : decode cX10_sheet 61 = .ok (.if_icmp .ge 22, 3) := by decide +kernel
theorem dX10_sheet_64 : decode cX10_sheet 64 = .ok (.aload_n 0, 1) := by decide +kernel
theorem dX10_sheet_65 : decode cX10_sheet 65 = .ok (.getfield 16, 3) := by decide +kernel
theorem dX10_sheet_68 : decode cX10_sheet 68 = .ok (.bipush 60, 2) := by decide +kernel
theorem dX10_sheet_70 : decode cX10_sheet 70 = .ok (.iload_n 1, 1) := by decide +kernel
theorem dX10_sheet_71 : decode cX10_sheet 71 = .ok (.imul, 1) := by decide +kernel
theorem dX10_sheet_72 : decode cX10_sheet 72 = .ok (.iload 4, 2) := by decide +kernel
theorem dX10_sheet_74 : decode cX10_sheet 74 = .ok (.iadd, 1) := by decide +kernel
theorem dX10_sheet_75 : decode cX10_sheet 75 = .ok (.iconst 0, 1) := by decide +kernel
theorem dX10_sheet_76 : decode cX10_sheet 76 = .ok (.iastore, 1) := by decide +kernel
theorem dX10_sheet_77 : decode cX10_sheet 77 = .ok (.iinc 4 1, 3) := by decide +kernel
theorem dX10_sheet_80 : decode cX10_sheet 80 = .ok (.goto (-23), 3) := by decide +kernel
theorem dX10_sheet_83 : decode cX10_sheet 83 = .ok (.iconst 1, 1) := by decide +kernel
theorem dX10_sheet_84 : decode cX10_sheet 84 = .ok (.ireturn, 1) := by decide +kernel
set_option maxRecDepth 20000 in
theorem ggX10_lose_X10_isSheet : GoodIn wsX10_lose wsX10_isSheet := goodIn_r _ [5, 6, 7, 4, 8] (by decide +kernel) (by decide +kernel)
set_option maxRecDepth 20000 in
theorem gX10_lose_X10_isSheet : GoodIn wsX10_lose (va_wsS RX10 96 yX10_isSheet wsX10_isSheet) := goodIn_app (goodIn_of _ (by decide +kernel)) ggX10_lose_X10_isSheet
theorem dX10_lose_0 : decode cX10_lose 0 = .ok (.iload_n 1, 1) := by decide +kernel
theorem dX10_lose_1 : decode cX10_lose 1 = .ok (.invokestatic 96, 3) := by decide +kernel
theorem dX10_lose_4 : decode cX10_lose 4 = .ok (.ifCond .ne 5, 3) := by decide +kernel
theorem dX10_lose_7 : decode cX10_lose 7 = .ok (.iconst (-1), 1) := by decide +kernel
theorem dX10_lose_8 : decode cX10_lose 8 = .ok (.ireturn, 1) := by decide +kernel
theorem dX10_lose_9 : decode cX10_lose 9 = .ok (.aload_n 0, 1) := by decide +kernel
theorem dX10_lose_10 : decode cX10_lose 10 = .ok (.getfield 9, 3) := by decide +kernel
theorem dX10_lose_13 : decode cX10_lose 13 = .ok (.iload_n 1, 1) := by decide +kernel
theorem dX10_lose_14 : decode cX10_lose 14 = .ok (.iaload, 1) := by decide +kernel
theorem dX10_lose_15 : decode cX10_lose 15 = .ok (.bipush (-9), 2) := by decide +kernel
theorem dX10_lose_17 : decode cX10_lose 17 = .ok (.if_icmp .ne 7, 3) := by decide +kernel
theorem dX10_lose_20 : decode cX10_lose 20 = .ok (.iconst 0, 1) := by decide +kernel
theorem dX10_lose_21 : decode cX10_lose 21 = .ok (.goto 4, 3) := by decide +kernel
theorem dX10_lose_24 : decode cX10_lose 24 = .ok (.iconst 1, 1) := by decide +kernel
theorem dX10_lose_25 : decode cX10_lose 25 = .ok (.istore_n 2, 1) := by decide +kernel
theorem dX10_lose_26 : decode cX10_lose 26 = .ok (.aload_n 0, 1) := by decide +kernel
theorem dX10_lose_27 : decode cX10_lose 27 = .ok (.getfield 9, 3) := by decide +kernel
theorem dX10_lose_30 : decode cX10_lose 30 = .ok (.iload_n 1, 1) := by decide +kernel
theorem dX10_lose_31 : decode cX10_lose 31 = .ok (.bipush (-9), 2) := by decide +kernel
theorem dX10_lose_33 : decode cX10_lose 33 = .ok (.iastore, 1) := by decide +kernel
theorem dX10_lose_34 : decode cX10_lose 34 = .ok (.iload_n 2, 1) := by decide +kernel
theorem dX10_lose_35 : decode cX10_lose 35 = .ok (.ireturn, 1) := by decide +kernel
set_option maxRecDepth 20000 in
theorem ggX10_put_X10_isSheet : GoodIn wsX10_put wsX10_isSheet := goodIn_r _ [8, 9, 10, 7, 11] (by decide +kernel) (by decide +kernel)
set_option maxRecDepth 20000 in
theorem gX10_put_X10_isSheet : GoodIn wsX10_put (va_wsS RX10 96 yX10_isSheet wsX10_isSheet) := goodIn_app (goodIn_of _ (by decide +kernel)) ggX10_put_X10_isSheet
set_option maxRecDepth 20000 in
theorem ggX10_put_X10_fails : GoodIn wsX10_put wsX10_fails := goodIn_r _ [15, 1, 16, 17, 18, 19, 20, 21, 22, 23, 24, 25, 26, 27, 28, 29, 30, 31, 32, 33, 34, 35, 36, 37, 38, 39, 40, 41, 42, 43, 44, 45, 46, 47, 48, 49] (by decide +kernel) (by decide +kernel)
set_option maxRecDepth 20000 in
theorem gX10_put_X10_fails : GoodIn wsX10_put (wsV RX10 107 RX10 yX10_fails wsX10_fails) := goodIn_app (goodIn_of _ (by decide +kernel)) ggX10_put_X10_fails
set_option maxRecDepth 20000 in
theorem ggX10_put_X10_within : GoodIn wsX10_put wsX10_within := goodIn_r _ [11] (by decide +kernel) (by decide +kernel)
set_option maxRecDepth 20000 in
theorem gX10_put_X10_within : GoodIn wsX10_put (va_wsS RX10 86 yX10_within wsX10_within) := goodIn_app (goodIn_of _ (by decide +kernel)) ggX10_put_X10_within
theorem dX10_put_0 : decode cX10_put 0 = .ok (.aload_n 0, 1) := by decide +kernel
theorem dX10_put_1 : decode cX10_put 1 = .ok (.iconst 0, 1) := by decide +kernel
theorem dX10_put_2 : decode cX10_put 2 = .ok (.putfield 80, 3) := by decide +kernel
theorem dX10_put_5 : decode cX10_put 5 = .ok (.iload_n 1, 1) := by decide +kernel
theorem dX10_put_6 : decode cX10_put 6 = .ok (.invokestatic 96, 3) := by decide +kernel
theorem dX10_put_9 : decode cX10_put 9 = .ok (.ifCond .ne 5, 3) := by decide +kernel
theorem dX10_put_12 : decode cX10_put 12 = .ok (.iconst (-1), 1) := by decide +kernel
theorem dX10_put_13 : decode cX10_put 13 = .ok (.ireturn, 1) := by decide +kernel
theorem dX10_put_14 : decode cX10_put 14 = .ok (.aload_n 0, 1) := by decide +kernel
theorem dX10_put_15 : decode cX10_put 15 = .ok (.getfield 9, 3) := by decide +kernel
theorem dX10_put_18 : decode cX10_put 18 = .ok (.iload_n 1, 1) := by decide +kernel
theorem dX10_put_19 : decode cX10_put 19 = .ok (.iaload, 1) := by decide +kernel
theorem dX10_put_20 : decode cX10_put 20 = .ok (.bipush (-9), 2) := by decide +kernel
theorem dX10_put_22 : decode cX10_put 22 = .ok (.if_icmp .ne 9, 3) := by decide +kernel
theorem dX10_put_25 : decode cX10_put 25 = .ok (.aload_n 0, 1) := by decide +kernel
theorem dX10_put_26 : decode cX10_put 26 = .ok (.iconst 1, 1) := by decide +kernel
theorem dX10_put_27 : decode cX10_put 27 = .ok (.invokevirtual 107, 3) := by decide +kernel
theorem dX10_put_30 : decode cX10_put 30 = .ok (.ireturn, 1) := by decide +kernel
theorem dX10_put_31 : decode cX10_put 31 = .ok (.iload_n 2, 1) := by decide +kernel
theorem dX10_put_32 : decode cX10_put 32 = .ok (.iconst 0, 1) := by decide +kernel
theorem dX10_put_33 : decode cX10_put 33 = .ok (.aload_n 0, 1) := by decide +kernel
theorem dX10_put_34 : decode cX10_put 34 = .ok (.getfield 13, 3) := by decide +kernel
theorem dX10_put_37 : decode cX10_put 37 = .ok (.iload_n 1, 1) := by decide +kernel
theorem dX10_put_38 : decode cX10_put 38 = .ok (.iaload, 1) := by decide +kernel
theorem dX10_put_39 : decode cX10_put 39 = .ok (.iconst 1, 1) := by decide +kernel
theorem dX10_put_40 : decode cX10_put 40 = .ok (.isub, 1) := by decide +kernel
theorem dX10_put_41 : decode cX10_put 41 = .ok (.invokestatic 86, 3) := by decide +kernel
theorem dX10_put_44 : decode cX10_put 44 = .ok (.ifCond .ne 9, 3) := by decide +kernel
theorem dX10_put_47 : decode cX10_put 47 = .ok (.aload_n 0, 1) := by decide +kernel
theorem dX10_put_48 : decode cX10_put 48 = .ok (.iconst 3, 1) := by decide +kernel
theorem dX10_put_49 : decode cX10_put 49 = .ok (.invokevirtual 107, 3) := by decide +kernel
theorem dX10_put_52 : decode cX10_put 52 = .ok (.ireturn, 1) := by decide +kernel
theorem dX10_put_53 : decode cX10_put 53 = .ok (.aload_n 0, 1) := by decide +kernel
theorem dX10_put_54 : decode cX10_put 54 = .ok (.getfield 16, 3) := by decide +kernel
theorem dX10_put_57 : decode cX10_put 57 = .ok (.bipush 60, 2) := by decide +kernel
theorem dX10_put_59 : decode cX10_put 59 = .ok (.iload_n 1, 1) := by decide +kernel
theorem dX10_put_60 : decode cX10_put 60 = .ok (.imul, 1) := by decide +kernel
theorem dX10_put_61 : decode cX10_put 61 = .ok (.iload_n 2, 1) := by decide +kernel
theorem dX10_put_62 : decode cX10_put 62 = .ok (.iadd, 1) := by decide +kernel
theorem dX10_put_63 : decode cX10_put 63 = .ok (.aload_n 0, 1) := by decide +kernel
theorem dX10_put_64 : decode cX10_put 64 = .ok (.getfield 9, 3) := by decide +kernel
theorem dX10_put_67 : decode cX10_put 67 = .ok (.iload_n 1, 1) := by decide +kernel
theorem dX10_put_68 : decode cX10_put 68 = .ok (.iaload, 1) := by decide +kernel
theorem dX10_put_69 : decode cX10_put 69 = .ok (.ifCond .ne 8, 3) := by decide +kernel
theorem dX10_put_72 : decode cX10_put 72 = .ok (.iload_n 3, 1) := by decide +kernel
theorem dX10_put_73 : decode cX10_put 73 = .ok (.i2b, 1) := by decide +kernel
theorem dX10_put_74 : decode cX10_put 74 = .ok (.goto 19, 3) := by decide +kernel
theorem dX10_put_77 : decode cX10_put 77 = .ok (.aload_n 0, 1) := by decide +kernel
theorem dX10_put_78 : decode cX10_put 78 = .ok (.getfield 9, 3) := by decide +kernel
theorem dX10_put_81 : decode cX10_put 81 = .ok (.iload_n 1, 1) := by decide +kernel
theorem dX10_put_82 : decode cX10_put 82 = .ok (.iaload, 1) := by decide +kernel
theorem dX10_put_83 : decode cX10_put 83 = .ok (.iconst 1, 1) := by decide +kernel
theorem dX10_put_84 : decode cX10_put 84 = .ok (.if_icmp .ne 8, 3) := by decide +kernel
theorem dX10_put_87 : decode cX10_put 87 = .ok (.iload_n 3, 1) := by decide +kernel
theorem dX10_put_88 : decode cX10_put 88 = .ok (.i2s, 1) := by decide +kernel
theorem dX10_put_89 : decode cX10_put 89 = .ok (.goto 4, 3) := by decide +kernel
theorem dX10_put_92 : decode cX10_put 92 = .ok (.iload_n 3, 1) := by decide +kernel
theorem dX10_put_93 : decode cX10_put 93 = .ok (.iastore, 1) := by decide +kernel
theorem dX10_put_94 : decode cX10_put 94 = .ok (.iconst 1, 1) := by decide +kernel
theorem dX10_put_95 : decode cX10_put 95 = .ok (.ireturn, 1) := by decide +kernel
set_option maxRecDepth 20000 in
theorem ggX10_cell_X10_isSheet : GoodIn wsX10_cell wsX10_isSheet := goodIn_r _ [9, 10, 11, 8, 12] (by decide +kernel) (by decide +kernel)
set_option maxRecDepth 20000 in
theorem gX10_cell_X10_isSheet : GoodIn wsX10_cell (va_wsS RX10 96 yX10_isSheet wsX10_isSheet) := goodIn_app (goodIn_of _ (by decide +kernel)) ggX10_cell_X10_isSheet
set_option maxRecDepth 20000 in
theorem ggX10_cell_X10_isSort : GoodIn wsX10_cell wsX10_isSort := goodIn_r _ [15, 10, 11, 8, 12] (by decide +kernel) (by decide +kernel)
set_option maxRecDepth 20000 in
theorem gX10_cell_X10_isSort : GoodIn wsX10_cell (va_wsS RX10 100 yX10_isSort wsX10_isSort) := goodIn_app (goodIn_of _ (by decide +kernel)) ggX10_cell_X10_isSort
set_option maxRecDepth 20000 in
theorem ggX10_cell_X10_lost : GoodIn wsX10_cell wsX10_lost := goodIn_r _ [19, 1, 2, 20, 21, 22, 23, 24, 25, 26, 27, 28, 29, 30, 31, 32, 33, 34, 35, 36, 37, 38, 39, 40, 41, 42, 43, 44, 45, 46, 47, 48, 49, 50, 51, 52, 53] (by decide +kernel) (by decide +kernel)
set_option maxRecDepth 20000 in
theorem gX10_cell_X10_lost : GoodIn wsX10_cell (wsV RX10 201 RX10 yX10_lost wsX10_lost) := goodIn_app (goodIn_of _ (by decide +kernel)) ggX10_cell_X10_lost
set_option maxRecDepth 20000 in
theorem ggX10_cell_X10_within : GoodIn wsX10_cell wsX10_within := goodIn_r _ [12] (by decide +kernel) (by decide +kernel)
set_option maxRecDepth 20000 in
theorem gX10_cell_X10_within : GoodIn wsX10_cell (va_wsS RX10 86 yX10_within wsX10_within) := goodIn_app (goodIn_of _ (by decide +kernel)) ggX10_cell_X10_within
theorem dX10_cell_0 : decode cX10_cell 0 = .ok (.aload_n 0, 1) := by decide +kernel
theorem dX10_cell_1 : decode cX10_cell 1 = .ok (.iconst 0, 1) := by decide +kernel
theorem dX10_cell_2 : decode cX10_cell 2 = .ok (.putfield 80, 3) := by decide +kernel
theorem dX10_cell_5 : decode cX10_cell 5 = .ok (.iload_n 1, 1) := by decide +kernel
theorem dX10_cell_6 : decode cX10_cell 6 = .ok (.invokestatic 96, 3) := by decide +kernel
theorem dX10_cell_9 : decode cX10_cell 9 = .ok (.ifCond .eq 10, 3) := by decide +kernel
theorem dX10_cell_12 : decode cX10_cell 12 = .ok (.iload_n 3, 1) := by decide +kernel
theorem dX10_cell_13 : decode cX10_cell 13 = .ok (.invokestatic 100, 3) := by decide +kernel
theorem dX10_cell_16 : decode cX10_cell 16 = .ok (.ifCond .ne 7, 3) := by decide +kernel
theorem dX10_cell_19 : decode cX10_cell 19 = .ok (.ldc2_w 84, 3) := by decide +kernel
theorem dX10_cell_22 : decode cX10_cell 22 = .ok (.lreturn, 1) := by decide +kernel
theorem dX10_cell_23 : decode cX10_cell 23 = .ok (.aload_n 0, 1) := by decide +kernel
theorem dX10_cell_24 : decode cX10_cell 24 = .ok (.getfield 9, 3) := by decide +kernel
theorem dX10_cell_27 : decode cX10_cell 27 = .ok (.iload_n 1, 1) := by decide +kernel
theorem dX10_cell_28 : decode cX10_cell 28 = .ok (.iaload, 1) := by decide +kernel
theorem dX10_cell_29 : decode cX10_cell 29 = .ok (.bipush (-9), 2) := by decide +kernel
theorem dX10_cell_31 : decode cX10_cell 31 = .ok (.if_icmp .eq 19, 3) := by decide +kernel
theorem dX10_cell_34 : decode cX10_cell 34 = .ok (.aload_n 0, 1) := by decide +kernel
theorem dX10_cell_35 : decode cX10_cell 35 = .ok (.getfield 9, 3) := by decide +kernel
theorem dX10_cell_38 : decode cX10_cell 38 = .ok (.iload_n 1, 1) := by decide +kernel
theorem dX10_cell_39 : decode cX10_cell 39 = .ok (.iaload, 1) := by decide +kernel
theorem dX10_cell_40 : decode cX10_cell 40 = .ok (.iload_n 3, 1) := by decide +kernel
theorem dX10_cell_41 : decode cX10_cell 41 = .ok (.if_icmp .eq 9, 3) := by decide +kernel
theorem dX10_cell_44 : decode cX10_cell 44 = .ok (.aload_n 0, 1) := by decide +kernel
theorem dX10_cell_45 : decode cX10_cell 45 = .ok (.iconst 2, 1) := by decide +kernel
theorem dX10_cell_46 : decode cX10_cell 46 = .ok (.invokevirtual 201, 3) := by decide +kernel
theorem dX10_cell_49 : decode cX10_cell 49 = .ok (.lreturn, 1) := by decide +kernel
theorem dX10_cell_50 : decode cX10_cell 50 = .ok (.aload_n 0, 1) := by decide +kernel
theorem dX10_cell_51 : decode cX10_cell 51 = .ok (.getfield 9, 3) := by decide +kernel
theorem dX10_cell_54 : decode cX10_cell 54 = .ok (.iload_n 1, 1) := by decide +kernel
theorem dX10_cell_55 : decode cX10_cell 55 = .ok (.iaload, 1) := by decide +kernel
theorem dX10_cell_56 : decode cX10_cell 56 = .ok (.bipush (-9), 2) := by decide +kernel
theorem dX10_cell_58 : decode cX10_cell 58 = .ok (.if_icmp .ne 9, 3) := by decide +kernel
theorem dX10_cell_61 : decode cX10_cell 61 = .ok (.aload_n 0, 1) := by decide +kernel
theorem dX10_cell_62 : decode cX10_cell 62 = .ok (.iconst 1, 1) := by decide +kernel
theorem dX10_cell_63 : decode cX10_cell 63 = .ok (.invokevirtual 201, 3) := by decide +kernel
theorem dX10_cell_66 : decode cX10_cell 66 = .ok (.lreturn, 1) := by decide +kernel
theorem dX10_cell_67 : decode cX10_cell 67 = .ok (.iload_n 2, 1) := by decide +kernel
theorem dX10_cell_68 : decode cX10_cell 68 = .ok (.iconst 0, 1) := by decide +kernel
theorem dX10_cell_69 : decode cX10_cell 69 = .ok (.aload_n 0, 1) := by decide +kernel
theorem dX10_cell_70 : decode cX10_cell 70 = .ok (.getfield 13, 3) := by decide +kernel
theorem dX10_cell_73 : decode cX10_cell 73 = .ok (.iload_n 1, 1) := by decide +kernel
theorem dX10_cell_74 : decode cX10_cell 74 = .ok (.iaload, 1) := by decide +kernel
theorem dX10_cell_75 : decode cX10_cell 75 = .ok (.iconst 1, 1) := by decide +kernel
theorem dX10_cell_76 : decode cX10_cell 76 = .ok (.isub, 1) := by decide +kernel
theorem dX10_cell_77 : decode cX10_cell 77 = .ok (.invokestatic 86, 3) := by decide +kernel
theorem dX10_cell_80 : decode cX10_cell 80 = .ok (.ifCond .ne 9, 3) := by decide +kernel
theorem dX10_cell_83 : decode cX10_cell 83 = .ok (.aload_n 0, 1) := by decide +kernel
theorem dX10_cell_84 : decode cX10_cell 84 = .ok (.iconst 3, 1) := by decide +kernel
theorem dX10_cell_85 : decode cX10_cell 85 = .ok (.invokevirtual 201, 3) := by decide +kernel
theorem dX10_cell_88 : decode cX10_cell 88 = .ok (.lreturn, 1) := by decide +kernel
theorem dX10_cell_89 : decode cX10_cell 89 = .ok (.aload_n 0, 1) := by decide +kernel
theorem dX10_cell_90 : decode cX10_cell 90 = .ok (.getfield 16, 3) := by decide +kernel
theorem dX10_cell_93 : decode cX10_cell 93 = .ok (.bipush 60, 2) := by decide +kernel
theorem dX10_cell_95 : decode cX10_cell 95 = .ok (.iload_n 1, 1) := by decide +kernel
theorem dX10_cell_96 : decode cX10_cell 96 = .ok (.imul, 1) := by decide +kernel
theorem dX10_cell_97 : decode cX10_cell 97 = .ok (.iload_n 2, 1) := by decide +kernel
theorem dX10_cell_98 : decode cX10_cell 98 = .ok (.iadd, 1) := by decide +kernel
theorem dX10_cell_99 : decode cX10_cell 99 = .ok (.iaload, 1) := by decide +kernel
theorem dX10_cell_100 : decode cX10_cell 100 = .ok (.i2l, 1) := by decide +kernel
theorem dX10_cell_101 : decode cX10_cell 101 = .ok (.lreturn, 1) := by decide +kernel
set_option maxRecDepth 20000 in
theorem ggX10_copy_X10_isSheet : GoodIn wsX10_copy wsX10_isSheet := goodIn_r _ [8, 9, 10, 7, 11] (by decide +kernel) (by decide +kernel)
set_option maxRecDepth 20000 in
theorem gX10_copy_X10_isSheet : GoodIn wsX10_copy (va_wsS RX10 96 yX10_isSheet wsX10_isSheet) := goodIn_app (goodIn_of _ (by decide +kernel)) ggX10_copy_X10_isSheet
set_option maxRecDepth 20000 in
theorem ggX10_copy_X10_fails : GoodIn wsX10_copy wsX10_fails := goodIn_r _ [15, 1, 16, 17, 18, 19, 20, 21, 22, 23, 24, 25, 26, 27, 28, 29, 30, 31, 32, 33, 34, 35, 36, 37, 38, 39, 40, 41, 42, 43, 44, 45, 46, 47, 48, 49] (by decide +kernel) (by decide +kernel)
set_option maxRecDepth 20000 in
theorem gX10_copy_X10_fails : GoodIn wsX10_copy (wsV RX10 107 RX10 yX10_fails wsX10_fails) := goodIn_app (goodIn_of _ (by decide +kernel)) ggX10_copy_X10_fails
theorem dX10_copy_0 : decode cX10_copy 0 = .ok (.aload_n 0, 1) := by decide +kernel
theorem dX10_copy_1 : decode cX10_copy 1 = .ok (.iconst 0, 1) := by decide +kernel
theorem dX10_copy_2 : decode cX10_copy 2 = .ok (.putfield 80, 3) := by decide +kernel
theorem dX10_copy_5 : decode cX10_copy 5 = .ok (.iload_n 1, 1) := by decide +kernel
theorem dX10_copy_6 : decode cX10_copy 6 = .ok (.invokestatic 96, 3) := by decide +kernel
theorem dX10_copy_9 : decode cX10_copy 9 = .ok (.ifCond .eq 10, 3) := by decide +kernel
theorem dX10_copy_12 : decode cX10_copy 12 = .ok (.iload_n 3, 1) := by decide +kernel
theorem dX10_copy_13 : decode cX10_copy 13 = .ok (.invokestatic 96, 3) := by decide +kernel
theorem dX10_copy_16 : decode cX10_copy 16 = .ok (.ifCond .ne 5, 3) := by decide +kernel
theorem dX10_copy_19 : decode cX10_copy 19 = .ok (.iconst (-1), 1) := by decide +kernel
theorem dX10_copy_20 : decode cX10_copy 20 = .ok (.ireturn, 1) := by decide +kernel
theorem dX10_copy_21 : decode cX10_copy 21 = .ok (.aload_n 0, 1) := by decide +kernel
theorem dX10_copy_22 : decode cX10_copy 22 = .ok (.getfield 9, 3) := by decide +kernel
theorem dX10_copy_25 : decode cX10_copy 25 = .ok (.iload_n 1, 1) := by decide +kernel
theorem dX10_copy_26 : decode cX10_copy 26 = .ok (.iaload, 1) := by decide +kernel
theorem dX10_copy_27 : decode cX10_copy 27 = .ok (.bipush (-9), 2) := by decide +kernel
theorem dX10_copy_29 : decode cX10_copy 29 = .ok (.if_icmp .eq 14, 3) := by decide +kernel
theorem dX10_copy_32 : decode cX10_copy 32 = .ok (.aload_n 0, 1) := by decide +kernel
theorem dX10_copy_33 : decode cX10_copy 33 = .ok (.getfield 9, 3) := by decide +kernel
theorem dX10_copy_36 : decode cX10_copy 36 = .ok (.iload_n 3, 1) := by decide +kernel
theorem dX10_copy_37 : decode cX10_copy 37 = .ok (.iaload, 1) := by decide +kernel
theorem dX10_copy_38 : decode cX10_copy 38 = .ok (.bipush (-9), 2) := by decide +kernel
theorem dX10_copy_40 : decode cX10_copy 40 = .ok (.if_icmp .ne 9, 3) := by decide +kernel
theorem dX10_copy_43 : decode cX10_copy 43 = .ok (.aload_n 0, 1) := by decide +kernel
theorem dX10_copy_44 : decode cX10_copy 44 = .ok (.iconst 1, 1) := by decide +kernel
theorem dX10_copy_45 : decode cX10_copy 45 = .ok (.invokevirtual 107, 3) := by decide +kernel
theorem dX10_copy_48 : decode cX10_copy 48 = .ok (.ireturn, 1) := by decide +kernel
theorem dX10_copy_49 : decode cX10_copy 49 = .ok (.aload_n 0, 1) := by decide +kernel
theorem dX10_copy_50 : decode cX10_copy 50 = .ok (.getfield 9, 3) := by decide +kernel
theorem dX10_copy_53 : decode cX10_copy 53 = .ok (.iload_n 1, 1) := by decide +kernel
theorem dX10_copy_54 : decode cX10_copy 54 = .ok (.iaload, 1) := by decide +kernel
theorem dX10_copy_55 : decode cX10_copy 55 = .ok (.aload_n 0, 1) := by decide +kernel
theorem dX10_copy_56 : decode cX10_copy 56 = .ok (.getfield 9, 3) := by decide +kernel
theorem dX10_copy_59 : decode cX10_copy 59 = .ok (.iload_n 3, 1) := by decide +kernel
theorem dX10_copy_60 : decode cX10_copy 60 = .ok (.iaload, 1) := by decide +kernel
theorem dX10_copy_61 : decode cX10_copy 61 = .ok (.if_icmp .eq 9, 3) := by decide +kernel
theorem dX10_copy_64 : decode cX10_copy 64 = .ok (.aload_n 0, 1) := by decide +kernel
theorem dX10_copy_65 : decode cX10_copy 65 = .ok (.iconst 2, 1) := by decide +kernel
theorem dX10_copy_66 : decode cX10_copy 66 = .ok (.invokevirtual 107, 3) := by decide +kernel
theorem dX10_copy_69 : decode cX10_copy 69 = .ok (.ireturn, 1) := by decide +kernel
theorem dX10_copy_70 : decode cX10_copy 70 = .ok (.iload_n 2, 1) := by decide +kernel
theorem dX10_copy_71 : decode cX10_copy 71 = .ok (.ifCond .lt 38, 3) := by decide +kernel
theorem dX10_copy_74 : decode cX10_copy 74 = .ok (.iload 4, 2) := by decide +kernel
theorem dX10_copy_76 : decode cX10_copy 76 = .ok (.ifCond .lt 33, 3) := by decide +kernel
theorem dX10_copy_79 : decode cX10_copy 79 = .ok (.iload 5, 2) := by decide +kernel
theorem dX10_copy_81 : decode cX10_copy 81 = .ok (.ifCond .lt 28, 3) := by decide +kernel
theorem dX10_copy_84 : decode cX10_copy 84 = .ok (.iload_n 2, 1) := by decide +kernel
theorem dX10_copy_85 : decode cX10_copy 85 = .ok (.aload_n 0, 1) := by decide +kernel
theorem dX10_copy_86 : decode cX10_copy 86 = .ok (.getfield 13, 3) := by decide +kernel
theorem dX10_copy_89 : decode cX10_copy 89 = .ok (.iload_n 1, 1) := by decide +kernel
theorem dX10_copy_90 : decode cX10_copy 90 = .ok (.iaload, 1) := by decide +kernel
theorem dX10_copy_91 : decode cX10_copy 91 = .ok (.if_icmp .gt 18, 3) := by decide +kernel
theorem dX10_copy_94 : decode cX10_copy 94 = .ok (.iload 4, 2) := by decide +kernel
theorem dX10_copy_96 : decode cX10_copy 96 = .ok (.aload_n 0, 1) := by decide +kernel
theorem dX10_copy_97 : decode cX10_copy 97 = .ok (.getfield 13, 3) := by decide +kernel
theorem dX10_copy_100 : decode cX10_copy 100 = .ok (.iload_n 3, 1) := by decide +kernel
theorem dX10_copy_101 : decode cX10_copy 101 = .ok (.iaload, 1) := by decide +kernel
theorem dX10_copy_102 : decode cX10_copy 102 = .ok (.if_icmp .gt 7, 3) := by decide +kernel
theorem dX10_copy_105 : decode cX10_copy 105 = .ok (.iconst 1, 1) := by decide +kernel
theorem dX10_copy_106 : decode cX10_copy 106 = .ok (.goto 4, 3) := by decide +kernel
theorem dX10_copy_109 : decode cX10_copy 109 = .ok (.iconst 0, 1) := by decide +kernel
theorem dX10_copy_110 : decode cX10_copy 110 = .ok (.istore 6, 2) := by decide +kernel
theorem dX10_copy_112 : decode cX10_copy 112 = .ok (.iload 6, 2) := by decide +kernel
theorem dX10_copy_114 : decode cX10_copy 114 = .ok (.ifCond .eq 30, 3) := by decide +kernel
theorem dX10_copy_117 : decode cX10_copy 117 = .ok (.iload 5, 2) := by decide +kernel
theorem dX10_copy_119 : decode cX10_copy 119 = .ok (.aload_n 0, 1) := by decide +kernel
theorem dX10_copy_120 : decode cX10_copy 120 = .ok (.getfield 13, 3) := by decide +kernel
theorem dX10_copy_123 : decode cX10_copy 123 = .ok (.iload_n 1, 1) := by decide +kernel
theorem dX10_copy_124 : decode cX10_copy 124 = .ok (.iaload, 1) := by decide +kernel
theorem dX10_copy_125 : decode cX10_copy 125 = .ok (.iload_n 2, 1) := by decide +kernel
theorem dX10_copy_126 : decode cX10_copy 126 = .ok (.isub, 1) := by decide +kernel
theorem dX10_copy_127 : decode cX10_copy 127 = .ok (.if_icmp .gt 17, 3) := by decide +kernel
theorem dX10_copy_130 : decode cX10_copy 130 = .ok (.iload 5, 2) := by decide +kernel
theorem dX10_copy_132 : decode cX10_copy 132 = .ok (.aload_n 0, 1) := by decide +kernel
theorem dX10_copy_133 : decode cX10_copy 133 = .ok (.getfield 13, 3) := by decide +kernel
theorem dX10_copy_136 : decode cX10_copy 136 = .ok (.iload_n 3, 1) := by decide +kernel
theorem dX10_copy_137 : decode cX10_copy 137 = .ok (.iaload, 1) := by decide +kernel
theorem dX10_copy_138 : decode cX10_copy 138 = .ok (.iload 4, 2) := by decide +kernel
theorem dX10_copy_140 : decode cX10_copy 140 = .ok (.isub, 1) := by decide +kernel
theorem dX10_copy_141 : decode cX10_copy 141 = .ok (.if_icmp .le 9, 3) := by decide +kernel
theorem dX10_copy_144 : decode cX10_copy 144 = .ok (.aload_n 0, 1) := by decide +kernel
theorem dX10_copy_145 : decode cX10_copy 145 = .ok (.iconst 3, 1) := by decide +kernel
theorem dX10_copy_146 : decode cX10_copy 146 = .ok (.invokevirtual 107, 3) := by decide +kernel
theorem dX10_copy_149 : decode cX10_copy 149 = .ok (.ireturn, 1) := by decide +kernel
theorem dX10_copy_150 : decode cX10_copy 150 = .ok (.iload_n 2, 1) := by decide +kernel
theorem dX10_copy_151 : decode cX10_copy 151 = .ok (.iload 4, 2) := by decide +kernel
theorem dX10_copy_153 : decode cX10_copy 153 = .ok (.if_icmp .ge 7, 3) := by decide +kernel
theorem dX10_copy_156 : decode cX10_copy 156 = .ok (.iconst 1, 1) := by decide +kernel
theorem dX10_copy_157 : decode cX10_copy 157 = .ok (.goto 4, 3) := by decide +kernel
theorem dX10_copy_160 : decode cX10_copy 160 = .ok (.iconst 0, 1) := by decide +kernel
theorem dX10_copy_161 : decode cX10_copy 161 = .ok (.istore 7, 2) := by decide +kernel
theorem dX10_copy_163 : decode cX10_copy 163 = .ok (.iconst 0, 1) := by decide +kernel
theorem dX10_copy_164 : decode cX10_copy 164 = .ok (.istore 8, 2) := by decide +kernel
theorem dX10_copy_166 : decode cX10_copy 166 = .ok (.iload 8, 2) := by decide +kernel
theorem dX10_copy_168 : decode cX10_copy 168 = .ok (.iload 5, 2) := by decide +kernel
theorem dX10_copy_170 : decode cX10_copy 170 = .ok (.if_icmp .ge 57, 3) := by decide +kernel
theorem dX10_copy_173 : decode cX10_copy 173 = .ok (.iload 7, 2) := by decide +kernel
theorem dX10_copy_175 : decode cX10_copy 175 = .ok (.ifCond .eq 13, 3) := by decide +kernel
theorem dX10_copy_178 : decode cX10_copy 178 = .ok (.iload 5, 2) := by decide +kernel
theorem dX10_copy_180 : decode cX10_copy 180 = .ok (.iconst 1, 1) := by decide +kernel
theorem dX10_copy_181 : decode cX10_copy 181 = .ok (.isub, 1) := by decide +kernel
theorem dX10_copy_182 : decode cX10_copy 182 = .ok (.iload 8, 2) := by decide +kernel
theorem dX10_copy_184 : decode cX10_copy 184 = .ok (.isub, 1) := by decide +kernel
theorem dX10_copy_185 : decode cX10_copy 185 = .ok (.goto 5, 3) := by decide +kernel
theorem dX10_copy_188 : decode cX10_copy 188 = .ok (.iload 8, 2) := by decide +kernel
theorem dX10_copy_190 : decode cX10_copy 190 = .ok (.istore 9, 2) := by decide +kernel
theorem dX10_copy_192 : decode cX10_copy 192 = .ok (.aload_n 0, 1) := by decide +kernel
theorem dX10_copy_193 : decode cX10_copy 193 = .ok (.getfield 16, 3) := by decide +kernel
theorem dX10_copy_196 : decode cX10_copy 196 = .ok (.bipush 60, 2) := by decide +kernel
theorem dX10_copy_198 : decode cX10_copy 198 = .ok (.iload_n 3, 1) := by decide +kernel
theorem dX10_copy_199 : decode cX10_copy 199 = .ok (.imul, 1) := by decide +kernel
theorem dX10_copy_200 : decode cX10_copy 200 = .ok (.iload 4, 2) := by decide +kernel
theorem dX10_copy_202 : decode cX10_copy 202 = .ok (.iadd, 1) := by decide +kernel
theorem dX10_copy_203 : decode cX10_copy 203 = .ok (.iload 9, 2) := by decide +kernel
theorem dX10_copy_205 : decode cX10_copy 205 = .ok (.iadd, 1) := by decide +kernel
theorem dX10_copy_206 : decode cX10_copy 206 = .ok (.aload_n 0, 1) := by decide +kernel
theorem dX10_copy_207 : decode cX10_copy 207 = .ok (.getfield 16, 3) := by decide +kernel
theorem dX10_copy_210 : decode cX10_copy 210 = .ok (.bipush 60, 2) := by decide +kernel
theorem dX10_copy_212 : decode cX10_copy 212 = .ok (.iload_n 1, 1) := by decide +kernel
theorem dX10_copy_213 : decode cX10_copy 213 = .ok (.imul, 1) := by decide +kernel
theorem dX10_copy_214 : decode cX10_copy 214 = .ok (.iload_n 2, 1) := by decide +kernel
theorem dX10_copy_215 : decode cX10_copy 215 = .ok (.iadd, 1) := by decide +kernel
theorem dX10_copy_216 : decode cX10_copy 216 = .ok (.iload 9, 2) := by decide +kernel
theorem dX10_copy_218 : decode cX10_copy 218 = .ok (.iadd, 1) := by decide +kernel
theorem dX10_copy_219 : decode cX10_copy 219 = .ok (.iaload, 1) := by decide +kernel
theorem dX10_copy_220 : decode cX10_copy 220 = .ok (.iastore, 1) := by decide +kernel
theorem dX10_copy_221 : decode cX10_copy 221 = .ok (.iinc 8 1, 3) := by decide +kernel
theorem dX10_copy_224 : decode cX10_copy 224 = .ok (.goto (-58), 3) := by decide +kernel
theorem dX10_copy_227 : decode cX10_copy 227 = .ok (.iload 5, 2) := by decide +kernel
theorem dX10_copy_229 : decode cX10_copy 229 = .ok (.ireturn, 1) := by decide +kernel
theorem dX10_begins_0 : decode cX10_begins 0 = .ok (.aload_n 0, 1) := by decide +kernel
theorem dX10_begins_1 : decode cX10_begins 1 = .ok (.bipush 31, 2) := by decide +kernel
theorem dX10_begins_3 : decode cX10_begins 3 = .ok (.aload_n 0, 1) := by decide +kernel
theorem dX10_begins_4 : decode cX10_begins 4 = .ok (.getfield 205, 3) := by decide +kernel
theorem dX10_begins_7 : decode cX10_begins 7 = .ok (.imul, 1) := by decide +kernel
theorem dX10_begins_8 : decode cX10_begins 8 = .ok (.iload_n 1, 1) := by decide +kernel
theorem dX10_begins_9 : decode cX10_begins 9 = .ok (.iadd, 1) := by decide +kernel
theorem dX10_begins_10 : decode cX10_begins 10 = .ok (.putfield 205, 3) := by decide +kernel
theorem dX10_begins_13 : decode cX10_begins 13 = .ok (.return_, 1) := by decide +kernel
set_option maxRecDepth 20000 in
theorem ggX10_tell_X10_isThing : GoodIn wsX10_tell wsX10_isThing := goodIn_r _ [7, 8, 14, 15, 16, 17, 18, 19, 20, 21, 22, 23, 24, 25, 26, 27, 28, 29, 30, 31, 32, 33, 34, 35, 36, 37, 38, 39, 40, 41, 42, 43, 44, 45, 46, 47] (by decide +kernel) (by decide +kernel)
set_option maxRecDepth 20000 in
theorem gX10_tell_X10_isThing : GoodIn wsX10_tell (wsV RX10 136 RX10 yX10_isThing wsX10_isThing) := goodIn_app (goodIn_of _ (by decide +kernel)) ggX10_tell_X10_isThing
set_option maxRecDepth 20000 in
theorem ggX10_tell_X10_begins : GoodIn wsX10_tell wsX10_begins := goodIn_r _ [12, 13, 14, 15, 16, 17, 18, 19, 20, 21, 22, 23, 24, 25, 26, 27, 28, 29, 30, 31, 32, 33, 34, 35, 36, 37, 38, 39, 40, 41, 42, 43, 44, 45, 46, 47] (by decide +kernel) (by decide +kernel)
set_option maxRecDepth 20000 in
theorem gX10_tell_X10_begins : GoodIn wsX10_tell (wsV RX10 208 RX10 yX10_begins wsX10_begins) := goodIn_app (goodIn_of _ (by decide +kernel)) ggX10_tell_X10_begins
theorem dX10_tell_0 : decode cX10_tell 0 = .ok (.aload_n 0, 1) := by decide +kernel
theorem dX10_tell_1 : decode cX10_tell 1 = .ok (.iload_n 1, 1) := by decide +kernel
theorem dX10_tell_2 : decode cX10_tell 2 = .ok (.invokevirtual 136, 3) := by decide +kernel
theorem dX10_tell_5 : decode cX10_tell 5 = .ok (.ifCond .ne 5, 3) := by decide +kernel
theorem dX10_tell_8 : decode cX10_tell 8 = .ok (.iconst (-1), 1) := by decide +kernel
theorem dX10_tell_9 : decode cX10_tell 9 = .ok (.ireturn, 1) := by decide +kernel
theorem dX10_tell_10 : decode cX10_tell 10 = .ok (.aload_n 0, 1) := by decide +kernel
theorem dX10_tell_11 : decode cX10_tell 11 = .ok (.getfield 28, 3) := by decide +kernel
theorem dX10_tell_14 : decode cX10_tell 14 = .ok (.iload_n 1, 1) := by decide +kernel
theorem dX10_tell_15 : decode cX10_tell 15 = .ok (.iaload, 1) := by decide +kernel
theorem dX10_tell_16 : decode cX10_tell 16 = .ok (.istore_n 2, 1) := by decide +kernel
theorem dX10_tell_17 : decode cX10_tell 17 = .ok (.aload_n 0, 1) := by decide +kernel
theorem dX10_tell_18 : decode cX10_tell 18 = .ok (.getfield 19, 3) := by decide +kernel
theorem dX10_tell_21 : decode cX10_tell 21 = .ok (.iload_n 1, 1) := by decide +kernel
theorem dX10_tell_22 : decode cX10_tell 22 = .ok (.iaload, 1) := by decide +kernel
theorem dX10_tell_23 : decode cX10_tell 23 = .ok (.lookupswitch 67 #[(1, 25), (2, 40)], 25) := by decide +kernel
theorem dX10_tell_48 : decode cX10_tell 48 = .ok (.aload_n 0, 1) := by decide +kernel
theorem dX10_tell_49 : decode cX10_tell 49 = .ok (.iconst 2, 1) := by decide +kernel
theorem dX10_tell_50 : decode cX10_tell 50 = .ok (.invokevirtual 208, 3) := by decide +kernel
theorem dX10_tell_53 : decode cX10_tell 53 = .ok (.aload_n 0, 1) := by decide +kernel
theorem dX10_tell_54 : decode cX10_tell 54 = .ok (.iconst 1, 1) := by decide +kernel
theorem dX10_tell_55 : decode cX10_tell 55 = .ok (.invokevirtual 208, 3) := by decide +kernel
theorem dX10_tell_58 : decode cX10_tell 58 = .ok (.iload_n 2, 1) := by decide +kernel
theorem dX10_tell_59 : decode cX10_tell 59 = .ok (.bipush 100, 2) := by decide +kernel
theorem dX10_tell_61 : decode cX10_tell 61 = .ok (.iadd, 1) := by decide +kernel
theorem dX10_tell_62 : decode cX10_tell 62 = .ok (.ireturn, 1) := by decide +kernel
theorem dX10_tell_63 : decode cX10_tell 63 = .ok (.aload_n 0, 1) := by decide +kernel
theorem dX10_tell_64 : decode cX10_tell 64 = .ok (.iconst 3, 1) := by decide +kernel
theorem dX10_tell_65 : decode cX10_tell 65 = .ok (.invokevirtual 208, 3) := by decide +kernel
theorem dX10_tell_68 : decode cX10_tell 68 = .ok (.aload_n 0, 1) := by decide +kernel
theorem dX10_tell_69 : decode cX10_tell 69 = .ok (.iconst 2, 1) := by decide +kernel
theorem dX10_tell_70 : decode cX10_tell 70 = .ok (.invokevirtual 208, 3) := by decide +kernel
theorem dX10_tell_73 : decode cX10_tell 73 = .ok (.aload_n 0, 1) := by decide +kernel
theorem dX10_tell_74 : decode cX10_tell 74 = .ok (.iconst 1, 1) := by decide +kernel
theorem dX10_tell_75 : decode cX10_tell 75 = .ok (.invokevirtual 208, 3) := by decide +kernel
theorem dX10_tell_78 : decode cX10_tell 78 = .ok (.aload_n 0, 1) := by decide +kernel
theorem dX10_tell_79 : decode cX10_tell 79 = .ok (.iconst 1, 1) := by decide +kernel
theorem dX10_tell_80 : decode cX10_tell 80 = .ok (.invokevirtual 208, 3) := by decide +kernel
theorem dX10_tell_83 : decode cX10_tell 83 = .ok (.iconst 2, 1) := by decide +kernel
theorem dX10_tell_84 : decode cX10_tell 84 = .ok (.iload_n 2, 1) := by decide +kernel
theorem dX10_tell_85 : decode cX10_tell 85 = .ok (.imul, 1) := by decide +kernel
theorem dX10_tell_86 : decode cX10_tell 86 = .ok (.bipush 100, 2) := by decide +kernel
theorem dX10_tell_88 : decode cX10_tell 88 = .ok (.iadd, 1) := by decide +kernel
theorem dX10_tell_89 : decode cX10_tell 89 = .ok (.ireturn, 1) := by decide +kernel
theorem dX10_tell_90 : decode cX10_tell 90 = .ok (.aload_n 0, 1) := by decide +kernel
theorem dX10_tell_91 : decode cX10_tell 91 = .ok (.iconst 1, 1) := by decide +kernel
theorem dX10_tell_92 : decode cX10_tell 92 = .ok (.invokevirtual 208, 3) := by decide +kernel
theorem dX10_tell_95 : decode cX10_tell 95 = .ok (.iload_n 2, 1) := by decide +kernel
theorem dX10_tell_96 : decode cX10_tell 96 = .ok (.ireturn, 1) := by decide +kernel
set_option maxRecDepth 20000 in
theorem ggX10_strike_X10_isThing : GoodIn wsX10_strike wsX10_isThing := goodIn_r _ [6, 7, 13, 14, 15, 16, 17, 18, 19, 20, 21, 22, 23, 24, 25, 26, 27, 28, 29, 30, 31, 32, 33, 34, 35, 36, 37, 38, 39, 40, 41, 42, 43, 44, 45, 46] (by decide +kernel) (by decide +kernel)
set_option maxRecDepth 20000 in
theorem gX10_strike_X10_isThing : GoodIn wsX10_strike (wsV RX10 136 RX10 yX10_isThing wsX10_isThing) := goodIn_app (goodIn_of _ (by decide +kernel)) ggX10_strike_X10_isThing
set_option maxRecDepth 20000 in
theorem ggX10_strike_X10_begins : GoodIn wsX10_strike wsX10_begins := goodIn_r _ [11, 12, 13, 14, 15, 16, 17, 18, 19, 20, 21, 22, 23, 24, 25, 26, 27, 28, 29, 30, 31, 32, 33, 34, 35, 36, 37, 38, 39, 40, 41, 42, 43, 44, 45, 46] (by decide +kernel) (by decide +kernel)
set_option maxRecDepth 20000 in
theorem gX10_strike_X10_begins : GoodIn wsX10_strike (wsV RX10 208 RX10 yX10_begins wsX10_begins) := goodIn_app (goodIn_of _ (by decide +kernel)) ggX10_strike_X10_begins
theorem dX10_strike_0 : decode cX10_strike 0 = .ok (.aload_n 0, 1) := by decide +kernel
theorem dX10_strike_1 : decode cX10_strike 1 = .ok (.iload_n 1, 1) := by decide +kernel
theorem dX10_strike_2 : decode cX10_strike 2 = .ok (.invokevirtual 136, 3) := by decide +kernel
theorem dX10_strike_5 : decode cX10_strike 5 = .ok (.ifCond .ne 5, 3) := by decide +kernel
theorem dX10_strike_8 : decode cX10_strike 8 = .ok (.iconst (-1), 1) := by decide +kernel
theorem dX10_strike_9 : decode cX10_strike 9 = .ok (.ireturn, 1) := by decide +kernel
theorem dX10_strike_10 : decode cX10_strike 10 = .ok (.aload_n 0, 1) := by decide +kernel
theorem dX10_strike_11 : decode cX10_strike 11 = .ok (.aload_n 0, 1) := by decide +kernel
theorem dX10_strike_12 : decode cX10_strike 12 = .ok (.getfield 19, 3) := by decide +kernel
theorem dX10_strike_15 : decode cX10_strike 15 = .ok (.iload_n 1, 1) := by decide +kernel
theorem dX10_strike_16 : decode cX10_strike 16 = .ok (.iaload, 1) := by decide +kernel
theorem dX10_strike_17 : decode cX10_strike 17 = .ok (.iconst 2, 1) := by decide +kernel
theorem dX10_strike_18 : decode cX10_strike 18 = .ok (.if_icmp .ne 7, 3) := by decide +kernel
theorem dX10_strike_21 : decode cX10_strike 21 = .ok (.iconst 5, 1) := by decide +kernel
theorem dX10_strike_22 : decode cX10_strike 22 = .ok (.goto 4, 3) := by decide +kernel
theorem dX10_strike_25 : decode cX10_strike 25 = .ok (.iconst 4, 1) := by decide +kernel
theorem dX10_strike_26 : decode cX10_strike 26 = .ok (.invokevirtual 208, 3) := by decide +kernel
theorem dX10_strike_29 : decode cX10_strike 29 = .ok (.aload_n 0, 1) := by decide +kernel
theorem dX10_strike_30 : decode cX10_strike 30 = .ok (.getfield 19, 3) := by decide +kernel
theorem dX10_strike_33 : decode cX10_strike 33 = .ok (.iload_n 1, 1) := by decide +kernel
theorem dX10_strike_34 : decode cX10_strike 34 = .ok (.iaload, 1) := by decide +kernel
theorem dX10_strike_35 : decode cX10_strike 35 = .ok (.iconst 2, 1) := by decide +kernel
theorem dX10_strike_36 : decode cX10_strike 36 = .ok (.if_icmp .ne 8, 3) := by decide +kernel
theorem dX10_strike_39 : decode cX10_strike 39 = .ok (.bipush 30, 2) := by decide +kernel
theorem dX10_strike_41 : decode cX10_strike 41 = .ok (.goto 4, 3) := by decide +kernel
theorem dX10_strike_44 : decode cX10_strike 44 = .ok (.iload_n 1, 1) := by decide +kernel
theorem dX10_strike_45 : decode cX10_strike 45 = .ok (.ireturn, 1) := by decide +kernel
set_option maxRecDepth 20000 in
theorem ggX10_as_X10_isThing : GoodIn wsX10_as wsX10_isThing := goodIn_r _ [7, 8, 16, 17, 18, 19, 20, 21, 22, 23, 24, 25, 26, 27, 28, 29, 30, 31, 32, 33, 34, 35, 36, 37, 38, 39, 40, 41, 42, 43, 44, 45, 46, 47, 48, 49] (by decide +kernel) (by decide +kernel)
set_option maxRecDepth 20000 in
theorem gX10_as_X10_isThing : GoodIn wsX10_as (wsV RX10 136 RX10 yX10_isThing wsX10_isThing) := goodIn_app (goodIn_of _ (by decide +kernel)) ggX10_as_X10_isThing
set_option maxRecDepth 20000 in
theorem ggX10_as_X10_within : GoodIn wsX10_as wsX10_within := goodIn_r _ [11] (by decide +kernel) (by decide +kernel)
set_option maxRecDepth 20000 in
theorem gX10_as_X10_within : GoodIn wsX10_as (va_wsS RX10 86 yX10_within wsX10_within) := goodIn_app (goodIn_of _ (by decide +kernel)) ggX10_as_X10_within
set_option maxRecDepth 20000 in
theorem ggX10_as_X10_fails : GoodIn wsX10_as wsX10_fails := goodIn_r _ [15, 1, 16, 17, 18, 19, 20, 21, 22, 23, 24, 25, 26, 27, 28, 29, 30, 31, 32, 33, 34, 35, 36, 37, 38, 39, 40, 41, 42, 43, 44, 45, 46, 47, 48, 49] (by decide +kernel) (by decide +kernel)
set_option maxRecDepth 20000 in
theorem gX10_as_X10_fails : GoodIn wsX10_as (wsV RX10 107 RX10 yX10_fails wsX10_fails) := goodIn_app (goodIn_of _ (by decide +kernel)) ggX10_as_X10_fails
theorem dX10_as_0 : decode cX10_as 0 = .ok (.aload_n 0, 1) := by decide +kernel
theorem dX10_as_1 : decode cX10_as 1 = .ok (.iconst 0, 1) := by decide +kernel
theorem dX10_as_2 : decode cX10_as 2 = .ok (.putfield 80, 3) := by decide +kernel
theorem dX10_as_5 : decode cX10_as 5 = .ok (.aload_n 0, 1) := by decide +kernel
theorem dX10_as_6 : decode cX10_as 6 = .ok (.iload_n 1, 1) := by decide +kernel
theorem dX10_as_7 : decode cX10_as 7 = .ok (.invokevirtual 136, 3) := by decide +kernel
theorem dX10_as_10 : decode cX10_as 10 = .ok (.ifCond .ne 5, 3) := by decide +kernel
theorem dX10_as_13 : decode cX10_as 13 = .ok (.iconst (-1), 1) := by decide +kernel
theorem dX10_as_14 : decode cX10_as 14 = .ok (.ireturn, 1) := by decide +kernel
theorem dX10_as_15 : decode cX10_as 15 = .ok (.iload_n 2, 1) := by decide +kernel
theorem dX10_as_16 : decode cX10_as 16 = .ok (.iconst 0, 1) := by decide +kernel
theorem dX10_as_17 : decode cX10_as 17 = .ok (.iconst 2, 1) := by decide +kernel
theorem dX10_as_18 : decode cX10_as 18 = .ok (.invokestatic 86, 3) := by decide +kernel
theorem dX10_as_21 : decode cX10_as 21 = .ok (.ifCond .ne 6, 3) := by decide +kernel
theorem dX10_as_24 : decode cX10_as 24 = .ok (.bipush (-2), 2) := by decide +kernel
theorem dX10_as_26 : decode cX10_as 26 = .ok (.ireturn, 1) := by decide +kernel
theorem dX10_as_27 : decode cX10_as 27 = .ok (.aload_n 0, 1) := by decide +kernel
theorem dX10_as_28 : decode cX10_as 28 = .ok (.getfield 19, 3) := by decide +kernel
theorem dX10_as_31 : decode cX10_as 31 = .ok (.iload_n 1, 1) := by decide +kernel
theorem dX10_as_32 : decode cX10_as 32 = .ok (.iaload, 1) := by decide +kernel
theorem dX10_as_33 : decode cX10_as 33 = .ok (.iload_n 2, 1) := by decide +kernel
theorem dX10_as_34 : decode cX10_as 34 = .ok (.if_icmp .lt 7, 3) := by decide +kernel
theorem dX10_as_37 : decode cX10_as 37 = .ok (.iconst 1, 1) := by decide +kernel
theorem dX10_as_38 : decode cX10_as 38 = .ok (.goto 8, 3) := by decide +kernel
theorem dX10_as_41 : decode cX10_as 41 = .ok (.aload_n 0, 1) := by decide +kernel
theorem dX10_as_42 : decode cX10_as 42 = .ok (.iconst 2, 1) := by decide +kernel
theorem dX10_as_43 : decode cX10_as 43 = .ok (.invokevirtual 107, 3) := by decide +kernel
theorem dX10_as_46 : decode cX10_as 46 = .ok (.ireturn, 1) := by decide +kernel
theorem dX10_trace_0 : decode cX10_trace 0 = .ok (.aload_n 0, 1) := by decide +kernel
theorem dX10_trace_1 : decode cX10_trace 1 = .ok (.getfield 205, 3) := by decide +kernel
theorem dX10_trace_4 : decode cX10_trace 4 = .ok (.ireturn, 1) := by decide +kernel
theorem dX10_fault_0 : decode cX10_fault 0 = .ok (.aload_n 0, 1) := by decide +kernel
theorem dX10_fault_1 : decode cX10_fault 1 = .ok (.getfield 80, 3) := by decide +kernel
theorem dX10_fault_4 : decode cX10_fault 4 = .ok (.ireturn, 1) := by decide +kernel
theorem dX10_many_0 : decode cX10_many 0 = .ok (.iload_n 1, 1) := by decide +kernel
theorem dX10_many_1 : decode cX10_many 1 = .ok (.ifCond .ne 10, 3) := by decide +kernel
theorem dX10_many_4 : decode cX10_many 4 = .ok (.aload_n 0, 1) := by decide +kernel
theorem dX10_many_5 : decode cX10_many 5 = .ok (.getfield 90, 3) := by decide +kernel
theorem dX10_many_8 : decode cX10_many 8 = .ok (.goto 41, 3) := by decide +kernel
theorem dX10_many_11 : decode cX10_many 11 = .ok (.iload_n 1, 1) := by decide +kernel
theorem dX10_many_12 : decode cX10_many 12 = .ok (.iconst 1, 1) := by decide +kernel
theorem dX10_many_13 : decode cX10_many 13 = .ok (.if_icmp .ne 10, 3) := by decide +kernel
theorem dX10_many_16 : decode cX10_many 16 = .ok (.aload_n 0, 1) := by decide +kernel
theorem dX10_many_17 : decode cX10_many 17 = .ok (.getfield 117, 3) := by decide +kernel
theorem dX10_many_20 : decode cX10_many 20 = .ok (.goto 29, 3) := by decide +kernel
theorem dX10_many_23 : decode cX10_many 23 = .ok (.iload_n 1, 1) := by decide +kernel
theorem dX10_many_24 : decode cX10_many 24 = .ok (.iconst 2, 1) := by decide +kernel
theorem dX10_many_25 : decode cX10_many 25 = .ok (.if_icmp .ne 10, 3) := by decide +kernel
theorem dX10_many_28 : decode cX10_many 28 = .ok (.aload_n 0, 1) := by decide +kernel
theorem dX10_many_29 : decode cX10_many 29 = .ok (.getfield 123, 3) := by decide +kernel
theorem dX10_many_32 : decode cX10_many 32 = .ok (.goto 17, 3) := by decide +kernel
theorem dX10_many_35 : decode cX10_many 35 = .ok (.iload_n 1, 1) := by decide +kernel
theorem dX10_many_36 : decode cX10_many 36 = .ok (.iconst 3, 1) := by decide +kernel
theorem dX10_many_37 : decode cX10_many 37 = .ok (.if_icmp .ne 10, 3) := by decide +kernel
theorem dX10_many_40 : decode cX10_many 40 = .ok (.aload_n 0, 1) := by decide +kernel
theorem dX10_many_41 : decode cX10_many 41 = .ok (.getfield 126, 3) := by decide +kernel
theorem dX10_many_44 : decode cX10_many 44 = .ok (.goto 5, 3) := by decide +kernel
theorem dX10_many_47 : decode cX10_many 47 = .ok (.bipush (-2), 2) := by decide +kernel
theorem dX10_many_49 : decode cX10_many 49 = .ok (.ireturn, 1) := by decide +kernel

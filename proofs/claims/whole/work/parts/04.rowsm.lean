theorem dX10_init_0 : decode cX10_init 0 = .ok (.aload_n 0, 1) := by decide +kernel
theorem dX10_init_1 : decode cX10_init 1 = .ok (.invokespecial 1, 3) := by decide +kernel
theorem dX10_init_4 : decode cX10_init 4 = .ok (.aload_n 0, 1) := by decide +kernel
theorem dX10_init_5 : decode cX10_init 5 = .ok (.iconst 4, 1) := by decide +kernel
theorem dX10_init_6 : decode cX10_init 6 = .ok (.newarray .int, 2) := by decide +kernel
theorem dX10_init_8 : decode cX10_init 8 = .ok (.dup, 1) := by decide +kernel
theorem dX10_init_9 : decode cX10_init 9 = .ok (.iconst 0, 1) := by decide +kernel
theorem dX10_init_10 : decode cX10_init 10 = .ok (.bipush (-9), 2) := by decide +kernel
theorem dX10_init_12 : decode cX10_init 12 = .ok (.iastore, 1) := by decide +kernel
theorem dX10_init_13 : decode cX10_init 13 = .ok (.dup, 1) := by decide +kernel
theorem dX10_init_14 : decode cX10_init 14 = .ok (.iconst 1, 1) := by decide +kernel
theorem dX10_init_15 : decode cX10_init 15 = .ok (.bipush (-9), 2) := by decide +kernel
theorem dX10_init_17 : decode cX10_init 17 = .ok (.iastore, 1) := by decide +kernel
theorem dX10_init_18 : decode cX10_init 18 = .ok (.dup, 1) := by decide +kernel
theorem dX10_init_19 : decode cX10_init 19 = .ok (.iconst 2, 1) := by decide +kernel
theorem dX10_init_20 : decode cX10_init 20 = .ok (.bipush (-9), 2) := by decide +kernel
theorem dX10_init_22 : decode cX10_init 22 = .ok (.iastore, 1) := by decide +kernel
theorem dX10_init_23 : decode cX10_init 23 = .ok (.dup, 1) := by decide +kernel
theorem dX10_init_24 : decode cX10_init 24 = .ok (.iconst 3, 1) := by decide +kernel
theorem dX10_init_25 : decode cX10_init 25 = .ok (.bipush (-9), 2) := by decide +kernel
theorem dX10_init_27 : decode cX10_init 27 = .ok (.iastore, 1) := by decide +kernel
theorem dX10_init_28 : decode cX10_init 28 = .ok (.putfield 9, 3) := by decide +kernel
theorem dX10_init_31 : decode cX10_init 31 = .ok (.aload_n 0, 1) := by decide +kernel
theorem dX10_init_32 : decode cX10_init 32 = .ok (.iconst 4, 1) := by decide +kernel
theorem dX10_init_33 : decode cX10_init 33 = .ok (.newarray .int, 2) := by decide +kernel
theorem dX10_init_35 : decode cX10_init 35 = .ok (.putfield 13, 3) := by decide +kernel
theorem dX10_init_38 : decode cX10_init 38 = .ok (.aload_n 0, 1) := by decide +kernel
theorem dX10_init_39 : decode cX10_init 39 = .ok (.sipush 240, 3) := by decide +kernel
theorem dX10_init_42 : decode cX10_init 42 = .ok (.newarray .int, 2) := by decide +kernel
theorem dX10_init_44 : decode cX10_init 44 = .ok (.putfield 16, 3) := by decide +kernel
theorem dX10_init_47 : decode cX10_init 47 = .ok (.aload_n 0, 1) := by decide +kernel
theorem dX10_init_48 : decode cX10_init 48 = .ok (.bipush 6, 2) := by decide +kernel
theorem dX10_init_50 : decode cX10_init 50 = .ok (.newarray .int, 2) := by decide +kernel
theorem dX10_init_52 : decode cX10_init 52 = .ok (.putfield 19, 3) := by decide +kernel
theorem dX10_init_55 : decode cX10_init 55 = .ok (.aload_n 0, 1) := by decide +kernel
theorem dX10_init_56 : decode cX10_init 56 = .ok (.bipush 6, 2) := by decide +kernel
theorem dX10_init_58 : decode cX10_init 58 = .ok (.newarray .int, 2) := by decide +kernel
theorem dX10_init_60 : decode cX10_init 60 = .ok (.putfield 22, 3) := by decide +kernel
theorem dX10_init_63 : decode cX10_init 63 = .ok (.aload_n 0, 1) := by decide +kernel
theorem dX10_init_64 : decode cX10_init 64 = .ok (.bipush 6, 2) := by decide +kernel
theorem dX10_init_66 : decode cX10_init 66 = .ok (.newarray .int, 2) := by decide +kernel
theorem dX10_init_68 : decode cX10_init 68 = .ok (.putfield 25, 3) := by decide +kernel
theorem dX10_init_71 : decode cX10_init 71 = .ok (.aload_n 0, 1) := by decide +kernel
theorem dX10_init_72 : decode cX10_init 72 = .ok (.bipush 6, 2) := by decide +kernel
theorem dX10_init_74 : decode cX10_init 74 = .ok (.newarray .int, 2) := by decide +kernel
theorem dX10_init_76 : decode cX10_init 76 = .ok (.putfield 28, 3) := by decide +kernel
theorem dX10_init_79 : decode cX10_init 79 = .ok (.aload_n 0, 1) := by decide +kernel
theorem dX10_init_80 : decode cX10_init 80 = .ok (.bipush 6, 2) := by decide +kernel
theorem dX10_init_82 : decode cX10_init 82 = .ok (.newarray .int, 2) := by decide +kernel
theorem dX10_init_84 : decode cX10_init 84 = .ok (.putfield 31, 3) := by decide +kernel
theorem dX10_init_87 : decode cX10_init 87 = .ok (.aload_n 0, 1) := by decide +kernel
theorem dX10_init_88 : decode cX10_init 88 = .ok (.bipush 6, 2) := by decide +kernel
theorem dX10_init_90 : decode cX10_init 90 = .ok (.newarray .int, 2) := by decide +kernel
theorem dX10_init_92 : decode cX10_init 92 = .ok (.putfield 34, 3) := by decide +kernel
theorem dX10_init_95 : decode cX10_init 95 = .ok (.aload_n 0, 1) := by decide +kernel
theorem dX10_init_96 : decode cX10_init 96 = .ok (.bipush 6, 2) := by decide +kernel
theorem dX10_init_98 : decode cX10_init 98 = .ok (.newarray .int, 2) := by decide +kernel
theorem dX10_init_100 : decode cX10_init 100 = .ok (.putfield 37, 3) := by decide +kernel
theorem dX10_init_103 : decode cX10_init 103 = .ok (.aload_n 0, 1) := by decide +kernel
theorem dX10_init_104 : decode cX10_init 104 = .ok (.bipush 6, 2) := by decide +kernel
theorem dX10_init_106 : decode cX10_init 106 = .ok (.newarray .int, 2) := by decide +kernel
theorem dX10_init_108 : decode cX10_init 108 = .ok (.putfield 40, 3) := by decide +kernel
theorem dX10_init_111 : decode cX10_init 111 = .ok (.aload_n 0, 1) := by decide +kernel
theorem dX10_init_112 : decode cX10_init 112 = .ok (.bipush 6, 2) := by decide +kernel
theorem dX10_init_114 : decode cX10_init 114 = .ok (.newarray .int, 2) := by decide +kernel
theorem dX10_init_116 : decode cX10_init 116 = .ok (.putfield 43, 3) := by decide +kernel
theorem dX10_init_119 : decode cX10_init 119 = .ok (.aload_n 0, 1) := by decide +kernel
theorem dX10_init_120 : decode cX10_init 120 = .ok (.bipush 6, 2) := by decide +kernel
theorem dX10_init_122 : decode cX10_init 122 = .ok (.newarray .int, 2) := by decide +kernel
theorem dX10_init_124 : decode cX10_init 124 = .ok (.putfield 46, 3) := by decide +kernel
theorem dX10_init_127 : decode cX10_init 127 = .ok (.aload_n 0, 1) := by decide +kernel
theorem dX10_init_128 : decode cX10_init 128 = .ok (.bipush 8, 2) := by decide +kernel
theorem dX10_init_130 : decode cX10_init 130 = .ok (.newarray .int, 2) := by decide +kernel
theorem dX10_init_132 : decode cX10_init 132 = .ok (.putfield 49, 3) := by decide +kernel
theorem dX10_init_135 : decode cX10_init 135 = .ok (.aload_n 0, 1) := by decide +kernel
theorem dX10_init_136 : decode cX10_init 136 = .ok (.sipush 400, 3) := by decide +kernel
theorem dX10_init_139 : decode cX10_init 139 = .ok (.newarray .int, 2) := by decide +kernel
theorem dX10_init_141 : decode cX10_init 141 = .ok (.putfield 52, 3) := by decide +kernel
theorem dX10_init_144 : decode cX10_init 144 = .ok (.aload_n 0, 1) := by decide +kernel
theorem dX10_init_145 : decode cX10_init 145 = .ok (.sipush 400, 3) := by decide +kernel
theorem dX10_init_148 : decode cX10_init 148 = .ok (.newarray .int, 2) := by decide +kernel
theorem dX10_init_150 : decode cX10_init 150 = .ok (.putfield 55, 3) := by decide +kernel
theorem dX10_init_153 : decode cX10_init 153 = .ok (.aload_n 0, 1) := by decide +kernel
theorem dX10_init_154 : decode cX10_init 154 = .ok (.sipush 400, 3) := by decide +kernel
theorem dX10_init_157 : decode cX10_init 157 = .ok (.newarray .int, 2) := by decide +kernel
theorem dX10_init_159 : decode cX10_init 159 = .ok (.putfield 58, 3) := by decide +kernel
theorem dX10_init_162 : decode cX10_init 162 = .ok (.aload_n 0, 1) := by decide +kernel
theorem dX10_init_163 : decode cX10_init 163 = .ok (.sipush 1800, 3) := by decide +kernel
theorem dX10_init_166 : decode cX10_init 166 = .ok (.newarray .boolean, 2) := by decide +kernel
theorem dX10_init_168 : decode cX10_init 168 = .ok (.putfield 61, 3) := by decide +kernel
theorem dX10_init_171 : decode cX10_init 171 = .ok (.aload_n 0, 1) := by decide +kernel
theorem dX10_init_172 : decode cX10_init 172 = .ok (.bipush 6, 2) := by decide +kernel
theorem dX10_init_174 : decode cX10_init 174 = .ok (.newarray .int, 2) := by decide +kernel
theorem dX10_init_176 : decode cX10_init 176 = .ok (.putfield 65, 3) := by decide +kernel
theorem dX10_init_179 : decode cX10_init 179 = .ok (.aload_n 0, 1) := by decide +kernel
theorem dX10_init_180 : decode cX10_init 180 = .ok (.bipush 64, 2) := by decide +kernel
theorem dX10_init_182 : decode cX10_init 182 = .ok (.newarray .int, 2) := by decide +kernel
theorem dX10_init_184 : decode cX10_init 184 = .ok (.putfield 68, 3) := by decide +kernel
theorem dX10_init_187 : decode cX10_init 187 = .ok (.aload_n 0, 1) := by decide +kernel
theorem dX10_init_188 : decode cX10_init 188 = .ok (.bipush 8, 2) := by decide +kernel
theorem dX10_init_190 : decode cX10_init 190 = .ok (.newarray .int, 2) := by decide +kernel
theorem dX10_init_192 : decode cX10_init 192 = .ok (.putfield 71, 3) := by decide +kernel
theorem dX10_init_195 : decode cX10_init 195 = .ok (.aload_n 0, 1) := by decide +kernel
theorem dX10_init_196 : decode cX10_init 196 = .ok (.bipush 8, 2) := by decide +kernel
theorem dX10_init_198 : decode cX10_init 198 = .ok (.newarray .int, 2) := by decide +kernel
theorem dX10_init_200 : decode cX10_init 200 = .ok (.putfield 74, 3) := by decide +kernel
theorem dX10_init_203 : decode cX10_init 203 = .ok (.aload_n 0, 1) := by decide +kernel
theorem dX10_init_204 : decode cX10_init 204 = .ok (.bipush 8, 2) := by decide +kernel
theorem dX10_init_206 : decode cX10_init 206 = .ok (.newarray .boolean, 2) := by decide +kernel
theorem dX10_init_208 : decode cX10_init 208 = .ok (.putfield 77, 3) := by decide +kernel
theorem dX10_init_211 : decode cX10_init 211 = .ok (.return_, 1) := by decide +kernel
theorem dX10_fails_0 : decode cX10_fails 0 = .ok (.aload_n 0, 1) := by decide +kernel
theorem dX10_fails_1 : decode cX10_fails 1 = .ok (.iload_n 1, 1) := by decide +kernel
theorem dX10_fails_2 : decode cX10_fails 2 = .ok (.putfield 80, 3) := by decide +kernel
theorem dX10_fails_5 : decode cX10_fails 5 = .ok (.bipush (-10), 2) := by decide +kernel
theorem dX10_fails_7 : decode cX10_fails 7 = .ok (.iload_n 1, 1) := by decide +kernel
theorem dX10_fails_8 : decode cX10_fails 8 = .ok (.isub, 1) := by decide +kernel
theorem dX10_fails_9 : decode cX10_fails 9 = .ok (.ireturn, 1) := by decide +kernel
theorem dX10_lost_0 : decode cX10_lost 0 = .ok (.aload_n 0, 1) := by decide +kernel
theorem dX10_lost_1 : decode cX10_lost 1 = .ok (.iload_n 1, 1) := by decide +kernel
theorem dX10_lost_2 : decode cX10_lost 2 = .ok (.putfield 80, 3) := by decide +kernel
theorem dX10_lost_5 : decode cX10_lost 5 = .ok (.ldc2_w 84, 3) := by decide +kernel
theorem dX10_lost_8 : decode cX10_lost 8 = .ok (.lreturn, 1) := by decide +kernel
theorem dX10_within_0 : decode cX10_within 0 = .ok (.iload_n 0, 1) := by decide +kernel
theorem dX10_within_1 : decode cX10_within 1 = .ok (.iload_n 1, 1) := by decide +kernel
theorem dX10_within_2 : decode cX10_within 2 = .ok (.if_icmp .lt 12, 3) := by decide +kernel
theorem dX10_within_5 : decode cX10_within 5 = .ok (.iload_n 0, 1) := by decide +kernel
theorem dX10_within_6 : decode cX10_within 6 = .ok (.iload_n 2, 1) := by decide +kernel
theorem dX10_within_7 : decode cX10_within 7 = .ok (.if_icmp .gt 7, 3) := by decide +kernel
theorem dX10_within_10 : decode cX10_within 10 = .ok (.iconst 1, 1) := by decide +kernel
theorem dX10_within_11 : decode cX10_within 11 = .ok (.goto 4, 3) := by decide +kernel
theorem dX10_within_14 : decode cX10_within 14 = .ok (.iconst 0, 1) := by decide +kernel
theorem dX10_within_15 : decode cX10_within 15 = .ok (.ireturn, 1) := by decide +kernel
set_option maxRecDepth 20000 in
theorem ggX10_isSheet_X10_within : GoodIn wsX10_isSheet wsX10_within := goodIn_r _ [4] (by decide +kernel) (by decide +kernel)
set_option maxRecDepth 20000 in
theorem gX10_isSheet_X10_within : GoodIn wsX10_isSheet (va_wsS RX10 86 yX10_within wsX10_within) := goodIn_app (goodIn_of _ (by decide +kernel)) ggX10_isSheet_X10_within
theorem dX10_isSheet_0 : decode cX10_isSheet 0 = .ok (.iload_n 0, 1) := by decide +kernel
theorem dX10_isSheet_1 : decode cX10_isSheet 1 = .ok (.iconst 0, 1) := by decide +kernel
theorem dX10_isSheet_2 : decode cX10_isSheet 2 = .ok (.iconst 3, 1) := by decide +kernel
theorem dX10_isSheet_3 : decode cX10_isSheet 3 = .ok (.invokestatic 86, 3) := by decide +kernel
theorem dX10_isSheet_6 : decode cX10_isSheet 6 = .ok (.ireturn, 1) := by decide +kernel
set_option maxRecDepth 20000 in
theorem ggX10_isSort_X10_within : GoodIn wsX10_isSort wsX10_within := goodIn_r _ [4] (by decide +kernel) (by decide +kernel)
set_option maxRecDepth 20000 in
theorem gX10_isSort_X10_within : GoodIn wsX10_isSort (va_wsS RX10 86 yX10_within wsX10_within) := goodIn_app (goodIn_of _ (by decide +kernel)) ggX10_isSort_X10_within
theorem dX10_isSort_0 : decode cX10_isSort 0 = .ok (.iload_n 0, 1) := by decide +kernel
theorem dX10_isSort_1 : decode cX10_isSort 1 = .ok (.iconst 0, 1) := by decide +kernel
theorem dX10_isSort_2 : decode cX10_isSort 2 = .ok (.iconst 2, 1) := by decide +kernel
theorem dX10_isSort_3 : decode cX10_isSort 3 = .ok (.invokestatic 86, 3) := by decide +kernel
theorem dX10_isSort_6 : decode cX10_isSort 6 = .ok (.ireturn, 1) := by decide +kernel
theorem dX10_against_0 : decode cX10_against 0 = .ok (.aload_n 0, 1) := by decide +kernel
theorem dX10_against_1 : decode cX10_against 1 = .ok (.getfield 9, 3) := by decide +kernel
theorem dX10_against_4 : decode cX10_against 4 = .ok (.iload_n 1, 1) := by decide +kernel
theorem dX10_against_5 : decode cX10_against 5 = .ok (.iaload, 1) := by decide +kernel
theorem dX10_against_6 : decode cX10_against 6 = .ok (.bipush (-9), 2) := by decide +kernel
theorem dX10_against_8 : decode cX10_against 8 = .ok (.if_icmp .eq 15, 3) := by decide +kernel
theorem dX10_against_11 : decode cX10_against 11 = .ok (.aload_n 0, 1) := by decide +kernel
theorem dX10_against_12 : decode cX10_against 12 = .ok (.getfield 9, 3) := by decide +kernel
theorem dX10_against_15 : decode cX10_against 15 = .ok (.iload_n 1, 1) := by decide +kernel
theorem dX10_against_16 : decode cX10_against 16 = .ok (.iaload, 1) := by decide +kernel
theorem dX10_against_17 : decode cX10_against 17 = .ok (.iload_n 2, 1) := by decide +kernel
theorem dX10_against_18 : decode cX10_against 18 = .ok (.if_icmp .eq 5, 3) := by decide +kernel
theorem dX10_against_21 : decode cX10_against 21 = .ok (.iconst 2, 1) := by decide +kernel
theorem dX10_against_22 : decode cX10_against 22 = .ok (.ireturn, 1) := by decide +kernel
theorem dX10_against_23 : decode cX10_against 23 = .ok (.aload_n 0, 1) := by decide +kernel
theorem dX10_against_24 : decode cX10_against 24 = .ok (.getfield 9, 3) := by decide +kernel
theorem dX10_against_27 : decode cX10_against 27 = .ok (.iload_n 1, 1) := by decide +kernel
theorem dX10_against_28 : decode cX10_against 28 = .ok (.iaload, 1) := by decide +kernel
theorem dX10_against_29 : decode cX10_against 29 = .ok (.bipush (-9), 2) := by decide +kernel
theorem dX10_against_31 : decode cX10_against 31 = .ok (.if_icmp .ne 5, 3) := by decide +kernel
theorem dX10_against_34 : decode cX10_against 34 = .ok (.iconst 1, 1) := by decide +kernel
theorem dX10_against_35 : decode cX10_against 35 = .ok (.ireturn, 1) := by decide +kernel
theorem dX10_against_36 : decode cX10_against 36 = .ok (.iload 4, 2) := by decide +kernel
theorem dX10_against_38 : decode cX10_against 38 = .ok (.ifCond .ge 5, 3) := by decide +kernel
theorem dX10_against_41 : decode cX10_against 41 = .ok (.iconst 4, 1) := by decide +kernel
theorem dX10_against_42 : decode cX10_against 42 = .ok (.ireturn, 1) := by decide +kernel
theorem dX10_against_43 : decode cX10_against 43 = .ok (.iload_n 3, 1) := by decide +kernel
theorem dX10_against_44 : decode cX10_against 44 = .ok (.ifCond .lt 26, 3) := by decide +kernel
theorem dX10_against_47 : decode cX10_against 47 = .ok (.iload_n 3, 1) := by decide +kernel
theorem dX10_against_48 : decode cX10_against 48 = .ok (.aload_n 0, 1) := by decide +kernel
theorem dX10_against_49 : decode cX10_against 49 = .ok (.getfield 13, 3) := by decide +kernel
theorem dX10_against_52 : decode cX10_against 52 = .ok (.iload_n 1, 1) := by decide +kernel
theorem dX10_against_53 : decode cX10_against 53 = .ok (.iaload, 1) := by decide +kernel
theorem dX10_against_54 : decode cX10_against 54 = .ok (.if_icmp .gt 16, 3) := by decide +kernel
theorem dX10_against_57 : decode cX10_against 57 = .ok (.iload 4, 2) := by decide +kernel
theorem dX10_against_59 : decode cX10_against 59 = .ok (.aload_n 0, 1) := by decide +kernel
theorem dX10_against_60 : decode cX10_against 60 = .ok (.getfield 13, 3) := by decide +kernel
theorem dX10_against_63 : decode cX10_against 63 = .ok (.iload_n 1, 1) := by decide +kernel
theorem dX10_against_64 : decode cX10_against 64 = .ok (.iaload, 1) := by decide +kernel
theorem dX10_against_65 : decode cX10_against 65 = .ok (.iload_n 3, 1) := by decide +kernel
theorem dX10_against_66 : decode cX10_against 66 = .ok (.isub, 1) := by decide +kernel
theorem dX10_against_67 : decode cX10_against 67 = .ok (.if_icmp .le 7, 3) := by decide +kernel
theorem dX10_against_70 : decode cX10_against 70 = .ok (.iconst 3, 1) := by decide +kernel
theorem dX10_against_71 : decode cX10_against 71 = .ok (.goto 4, 3) := by decide +kernel
theorem dX10_against_74 : decode cX10_against 74 = .ok (.iconst 0, 1) := by decide +kernel
theorem dX10_against_75 : decode cX10_against 75 = .ok (.ireturn, 1) := by decide +kernel
theorem dX10_isThing_0 : decode cX10_isThing 0 = .ok (.iload_n 1, 1) := by decide +kernel
theorem dX10_isThing_1 : decode cX10_isThing 1 = .ok (.ifCond .lt 15, 3) := by decide +kernel
theorem dX10_isThing_4 : decode cX10_isThing 4 = .ok (.iload_n 1, 1) := by decide +kernel
theorem dX10_isThing_5 : decode cX10_isThing 5 = .ok (.aload_n 0, 1) := by decide +kernel
theorem dX10_isThing_6 : decode cX10_isThing 6 = .ok (.getfield 90, 3) := by decide +kernel
theorem dX10_isThing_9 : decode cX10_isThing 9 = .ok (.if_icmp .ge 7, 3) := by decide +kernel
theorem dX10_isThing_12 : decode cX10_isThing 12 = .ok (.iconst 1, 1) := by decide +kernel
theorem dX10_isThing_13 : decode cX10_isThing 13 = .ok (.goto 4, 3) := by decide +kernel
theorem dX10_isThing_16 : decode cX10_isThing 16 = .ok (.iconst 0, 1) := by decide +kernel
theorem dX10_isThing_17 : decode cX10_isThing 17 = .ok (.ireturn, 1) := by decide +kernel
set_option maxRecDepth 20000 in
theorem ggX10_digit_X10_within : GoodIn wsX10_digit wsX10_within := goodIn_r _ [6] (by decide +kernel) (by decide +kernel)
set_option maxRecDepth 20000 in
theorem gX10_digit_X10_within : GoodIn wsX10_digit (va_wsS RX10 86 yX10_within wsX10_within) := goodIn_app (goodIn_of _ (by decide +kernel)) ggX10_digit_X10_within
theorem dX10_digit_0 : decode cX10_digit 0 = .ok (.aload_n 0, 1) := by decide +kernel
theorem dX10_digit_1 : decode cX10_digit 1 = .ok (.getfield 93, 3) := by decide +kernel
theorem dX10_digit_4 : decode cX10_digit 4 = .ok (.iload_n 1, 1) := by decide +kernel
theorem dX10_digit_5 : decode cX10_digit 5 = .ok (.if_icmp .ge 24, 3) := by decide +kernel
theorem dX10_digit_8 : decode cX10_digit 8 = .ok (.aload_n 0, 1) := by decide +kernel
theorem dX10_digit_9 : decode cX10_digit 9 = .ok (.getfield 16, 3) := by decide +kernel
theorem dX10_digit_12 : decode cX10_digit 12 = .ok (.aload_n 0, 1) := by decide +kernel
theorem dX10_digit_13 : decode cX10_digit 13 = .ok (.getfield 93, 3) := by decide +kernel
theorem dX10_digit_16 : decode cX10_digit 16 = .ok (.iaload, 1) := by decide +kernel
theorem dX10_digit_17 : decode cX10_digit 17 = .ok (.bipush 48, 2) := by decide +kernel
theorem dX10_digit_19 : decode cX10_digit 19 = .ok (.iload_n 2, 1) := by decide +kernel
theorem dX10_digit_20 : decode cX10_digit 20 = .ok (.iadd, 1) := by decide +kernel
theorem dX10_digit_21 : decode cX10_digit 21 = .ok (.bipush 57, 2) := by decide +kernel
theorem dX10_digit_23 : decode cX10_digit 23 = .ok (.invokestatic 86, 3) := by decide +kernel
theorem dX10_digit_26 : decode cX10_digit 26 = .ok (.ifCond .ne 6, 3) := by decide +kernel
theorem dX10_digit_29 : decode cX10_digit 29 = .ok (.bipush (-9), 2) := by decide +kernel
theorem dX10_digit_31 : decode cX10_digit 31 = .ok (.ireturn, 1) := by decide +kernel
theorem dX10_digit_32 : decode cX10_digit 32 = .ok (.aload_n 0, 1) := by decide +kernel
theorem dX10_digit_33 : decode cX10_digit 33 = .ok (.dup, 1) := by decide +kernel
theorem dX10_digit_34 : decode cX10_digit 34 = .ok (.getfield 93, 3) := by decide +kernel
theorem dX10_digit_37 : decode cX10_digit 37 = .ok (.iconst 1, 1) := by decide +kernel
theorem dX10_digit_38 : decode cX10_digit 38 = .ok (.iadd, 1) := by decide +kernel
theorem dX10_digit_39 : decode cX10_digit 39 = .ok (.putfield 93, 3) := by decide +kernel
theorem dX10_digit_42 : decode cX10_digit 42 = .ok (.aload_n 0, 1) := by decide +kernel
theorem dX10_digit_43 : decode cX10_digit 43 = .ok (.getfield 16, 3) := by decide +kernel
theorem dX10_digit_46 : decode cX10_digit 46 = .ok (.aload_n 0, 1) := by decide +kernel
theorem dX10_digit_47 : decode cX10_digit 47 = .ok (.getfield 93, 3) := by decide +kernel
theorem dX10_digit_50 : decode cX10_digit 50 = .ok (.iconst 1, 1) := by decide +kernel
theorem dX10_digit_51 : decode cX10_digit 51 = .ok (.isub, 1) := by decide +kernel
theorem dX10_digit_52 : decode cX10_digit 52 = .ok (.iaload, 1) := by decide +kernel
theorem dX10_digit_53 : decode cX10_digit 53 = .ok (.bipush 48, 2) := by decide +kernel
theorem dX10_digit_55 : decode cX10_digit 55 = .ok (.isub, 1) := by decide +kernel
theorem dX10_digit_56 : decode cX10_digit 56 = .ok (.ireturn, 1) := by decide +kernel
set_option maxRecDepth 20000 in
theorem ggX10_street_X10_isSheet : GoodIn wsX10_street wsX10_isSheet := goodIn_r _ [22, 23, 24, 21, 25] (by decide +kernel) (by decide +kernel)
set_option maxRecDepth 20000 in
theorem gX10_street_X10_isSheet : GoodIn wsX10_street (va_wsS RX10 96 yX10_isSheet wsX10_isSheet) := goodIn_app (goodIn_of _ (by decide +kernel)) ggX10_street_X10_isSheet
set_option maxRecDepth 20000 in
theorem ggX10_street_X10_isSort : GoodIn wsX10_street wsX10_isSort := goodIn_r _ [28, 23, 24, 21, 25] (by decide +kernel) (by decide +kernel)
set_option maxRecDepth 20000 in
theorem gX10_street_X10_isSort : GoodIn wsX10_street (va_wsS RX10 100 yX10_isSort wsX10_isSort) := goodIn_app (goodIn_of _ (by decide +kernel)) ggX10_street_X10_isSort
set_option maxRecDepth 20000 in
theorem ggX10_street_X10_against : GoodIn wsX10_street wsX10_against := goodIn_r _ [32, 33, 34, 52, 53, 54, 55, 56, 57, 58, 59, 60, 61, 62, 63, 64, 65, 66, 67, 68, 69, 70, 71, 72, 73, 74, 75, 76, 77, 78, 79, 80, 81, 82, 83, 84, 85] (by decide +kernel) (by decide +kernel)
set_option maxRecDepth 20000 in
theorem gX10_street_X10_against : GoodIn wsX10_street (wsV RX10 103 RX10 yX10_against wsX10_against) := goodIn_app (goodIn_of _ (by decide +kernel)) ggX10_street_X10_against
set_option maxRecDepth 20000 in
theorem ggX10_street_X10_fails : GoodIn wsX10_street wsX10_fails := goodIn_r _ [38, 1, 52, 53, 54, 55, 56, 57, 58, 59, 60, 61, 62, 63, 64, 65, 66, 67, 68, 69, 70, 71, 72, 73, 74, 75, 76, 77, 78, 79, 80, 81, 82, 83, 84, 85] (by decide +kernel) (by decide +kernel)
set_option maxRecDepth 20000 in
theorem gX10_street_X10_fails : GoodIn wsX10_street (wsV RX10 107 RX10 yX10_fails wsX10_fails) := goodIn_app (goodIn_of _ (by decide +kernel)) ggX10_street_X10_fails
set_option maxRecDepth 20000 in
theorem ggX10_street_X10_readStreet : GoodIn wsX10_street wsX10_readStreet := goodIn_r _ [42, 2, 43, 3, 5, 44, 45, 46, 21, 47, 23, 24, 25, 48, 49, 50, 51, 8, 10, 12, 14, 16, 52, 53, 54, 55, 56, 57, 58, 59, 60, 61, 62, 63, 64, 65, 66, 67, 68, 69, 70, 71, 72, 73, 74, 75, 76, 77, 78, 79, 80, 81, 82, 83, 84, 85] (by decide +kernel) (by decide +kernel)
set_option maxRecDepth 20000 in
theorem gX10_street_X10_readStreet : GoodIn wsX10_street (wsV RX10 111 RX10 yX10_readStreet wsX10_readStreet) := goodIn_app (goodIn_of _ (by decide +kernel)) ggX10_street_X10_readStreet
theorem dX10_street_0 : decode cX10_street 0 = .ok (.aload_n 0, 1) := by decide +kernel
theorem dX10_street_1 : decode cX10_street 1 = .ok (.iconst 0, 1) := by decide +kernel
theorem dX10_street_2 : decode cX10_street 2 = .ok (.putfield 80, 3) := by decide +kernel
theorem dX10_street_5 : decode cX10_street 5 = .ok (.iload_n 1, 1) := by decide +kernel
theorem dX10_street_6 : decode cX10_street 6 = .ok (.invokestatic 96, 3) := by decide +kernel
theorem dX10_street_9 : decode cX10_street 9 = .ok (.ifCond .ne 5, 3) := by decide +kernel
theorem dX10_street_12 : decode cX10_street 12 = .ok (.iconst (-1), 1) := by decide +kernel
theorem dX10_street_13 : decode cX10_street 13 = .ok (.ireturn, 1) := by decide +kernel
theorem dX10_street_14 : decode cX10_street 14 = .ok (.iload_n 2, 1) := by decide +kernel
theorem dX10_street_15 : decode cX10_street 15 = .ok (.invokestatic 100, 3) := by decide +kernel
theorem dX10_street_18 : decode cX10_street 18 = .ok (.ifCond .ne 6, 3) := by decide +kernel
theorem dX10_street_21 : decode cX10_street 21 = .ok (.bipush (-2), 2) := by decide +kernel
theorem dX10_street_23 : decode cX10_street 23 = .ok (.ireturn, 1) := by decide +kernel
theorem dX10_street_24 : decode cX10_street 24 = .ok (.aload_n 0, 1) := by decide +kernel
theorem dX10_street_25 : decode cX10_street 25 = .ok (.iload_n 1, 1) := by decide +kernel
theorem dX10_street_26 : decode cX10_street 26 = .ok (.iload_n 2, 1) := by decide +kernel
theorem dX10_street_27 : decode cX10_street 27 = .ok (.iload_n 3, 1) := by decide +kernel
theorem dX10_street_28 : decode cX10_street 28 = .ok (.iload 4, 2) := by decide +kernel
theorem dX10_street_30 : decode cX10_street 30 = .ok (.invokevirtual 103, 3) := by decide +kernel
theorem dX10_street_33 : decode cX10_street 33 = .ok (.istore 5, 2) := by decide +kernel
theorem dX10_street_35 : decode cX10_street 35 = .ok (.iload 5, 2) := by decide +kernel
theorem dX10_street_37 : decode cX10_street 37 = .ok (.ifCond .eq 10, 3) := by decide +kernel
theorem dX10_street_40 : decode cX10_street 40 = .ok (.aload_n 0, 1) := by decide +kernel
theorem dX10_street_41 : decode cX10_street 41 = .ok (.iload 5, 2) := by decide +kernel
theorem dX10_street_43 : decode cX10_street 43 = .ok (.invokevirtual 107, 3) := by decide +kernel
theorem dX10_street_46 : decode cX10_street 46 = .ok (.ireturn, 1) := by decide +kernel
theorem dX10_street_47 : decode cX10_street 47 = .ok (.bipush 60, 2) := by decide +kernel
theorem dX10_street_49 : decode cX10_street 49 = .ok (.iload_n 1, 1) := by decide +kernel
theorem dX10_street_50 : decode cX10_street 50 = .ok (.imul, 1) := by decide +kernel
theorem dX10_street_51 : decode cX10_street 51 = .ok (.iload_n 3, 1) := by decide +kernel
theorem dX10_street_52 : decode cX10_street 52 = .ok (.iadd, 1) := by decide +kernel
theorem dX10_street_53 : decode cX10_street 53 = .ok (.istore 6, 2) := by decide +kernel
theorem dX10_street_55 : decode cX10_street 55 = .ok (.aload_n 0, 1) := by decide +kernel
theorem dX10_street_56 : decode cX10_street 56 = .ok (.iload 6, 2) := by decide +kernel
theorem dX10_street_58 : decode cX10_street 58 = .ok (.putfield 93, 3) := by decide +kernel
theorem dX10_street_61 : decode cX10_street 61 = .ok (.aload_n 0, 1) := by decide +kernel
theorem dX10_street_62 : decode cX10_street 62 = .ok (.iload 6, 2) := by decide +kernel
theorem dX10_street_64 : decode cX10_street 64 = .ok (.iload 4, 2) := by decide +kernel
theorem dX10_street_66 : decode cX10_street 66 = .ok (.iadd, 1) := by decide +kernel
theorem dX10_street_67 : decode cX10_street 67 = .ok (.invokevirtual 111, 3) := by decide +kernel
theorem dX10_street_70 : decode cX10_street 70 = .ok (.ifCond .ne 14, 3) := by decide +kernel
theorem dX10_street_73 : decode cX10_street 73 = .ok (.bipush (-100), 2) := by decide +kernel
theorem dX10_street_75 : decode cX10_street 75 = .ok (.aload_n 0, 1) := by decide +kernel
theorem dX10_street_76 : decode cX10_street 76 = .ok (.getfield 93, 3) := by decide +kernel
theorem dX10_street_79 : decode cX10_street 79 = .ok (.iload 6, 2) := by decide +kernel
theorem dX10_street_81 : decode cX10_street 81 = .ok (.isub, 1) := by decide +kernel
theorem dX10_street_82 : decode cX10_street 82 = .ok (.isub, 1) := by decide +kernel
theorem dX10_street_83 : decode cX10_street 83 = .ok (.ireturn, 1) := by decide +kernel
theorem dX10_street_84 : decode cX10_street 84 = .ok (.aload_n 0, 1) := by decide +kernel
theorem dX10_street_85 : decode cX10_street 85 = .ok (.aload_n 0, 1) := by decide +kernel
theorem dX10_street_86 : decode cX10_street 86 = .ok (.getfield 114, 3) := by decide +kernel
theorem dX10_street_89 : decode cX10_street 89 = .ok (.putfield 117, 3) := by decide +kernel
theorem dX10_street_92 : decode cX10_street 92 = .ok (.aload_n 0, 1) := by decide +kernel
theorem dX10_street_93 : decode cX10_street 93 = .ok (.aload_n 0, 1) := by decide +kernel
theorem dX10_street_94 : decode cX10_street 94 = .ok (.getfield 120, 3) := by decide +kernel
theorem dX10_street_97 : decode cX10_street 97 = .ok (.putfield 90, 3) := by decide +kernel
theorem dX10_street_100 : decode cX10_street 100 = .ok (.iconst 0, 1) := by decide +kernel
theorem dX10_street_101 : decode cX10_street 101 = .ok (.istore 7, 2) := by decide +kernel
theorem dX10_street_103 : decode cX10_street 103 = .ok (.iload 7, 2) := by decide +kernel
theorem dX10_street_105 : decode cX10_street 105 = .ok (.aload_n 0, 1) := by decide +kernel
theorem dX10_street_106 : decode cX10_street 106 = .ok (.getfield 90, 3) := by decide +kernel
theorem dX10_street_109 : decode cX10_street 109 = .ok (.if_icmp .ge 79, 3) := by decide +kernel
theorem dX10_street_112 : decode cX10_street 112 = .ok (.aload_n 0, 1) := by decide +kernel
theorem dX10_street_113 : decode cX10_street 113 = .ok (.getfield 19, 3) := by decide +kernel
theorem dX10_street_116 : decode cX10_street 116 = .ok (.iload 7, 2) := by decide +kernel
theorem dX10_street_118 : decode cX10_street 118 = .ok (.aload_n 0, 1) := by decide +kernel
theorem dX10_street_119 : decode cX10_street 119 = .ok (.getfield 34, 3) := by decide +kernel
theorem dX10_street_122 : decode cX10_street 122 = .ok (.iload 7, 2) := by decide +kernel
theorem dX10_street_124 : decode cX10_street 124 = .ok (.iaload, 1) := by decide +kernel
theorem dX10_street_125 : decode cX10_street 125 = .ok (.iastore, 1) := by decide +kernel
theorem dX10_street_126 : decode cX10_street 126 = .ok (.aload_n 0, 1) := by decide +kernel
theorem dX10_street_127 : decode cX10_street 127 = .ok (.getfield 22, 3) := by decide +kernel
theorem dX10_street_130 : decode cX10_street 130 = .ok (.iload 7, 2) := by decide +kernel
theorem dX10_street_132 : decode cX10_street 132 = .ok (.aload_n 0, 1) := by decide +kernel
theorem dX10_street_133 : decode cX10_street 133 = .ok (.getfield 37, 3) := by decide +kernel
theorem dX10_street_136 : decode cX10_street 136 = .ok (.iload 7, 2) := by decide +kernel
theorem dX10_street_138 : decode cX10_street 138 = .ok (.iaload, 1) := by decide +kernel
theorem dX10_street_139 : decode cX10_street 139 = .ok (.iastore, 1) := by decide +kernel
theorem dX10_street_140 : decode cX10_street 140 = .ok (.aload_n 0, 1) := by decide +kernel
theorem dX10_street_141 : decode cX10_street 141 = .ok (.getfield 25, 3) := by decide +kernel
theorem dX10_street_144 : decode cX10_street 144 = .ok (.iload 7, 2) := by decide +kernel
theorem dX10_street_146 : decode cX10_street 146 = .ok (.aload_n 0, 1) := by decide +kernel
theorem dX10_street_147 : decode cX10_street 147 = .ok (.getfield 40, 3) := by decide +kernel
theorem dX10_street_150 : decode cX10_street 150 = .ok (.iload 7, 2) := by decide +kernel
theorem dX10_street_152 : decode cX10_street 152 = .ok (.iaload, 1) := by decide +kernel
theorem dX10_street_153 : decode cX10_street 153 = .ok (.iastore, 1) := by decide +kernel
theorem dX10_street_154 : decode cX10_street 154 = .ok (.aload_n 0, 1) := by decide +kernel
theorem dX10_street_155 : decode cX10_street 155 = .ok (.getfield 28, 3) := by decide +kernel
theorem dX10_street_158 : decode cX10_street 158 = .ok (.iload 7, 2) := by decide +kernel
theorem dX10_street_160 : decode cX10_street 160 = .ok (.aload_n 0, 1) := by decide +kernel
theorem dX10_street_161 : decode cX10_street 161 = .ok (.getfield 43, 3) := by decide +kernel
theorem dX10_street_164 : decode cX10_street 164 = .ok (.iload 7, 2) := by decide +kernel
theorem dX10_street_166 : decode cX10_street 166 = .ok (.iaload, 1) := by decide +kernel
theorem dX10_street_167 : decode cX10_street 167 = .ok (.iastore, 1) := by decide +kernel
theorem dX10_street_168 : decode cX10_street 168 = .ok (.aload_n 0, 1) := by decide +kernel
theorem dX10_street_169 : decode cX10_street 169 = .ok (.getfield 31, 3) := by decide +kernel
theorem dX10_street_172 : decode cX10_street 172 = .ok (.iload 7, 2) := by decide +kernel
theorem dX10_street_174 : decode cX10_street 174 = .ok (.aload_n 0, 1) := by decide +kernel
theorem dX10_street_175 : decode cX10_street 175 = .ok (.getfield 46, 3) := by decide +kernel
theorem dX10_street_178 : decode cX10_street 178 = .ok (.iload 7, 2) := by decide +kernel
theorem dX10_street_180 : decode cX10_street 180 = .ok (.iaload, 1) := by decide +kernel
theorem dX10_street_181 : decode cX10_street 181 = .ok (.iastore, 1) := by decide +kernel
theorem dX10_street_182 : decode cX10_street 182 = .ok (.iinc 7 1, 3) := by decide +kernel
theorem dX10_street_185 : decode cX10_street 185 = .ok (.goto (-82), 3) := by decide +kernel
theorem dX10_street_188 : decode cX10_street 188 = .ok (.aload_n 0, 1) := by decide +kernel
theorem dX10_street_189 : decode cX10_street 189 = .ok (.iconst 0, 1) := by decide +kernel
theorem dX10_street_190 : decode cX10_street 190 = .ok (.putfield 123, 3) := by decide +kernel
theorem dX10_street_193 : decode cX10_street 193 = .ok (.aload_n 0, 1) := by decide +kernel
theorem dX10_street_194 : decode cX10_street 194 = .ok (.iconst 0, 1) := by decide +kernel
theorem dX10_street_195 : decode cX10_street 195 = .ok (.putfield 126, 3) := by decide +kernel
theorem dX10_street_198 : decode cX10_street 198 = .ok (.aload_n 0, 1) := by decide +kernel
theorem dX10_street_199 : decode cX10_street 199 = .ok (.getfield 90, 3) := by decide +kernel
theorem dX10_street_202 : decode cX10_street 202 = .ok (.ireturn, 1) := by decide +kernel
set_option maxRecDepth 20000 in
theorem ggX10_readStreet_X10_digit : GoodIn wsX10_readStreet wsX10_digit := goodIn_r _ [9, 1, 2, 10, 11, 8, 12, 22, 23, 24, 25, 26, 27, 28, 29, 30, 31, 32, 33, 34, 35, 36, 37, 38, 39, 40, 41, 42, 43, 44, 45, 46, 47, 48, 49, 50, 51, 52, 53, 54, 55] (by decide +kernel) (by decide +kernel)
set_option maxRecDepth 20000 in
theorem gX10_readStreet_X10_digit : GoodIn wsX10_readStreet (wsV RX10 129 RX10 yX10_digit wsX10_digit) := goodIn_app (goodIn_of _ (by decide +kernel)) ggX10_readStreet_X10_digit
set_option maxRecDepth 20000 in
theorem ggX10_readStreet_X10_readThing : GoodIn wsX10_readStreet wsX10_readThing := goodIn_r _ [16, 1, 2, 17, 18, 19, 20, 21, 5, 6, 7, 8, 9, 10, 11, 12, 22, 23, 24, 25, 26, 27, 28, 29, 30, 31, 32, 33, 34, 35, 36, 37, 38, 39, 40, 41, 42, 43, 44, 45, 46, 47, 48, 49, 50, 51, 52, 53, 54, 55] (by decide +kernel) (by decide +kernel)
set_option maxRecDepth 20000 in
theorem gX10_readStreet_X10_readThing : GoodIn wsX10_readStreet (wsV RX10 133 RX10 yX10_readThing wsX10_readThing) := goodIn_app (goodIn_of _ (by decide +kernel)) ggX10_readStreet_X10_readThing
theorem dX10_readStreet_0 : decode cX10_readStreet 0 = .ok (.aload_n 0, 1) := by decide +kernel
theorem dX10_readStreet_1 : decode cX10_readStreet 1 = .ok (.getfield 93, 3) := by decide +kernel
theorem dX10_readStreet_4 : decode cX10_readStreet 4 = .ok (.iload_n 1, 1) := by decide +kernel
theorem dX10_readStreet_5 : decode cX10_readStreet 5 = .ok (.if_icmp .ge 17, 3) := by decide +kernel
theorem dX10_readStreet_8 : decode cX10_readStreet 8 = .ok (.aload_n 0, 1) := by decide +kernel
theorem dX10_readStreet_9 : decode cX10_readStreet 9 = .ok (.getfield 16, 3) := by decide +kernel
theorem dX10_readStreet_12 : decode cX10_readStreet 12 = .ok (.aload_n 0, 1) := by decide +kernel
theorem dX10_readStreet_13 : decode cX10_readStreet 13 = .ok (.getfield 93, 3) := by decide +kernel
theorem dX10_readStreet_16 : decode cX10_readStreet 16 = .ok (.iaload, 1) := by decide +kernel
theorem dX10_readStreet_17 : decode cX10_readStreet 17 = .ok (.bipush 115, 2) := by decide +kernel
theorem dX10_readStreet_19 : decode cX10_readStreet 19 = .ok (.if_icmp .eq 5, 3) := by decide +kernel
theorem dX10_readStreet_22 : decode cX10_readStreet 22 = .ok (.iconst 0, 1) := by decide +kernel
theorem dX10_readStreet_23 : decode cX10_readStreet 23 = .ok (.ireturn, 1) := by decide +kernel
theorem dX10_readStreet_24 : decode cX10_readStreet 24 = .ok (.aload_n 0, 1) := by decide +kernel
theorem dX10_readStreet_25 : decode cX10_readStreet 25 = .ok (.dup, 1) := by decide +kernel
theorem dX10_readStreet_26 : decode cX10_readStreet 26 = .ok (.getfield 93, 3) := by decide +kernel
theorem dX10_readStreet_29 : decode cX10_readStreet 29 = .ok (.iconst 1, 1) := by decide +kernel
theorem dX10_readStreet_30 : decode cX10_readStreet 30 = .ok (.iadd, 1) := by decide +kernel
theorem dX10_readStreet_31 : decode cX10_readStreet 31 = .ok (.putfield 93, 3) := by decide +kernel
theorem dX10_readStreet_34 : decode cX10_readStreet 34 = .ok (.aload_n 0, 1) := by decide +kernel
theorem dX10_readStreet_35 : decode cX10_readStreet 35 = .ok (.aload_n 0, 1) := by decide +kernel
theorem dX10_readStreet_36 : decode cX10_readStreet 36 = .ok (.iload_n 1, 1) := by decide +kernel
theorem dX10_readStreet_37 : decode cX10_readStreet 37 = .ok (.iconst 0, 1) := by decide +kernel
theorem dX10_readStreet_38 : decode cX10_readStreet 38 = .ok (.invokevirtual 129, 3) := by decide +kernel
theorem dX10_readStreet_41 : decode cX10_readStreet 41 = .ok (.putfield 114, 3) := by decide +kernel
theorem dX10_readStreet_44 : decode cX10_readStreet 44 = .ok (.aload_n 0, 1) := by decide +kernel
theorem dX10_readStreet_45 : decode cX10_readStreet 45 = .ok (.getfield 114, 3) := by decide +kernel
theorem dX10_readStreet_48 : decode cX10_readStreet 48 = .ok (.bipush (-9), 2) := by decide +kernel
theorem dX10_readStreet_50 : decode cX10_readStreet 50 = .ok (.if_icmp .ne 5, 3) := by decide +kernel
theorem dX10_readStreet_53 : decode cX10_readStreet 53 = .ok (.iconst 0, 1) := by decide +kernel
theorem dX10_readStreet_54 : decode cX10_readStreet 54 = .ok (.ireturn, 1) := by decide +kernel
theorem dX10_readStreet_55 : decode cX10_readStreet 55 = .ok (.aload_n 0, 1) := by decide +kernel
theorem dX10_readStreet_56 : decode cX10_readStreet 56 = .ok (.iconst 0, 1) := by decide +kernel
theorem dX10_readStreet_57 : decode cX10_readStreet 57 = .ok (.putfield 120, 3) := by decide +kernel
theorem dX10_readStreet_60 : decode cX10_readStreet 60 = .ok (.aload_n 0, 1) := by decide +kernel
theorem dX10_readStreet_61 : decode cX10_readStreet 61 = .ok (.getfield 120, 3) := by decide +kernel
theorem dX10_readStreet_64 : decode cX10_readStreet 64 = .ok (.ifCond .eq 11, 3) := by decide +kernel
theorem dX10_readStreet_67 : decode cX10_readStreet 67 = .ok (.aload_n 0, 1) := by decide +kernel
theorem dX10_readStreet_68 : decode cX10_readStreet 68 = .ok (.getfield 93, 3) := by decide +kernel
theorem dX10_readStreet_71 : decode cX10_readStreet 71 = .ok (.iload_n 1, 1) := by decide +kernel
theorem dX10_readStreet_72 : decode cX10_readStreet 72 = .ok (.if_icmp .ge 73, 3) := by decide +kernel
theorem dX10_readStreet_75 : decode cX10_readStreet 75 = .ok (.aload_n 0, 1) := by decide +kernel
theorem dX10_readStreet_76 : decode cX10_readStreet 76 = .ok (.getfield 120, 3) := by decide +kernel
theorem dX10_readStreet_79 : decode cX10_readStreet 79 = .ok (.bipush 6, 2) := by decide +kernel
theorem dX10_readStreet_81 : decode cX10_readStreet 81 = .ok (.if_icmp .eq 25, 3) := by decide +kernel
theorem dX10_readStreet_84 : decode cX10_readStreet 84 = .ok (.aload_n 0, 1) := by decide +kernel
theorem dX10_readStreet_85 : decode cX10_readStreet 85 = .ok (.getfield 93, 3) := by decide +kernel
theorem dX10_readStreet_88 : decode cX10_readStreet 88 = .ok (.iload_n 1, 1) := by decide +kernel
theorem dX10_readStreet_89 : decode cX10_readStreet 89 = .ok (.if_icmp .ge 17, 3) := by decide +kernel
theorem dX10_readStreet_92 : decode cX10_readStreet 92 = .ok (.aload_n 0, 1) := by decide +kernel
theorem dX10_readStreet_93 : decode cX10_readStreet 93 = .ok (.getfield 16, 3) := by decide +kernel
theorem dX10_readStreet_96 : decode cX10_readStreet 96 = .ok (.aload_n 0, 1) := by decide +kernel
theorem dX10_readStreet_97 : decode cX10_readStreet 97 = .ok (.getfield 93, 3) := by decide +kernel
theorem dX10_readStreet_100 : decode cX10_readStreet 100 = .ok (.iaload, 1) := by decide +kernel
theorem dX10_readStreet_101 : decode cX10_readStreet 101 = .ok (.bipush 59, 2) := by decide +kernel
theorem dX10_readStreet_103 : decode cX10_readStreet 103 = .ok (.if_icmp .eq 5, 3) := by decide +kernel
theorem dX10_readStreet_106 : decode cX10_readStreet 106 = .ok (.iconst 0, 1) := by decide +kernel
theorem dX10_readStreet_107 : decode cX10_readStreet 107 = .ok (.ireturn, 1) := by decide +kernel
theorem dX10_readStreet_108 : decode cX10_readStreet 108 = .ok (.aload_n 0, 1) := by decide +kernel
theorem dX10_readStreet_109 : decode cX10_readStreet 109 = .ok (.dup, 1) := by decide +kernel
theorem dX10_readStreet_110 : decode cX10_readStreet 110 = .ok (.getfield 93, 3) := by decide +kernel
theorem dX10_readStreet_113 : decode cX10_readStreet 113 = .ok (.iconst 1, 1) := by decide +kernel
theorem dX10_readStreet_114 : decode cX10_readStreet 114 = .ok (.iadd, 1) := by decide +kernel
theorem dX10_readStreet_115 : decode cX10_readStreet 115 = .ok (.putfield 93, 3) := by decide +kernel
theorem dX10_readStreet_118 : decode cX10_readStreet 118 = .ok (.aload_n 0, 1) := by decide +kernel
theorem dX10_readStreet_119 : decode cX10_readStreet 119 = .ok (.iload_n 1, 1) := by decide +kernel
theorem dX10_readStreet_120 : decode cX10_readStreet 120 = .ok (.aload_n 0, 1) := by decide +kernel
theorem dX10_readStreet_121 : decode cX10_readStreet 121 = .ok (.getfield 120, 3) := by decide +kernel
theorem dX10_readStreet_124 : decode cX10_readStreet 124 = .ok (.invokevirtual 133, 3) := by decide +kernel
theorem dX10_readStreet_127 : decode cX10_readStreet 127 = .ok (.ifCond .ne 5, 3) := by decide +kernel
theorem dX10_readStreet_130 : decode cX10_readStreet 130 = .ok (.iconst 0, 1) := by decide +kernel
theorem dX10_readStreet_131 : decode cX10_readStreet 131 = .ok (.ireturn, 1) := by decide +kernel
theorem dX10_readStreet_132 : decode cX10_readStreet 132 = .ok (.aload_n 0, 1) := by decide +kernel
theorem dX10_readStreet_133 : decode cX10_readStreet 133 = .ok (.dup, 1) := by decide +kernel
theorem dX10_readStreet_134 : decode cX10_readStreet 134 = .ok (.getfield 120, 3) := by decide +kernel
theorem dX10_readStreet_137 : decode cX10_readStreet 137 = .ok (.iconst 1, 1) := by decide +kernel
theorem dX10_readStreet_138 : decode cX10_readStreet 138 = .ok (.iadd, 1) := by decide +kernel
theorem dX10_readStreet_139 : decode cX10_readStreet 139 = .ok (.putfield 120, 3) := by decide +kernel
theorem dX10_readStreet_142 : decode cX10_readStreet 142 = .ok (.goto (-82), 3) := by decide +kernel
theorem dX10_readStreet_145 : decode cX10_readStreet 145 = .ok (.iconst 1, 1) := by decide +kernel
theorem dX10_readStreet_146 : decode cX10_readStreet 146 = .ok (.ireturn, 1) := by decide +kernel
set_option maxRecDepth 20000 in
theorem ggX10_readThing_X10_digit : GoodIn wsX10_readThing wsX10_digit := goodIn_r _ [12, 1, 2, 13, 14, 11, 15, 16, 17, 18, 19, 20, 21, 22, 23, 24, 25, 26, 27, 28, 29, 30, 31, 32, 33, 34, 35, 36, 37, 38, 39, 40, 41, 42, 43, 44, 45, 46, 47, 48, 49] (by decide +kernel) (by decide +kernel)
set_option maxRecDepth 20000 in
theorem gX10_readThing_X10_digit : GoodIn wsX10_readThing (wsV RX10 129 RX10 yX10_digit wsX10_digit) := goodIn_app (goodIn_of _ (by decide +kernel)) ggX10_readThing_X10_digit
theorem dX10_readThing_0 : decode cX10_readThing 0 = .ok (.aload_n 0, 1) := by decide +kernel
theorem dX10_readThing_1 : decode cX10_readThing 1 = .ok (.getfield 93, 3) := by decide +kernel
theorem dX10_readThing_4 : decode cX10_readThing 4 = .ok (.iload_n 1, 1) := by decide +kernel
theorem dX10_readThing_5 : decode cX10_readThing 5 = .ok (.if_icmp .ge 15, 3) := by decide +kernel
theorem dX10_readThing_8 : decode cX10_readThing 8 = .ok (.aload_n 0, 1) := by decide +kernel
theorem dX10_readThing_9 : decode cX10_readThing 9 = .ok (.getfield 16, 3) := by decide +kernel
theorem dX10_readThing_12 : decode cX10_readThing 12 = .ok (.aload_n 0, 1) := by decide +kernel
theorem dX10_readThing_13 : decode cX10_readThing 13 = .ok (.getfield 93, 3) := by decide +kernel
theorem dX10_readThing_16 : decode cX10_readThing 16 = .ok (.iaload, 1) := by decide +kernel
theorem dX10_readThing_17 : decode cX10_readThing 17 = .ok (.goto 4, 3) := by decide +kernel
theorem dX10_readThing_20 : decode cX10_readThing 20 = .ok (.iconst 0, 1) := by decide +kernel
theorem dX10_readThing_21 : decode cX10_readThing 21 = .ok (.istore_n 3, 1) := by decide +kernel
theorem dX10_readThing_22 : decode cX10_readThing 22 = .ok (.aload_n 0, 1) := by decide +kernel
theorem dX10_readThing_23 : decode cX10_readThing 23 = .ok (.getfield 34, 3) := by decide +kernel
theorem dX10_readThing_26 : decode cX10_readThing 26 = .ok (.iload_n 2, 1) := by decide +kernel
theorem dX10_readThing_27 : decode cX10_readThing 27 = .ok (.iload_n 3, 1) := by decide +kernel
theorem dX10_readThing_28 : decode cX10_readThing 28 = .ok (.bipush 116, 2) := by decide +kernel
theorem dX10_readThing_30 : decode cX10_readThing 30 = .ok (.if_icmp .ne 7, 3) := by decide +kernel
theorem dX10_readThing_33 : decode cX10_readThing 33 = .ok (.iconst 0, 1) := by decide +kernel
theorem dX10_readThing_34 : decode cX10_readThing 34 = .ok (.goto 25, 3) := by decide +kernel
theorem dX10_readThing_37 : decode cX10_readThing 37 = .ok (.iload_n 3, 1) := by decide +kernel
theorem dX10_readThing_38 : decode cX10_readThing 38 = .ok (.bipush 100, 2) := by decide +kernel
theorem dX10_readThing_40 : decode cX10_readThing 40 = .ok (.if_icmp .ne 7, 3) := by decide +kernel
theorem dX10_readThing_43 : decode cX10_readThing 43 = .ok (.iconst 1, 1) := by decide +kernel
theorem dX10_readThing_44 : decode cX10_readThing 44 = .ok (.goto 15, 3) := by decide +kernel
theorem dX10_readThing_47 : decode cX10_readThing 47 = .ok (.iload_n 3, 1) := by decide +kernel
theorem dX10_readThing_48 : decode cX10_readThing 48 = .ok (.bipush 99, 2) := by decide +kernel
theorem dX10_readThing_50 : decode cX10_readThing 50 = .ok (.if_icmp .ne 7, 3) := by decide +kernel
theorem dX10_readThing_53 : decode cX10_readThing 53 = .ok (.iconst 2, 1) := by decide +kernel
theorem dX10_readThing_54 : decode cX10_readThing 54 = .ok (.goto 5, 3) := by decide +kernel
theorem dX10_readThing_57 : decode cX10_readThing 57 = .ok (.bipush (-9), 2) := by decide +kernel
theorem dX10_readThing_59 : decode cX10_readThing 59 = .ok (.iastore, 1) := by decide +kernel
theorem dX10_readThing_60 : decode cX10_readThing 60 = .ok (.aload_n 0, 1) := by decide +kernel
theorem dX10_readThing_61 : decode cX10_readThing 61 = .ok (.getfield 34, 3) := by decide +kernel
theorem dX10_readThing_64 : decode cX10_readThing 64 = .ok (.iload_n 2, 1) := by decide +kernel
theorem dX10_readThing_65 : decode cX10_readThing 65 = .ok (.iaload, 1) := by decide +kernel
theorem dX10_readThing_66 : decode cX10_readThing 66 = .ok (.bipush (-9), 2) := by decide +kernel
theorem dX10_readThing_68 : decode cX10_readThing 68 = .ok (.if_icmp .ne 5, 3) := by decide +kernel
theorem dX10_readThing_71 : decode cX10_readThing 71 = .ok (.iconst 0, 1) := by decide +kernel
theorem dX10_readThing_72 : decode cX10_readThing 72 = .ok (.ireturn, 1) := by decide +kernel
theorem dX10_readThing_73 : decode cX10_readThing 73 = .ok (.aload_n 0, 1) := by decide +kernel
theorem dX10_readThing_74 : decode cX10_readThing 74 = .ok (.dup, 1) := by decide +kernel
theorem dX10_readThing_75 : decode cX10_readThing 75 = .ok (.getfield 93, 3) := by decide +kernel
theorem dX10_readThing_78 : decode cX10_readThing 78 = .ok (.iconst 1, 1) := by decide +kernel
theorem dX10_readThing_79 : decode cX10_readThing 79 = .ok (.iadd, 1) := by decide +kernel
theorem dX10_readThing_80 : decode cX10_readThing 80 = .ok (.putfield 93, 3) := by decide +kernel
theorem dX10_readThing_83 : decode cX10_readThing 83 = .ok (.aload_n 0, 1) := by decide +kernel
theorem dX10_readThing_84 : decode cX10_readThing 84 = .ok (.getfield 37, 3) := by decide +kernel
theorem dX10_readThing_87 : decode cX10_readThing 87 = .ok (.iload_n 2, 1) := by decide +kernel
theorem dX10_readThing_88 : decode cX10_readThing 88 = .ok (.aload_n 0, 1) := by decide +kernel
theorem dX10_readThing_89 : decode cX10_readThing 89 = .ok (.iload_n 1, 1) := by decide +kernel
theorem dX10_readThing_90 : decode cX10_readThing 90 = .ok (.iconst 0, 1) := by decide +kernel
theorem dX10_readThing_91 : decode cX10_readThing 91 = .ok (.invokevirtual 129, 3) := by decide +kernel
theorem dX10_readThing_94 : decode cX10_readThing 94 = .ok (.iastore, 1) := by decide +kernel
theorem dX10_readThing_95 : decode cX10_readThing 95 = .ok (.aload_n 0, 1) := by decide +kernel
theorem dX10_readThing_96 : decode cX10_readThing 96 = .ok (.getfield 37, 3) := by decide +kernel
theorem dX10_readThing_99 : decode cX10_readThing 99 = .ok (.iload_n 2, 1) := by decide +kernel
theorem dX10_readThing_100 : decode cX10_readThing 100 = .ok (.iaload, 1) := by decide +kernel
theorem dX10_readThing_101 : decode cX10_readThing 101 = .ok (.bipush (-9), 2) := by decide +kernel
theorem dX10_readThing_103 : decode cX10_readThing 103 = .ok (.if_icmp .ne 5, 3) := by decide +kernel
theorem dX10_readThing_106 : decode cX10_readThing 106 = .ok (.iconst 0, 1) := by decide +kernel
theorem dX10_readThing_107 : decode cX10_readThing 107 = .ok (.ireturn, 1) := by decide +kernel
theorem dX10_readThing_108 : decode cX10_readThing 108 = .ok (.aload_n 0, 1) := by decide +kernel
theorem dX10_readThing_109 : decode cX10_readThing 109 = .ok (.getfield 40, 3) := by decide +kernel
theorem dX10_readThing_112 : decode cX10_readThing 112 = .ok (.iload_n 2, 1) := by decide +kernel
theorem dX10_readThing_113 : decode cX10_readThing 113 = .ok (.aload_n 0, 1) := by decide +kernel
theorem dX10_readThing_114 : decode cX10_readThing 114 = .ok (.iload_n 1, 1) := by decide +kernel
theorem dX10_readThing_115 : decode cX10_readThing 115 = .ok (.iconst 1, 1) := by decide +kernel
theorem dX10_readThing_116 : decode cX10_readThing 116 = .ok (.invokevirtual 129, 3) := by decide +kernel
theorem dX10_readThing_119 : decode cX10_readThing 119 = .ok (.iastore, 1) := by decide +kernel
theorem dX10_readThing_120 : decode cX10_readThing 120 = .ok (.aload_n 0, 1) := by decide +kernel
theorem dX10_readThing_121 : decode cX10_readThing 121 = .ok (.getfield 40, 3) := by decide +kernel
theorem dX10_readThing_124 : decode cX10_readThing 124 = .ok (.iload_n 2, 1) := by decide +kernel
theorem dX10_readThing_125 : decode cX10_readThing 125 = .ok (.iaload, 1) := by decide +kernel
theorem dX10_readThing_126 : decode cX10_readThing 126 = .ok (.bipush (-9), 2) := by decide +kernel
theorem dX10_readThing_128 : decode cX10_readThing 128 = .ok (.if_icmp .ne 5, 3) := by decide +kernel
theorem dX10_readThing_131 : decode cX10_readThing 131 = .ok (.iconst 0, 1) := by decide +kernel
theorem dX10_readThing_132 : decode cX10_readThing 132 = .ok (.ireturn, 1) := by decide +kernel
theorem dX10_readThing_133 : decode cX10_readThing 133 = .ok (.aload_n 0, 1) := by decide +kernel
theorem dX10_readThing_134 : decode cX10_readThing 134 = .ok (.iload_n 1, 1) := by decide +kernel
theorem dX10_readThing_135 : decode cX10_readThing 135 = .ok (.iconst 0, 1) := by decide +kernel
theorem dX10_readThing_136 : decode cX10_readThing 136 = .ok (.invokevirtual 129, 3) := by decide +kernel
theorem dX10_readThing_139 : decode cX10_readThing 139 = .ok (.istore 4, 2) := by decide +kernel
theorem dX10_readThing_141 : decode cX10_readThing 141 = .ok (.iload 4, 2) := by decide +kernel
theorem dX10_readThing_143 : decode cX10_readThing 143 = .ok (.bipush (-9), 2) := by decide +kernel
theorem dX10_readThing_145 : decode cX10_readThing 145 = .ok (.if_icmp .ne 5, 3) := by decide +kernel
theorem dX10_readThing_148 : decode cX10_readThing 148 = .ok (.iconst 0, 1) := by decide +kernel
theorem dX10_readThing_149 : decode cX10_readThing 149 = .ok (.ireturn, 1) := by decide +kernel
theorem dX10_readThing_150 : decode cX10_readThing 150 = .ok (.aload_n 0, 1) := by decide +kernel
theorem dX10_readThing_151 : decode cX10_readThing 151 = .ok (.iload_n 1, 1) := by decide +kernel
theorem dX10_readThing_152 : decode cX10_readThing 152 = .ok (.iconst 0, 1) := by decide +kernel
theorem dX10_readThing_153 : decode cX10_readThing 153 = .ok (.invokevirtual 129, 3) := by decide +kernel
theorem dX10_readThing_156 : decode cX10_readThing 156 = .ok (.istore 5, 2) := by decide +kernel
theorem dX10_readThing_158 : decode cX10_readThing 158 = .ok (.iload 5, 2) := by decide +kernel
theorem dX10_readThing_160 : decode cX10_readThing 160 = .ok (.bipush (-9), 2) := by decide +kernel
theorem dX10_readThing_162 : decode cX10_readThing 162 = .ok (.if_icmp .ne 5, 3) := by decide +kernel
theorem dX10_readThing_165 : decode cX10_readThing 165 = .ok (.iconst 0, 1) := by decide +kernel
theorem dX10_readThing_166 : decode cX10_readThing 166 = .ok (.ireturn, 1) := by decide +kernel
theorem dX10_readThing_167 : decode cX10_readThing 167 = .ok (.aload_n 0, 1) := by decide +kernel
theorem dX10_readThing_168 : decode cX10_readThing 168 = .ok (.getfield 43, 3) := by decide +kernel
theorem dX10_readThing_171 : decode cX10_readThing 171 = .ok (.iload_n 2, 1) := by decide +kernel
theorem dX10_readThing_172 : decode cX10_readThing 172 = .ok (.bipush 10, 2) := by decide +kernel
theorem dX10_readThing_174 : decode cX10_readThing 174 = .ok (.iload 4, 2) := by decide +kernel
theorem dX10_readThing_176 : decode cX10_readThing 176 = .ok (.imul, 1) := by decide +kernel
theorem dX10_readThing_177 : decode cX10_readThing 177 = .ok (.iload 5, 2) := by decide +kernel
theorem dX10_readThing_179 : decode cX10_readThing 179 = .ok (.iadd, 1) := by decide +kernel
theorem dX10_readThing_180 : decode cX10_readThing 180 = .ok (.iastore, 1) := by decide +kernel
theorem dX10_readThing_181 : decode cX10_readThing 181 = .ok (.aload_n 0, 1) := by decide +kernel
theorem dX10_readThing_182 : decode cX10_readThing 182 = .ok (.getfield 43, 3) := by decide +kernel
theorem dX10_readThing_185 : decode cX10_readThing 185 = .ok (.iload_n 2, 1) := by decide +kernel
theorem dX10_readThing_186 : decode cX10_readThing 186 = .ok (.iaload, 1) := by decide +kernel
theorem dX10_readThing_187 : decode cX10_readThing 187 = .ok (.ifCond .ne 15, 3) := by decide +kernel
theorem dX10_readThing_190 : decode cX10_readThing 190 = .ok (.aload_n 0, 1) := by decide +kernel
theorem dX10_readThing_191 : decode cX10_readThing 191 = .ok (.dup, 1) := by decide +kernel
theorem dX10_readThing_192 : decode cX10_readThing 192 = .ok (.getfield 93, 3) := by decide +kernel
theorem dX10_readThing_195 : decode cX10_readThing 195 = .ok (.iconst 2, 1) := by decide +kernel
theorem dX10_readThing_196 : decode cX10_readThing 196 = .ok (.isub, 1) := by decide +kernel
theorem dX10_readThing_197 : decode cX10_readThing 197 = .ok (.putfield 93, 3) := by decide +kernel
theorem dX10_readThing_200 : decode cX10_readThing 200 = .ok (.iconst 0, 1) := by decide +kernel
theorem dX10_readThing_201 : decode cX10_readThing 201 = .ok (.ireturn, 1) := by decide +kernel
theorem dX10_readThing_202 : decode cX10_readThing 202 = .ok (.aload_n 0, 1) := by decide +kernel
theorem dX10_readThing_203 : decode cX10_readThing 203 = .ok (.getfield 46, 3) := by decide +kernel
theorem dX10_readThing_206 : decode cX10_readThing 206 = .ok (.iload_n 2, 1) := by decide +kernel
theorem dX10_readThing_207 : decode cX10_readThing 207 = .ok (.aload_n 0, 1) := by decide +kernel
theorem dX10_readThing_208 : decode cX10_readThing 208 = .ok (.iload_n 1, 1) := by decide +kernel
theorem dX10_readThing_209 : decode cX10_readThing 209 = .ok (.iconst 1, 1) := by decide +kernel
theorem dX10_readThing_210 : decode cX10_readThing 210 = .ok (.invokevirtual 129, 3) := by decide +kernel
theorem dX10_readThing_213 : decode cX10_readThing 213 = .ok (.iastore, 1) := by decide +kernel
theorem dX10_readThing_214 : decode cX10_readThing 214 = .ok (.aload_n 0, 1) := by decide +kernel
theorem dX10_readThing_215 : decode cX10_readThing 215 = .ok (.getfield 46, 3) := by decide +kernel
theorem dX10_readThing_218 : decode cX10_readThing 218 = .ok (.iload_n 2, 1) := by decide +kernel
theorem dX10_readThing_219 : decode cX10_readThing 219 = .ok (.iaload, 1) := by decide +kernel
theorem dX10_readThing_220 : decode cX10_readThing 220 = .ok (.bipush (-9), 2) := by decide +kernel
theorem dX10_readThing_222 : decode cX10_readThing 222 = .ok (.if_icmp .eq 7, 3) := by decide +kernel
theorem dX10_readThing_225 : decode cX10_readThing 225 = .ok (.iconst 1, 1) := by decide +kernel
theorem dX10_readThing_226 : decode cX10_readThing 226 = .ok (.goto 4, 3) := by decide +kernel
theorem dX10_readThing_229 : decode cX10_readThing 229 = .ok (.iconst 0, 1) := by decide +kernel
theorem dX10_readThing_230 : decode cX10_readThing 230 = .ok (.ireturn, 1) := by decide +kernel
theorem dX10_holds_0 : decode cX10_holds 0 = .ok (.aload_n 0, 1) := by decide +kernel
theorem dX10_holds_1 : decode cX10_holds 1 = .ok (.getfield 28, 3) := by decide +kernel
theorem dX10_holds_4 : decode cX10_holds 4 = .ok (.iload_n 1, 1) := by decide +kernel
theorem dX10_holds_5 : decode cX10_holds 5 = .ok (.iaload, 1) := by decide +kernel
theorem dX10_holds_6 : decode cX10_holds 6 = .ok (.aload_n 0, 1) := by decide +kernel
theorem dX10_holds_7 : decode cX10_holds 7 = .ok (.getfield 123, 3) := by decide +kernel
theorem dX10_holds_10 : decode cX10_holds 10 = .ok (.if_icmp .le 17, 3) := by decide +kernel
theorem dX10_holds_13 : decode cX10_holds 13 = .ok (.aload_n 0, 1) := by decide +kernel
theorem dX10_holds_14 : decode cX10_holds 14 = .ok (.getfield 28, 3) := by decide +kernel
theorem dX10_holds_17 : decode cX10_holds 17 = .ok (.iload_n 1, 1) := by decide +kernel
theorem dX10_holds_18 : decode cX10_holds 18 = .ok (.iaload, 1) := by decide +kernel
theorem dX10_holds_19 : decode cX10_holds 19 = .ok (.aload_n 0, 1) := by decide +kernel
theorem dX10_holds_20 : decode cX10_holds 20 = .ok (.getfield 123, 3) := by decide +kernel
theorem dX10_holds_23 : decode cX10_holds 23 = .ok (.isub, 1) := by decide +kernel
theorem dX10_holds_24 : decode cX10_holds 24 = .ok (.goto 4, 3) := by decide +kernel
theorem dX10_holds_27 : decode cX10_holds 27 = .ok (.iconst 1, 1) := by decide +kernel
theorem dX10_holds_28 : decode cX10_holds 28 = .ok (.istore_n 2, 1) := by decide +kernel
theorem dX10_holds_29 : decode cX10_holds 29 = .ok (.aload_n 0, 1) := by decide +kernel
theorem dX10_holds_30 : decode cX10_holds 30 = .ok (.getfield 19, 3) := by decide +kernel
theorem dX10_holds_33 : decode cX10_holds 33 = .ok (.iload_n 1, 1) := by decide +kernel
theorem dX10_holds_34 : decode cX10_holds 34 = .ok (.iaload, 1) := by decide +kernel
theorem dX10_holds_35 : decode cX10_holds 35 = .ok (.ifCond .le 9, 3) := by decide +kernel
theorem dX10_holds_38 : decode cX10_holds 38 = .ok (.iload_n 2, 1) := by decide +kernel
theorem dX10_holds_39 : decode cX10_holds 39 = .ok (.iload_n 2, 1) := by decide +kernel
theorem dX10_holds_40 : decode cX10_holds 40 = .ok (.iconst 2, 1) := by decide +kernel
theorem dX10_holds_41 : decode cX10_holds 41 = .ok (.idiv, 1) := by decide +kernel
theorem dX10_holds_42 : decode cX10_holds 42 = .ok (.iadd, 1) := by decide +kernel
theorem dX10_holds_43 : decode cX10_holds 43 = .ok (.istore_n 2, 1) := by decide +kernel
theorem dX10_holds_44 : decode cX10_holds 44 = .ok (.aload_n 0, 1) := by decide +kernel
theorem dX10_holds_45 : decode cX10_holds 45 = .ok (.getfield 19, 3) := by decide +kernel
theorem dX10_holds_48 : decode cX10_holds 48 = .ok (.iload_n 1, 1) := by decide +kernel
theorem dX10_holds_49 : decode cX10_holds 49 = .ok (.iaload, 1) := by decide +kernel
theorem dX10_holds_50 : decode cX10_holds 50 = .ok (.iconst 2, 1) := by decide +kernel
theorem dX10_holds_51 : decode cX10_holds 51 = .ok (.if_icmp .ne 10, 3) := by decide +kernel
theorem dX10_holds_54 : decode cX10_holds 54 = .ok (.iload_n 2, 1) := by decide +kernel
theorem dX10_holds_55 : decode cX10_holds 55 = .ok (.bipush 10, 2) := by decide +kernel
theorem dX10_holds_57 : decode cX10_holds 57 = .ok (.iadd, 1) := by decide +kernel
theorem dX10_holds_58 : decode cX10_holds 58 = .ok (.goto 4, 3) := by decide +kernel
theorem dX10_holds_61 : decode cX10_holds 61 = .ok (.iload_n 2, 1) := by decide +kernel
theorem dX10_holds_62 : decode cX10_holds 62 = .ok (.ireturn, 1) := by decide +kernel
set_option maxRecDepth 20000 in
theorem ggX10_ofThing_X10_isThing : GoodIn wsX10_ofThing wsX10_isThing := goodIn_r _ [10, 11, 17, 18, 19, 20, 21, 22, 23, 24, 25, 26, 27, 28, 29, 30, 31, 32, 33, 34, 35, 36, 37, 38, 39, 40, 41, 42, 43, 44, 45, 46, 47, 48, 49, 50] (by decide +kernel) (by decide +kernel)
set_option maxRecDepth 20000 in
theorem gX10_ofThing_X10_isThing : GoodIn wsX10_ofThing (wsV RX10 136 RX10 yX10_isThing wsX10_isThing) := goodIn_app (goodIn_of _ (by decide +kernel)) ggX10_ofThing_X10_isThing
set_option maxRecDepth 20000 in
theorem ggX10_ofThing_X10_holds : GoodIn wsX10_ofThing wsX10_holds := goodIn_r _ [15, 4, 16, 1, 17, 18, 19, 20, 21, 22, 23, 24, 25, 26, 27, 28, 29, 30, 31, 32, 33, 34, 35, 36, 37, 38, 39, 40, 41, 42, 43, 44, 45, 46, 47, 48, 49, 50] (by decide +kernel) (by decide +kernel)
set_option maxRecDepth 20000 in
theorem gX10_ofThing_X10_holds : GoodIn wsX10_ofThing (wsV RX10 139 RX10 yX10_holds wsX10_holds) := goodIn_app (goodIn_of _ (by decide +kernel)) ggX10_ofThing_X10_holds
theorem dX10_ofThing_0 : decode cX10_ofThing 0 = .ok (.aload_n 0, 1) := by decide +kernel
theorem dX10_ofThing_1 : decode cX10_ofThing 1 = .ok (.iload_n 1, 1) := by decide +kernel
theorem dX10_ofThing_2 : decode cX10_ofThing 2 = .ok (.invokevirtual 136, 3) := by decide +kernel
theorem dX10_ofThing_5 : decode cX10_ofThing 5 = .ok (.ifCond .ne 5, 3) := by decide +kernel
theorem dX10_ofThing_8 : decode cX10_ofThing 8 = .ok (.iconst (-1), 1) := by decide +kernel
theorem dX10_ofThing_9 : decode cX10_ofThing 9 = .ok (.ireturn, 1) := by decide +kernel
theorem dX10_ofThing_10 : decode cX10_ofThing 10 = .ok (.iload_n 2, 1) := by decide +kernel
theorem dX10_ofThing_11 : decode cX10_ofThing 11 = .ok (.tableswitch 78 0 5 #[37, 44, 51, 58, 65, 72], 37) := by decide +kernel
theorem dX10_ofThing_48 : decode cX10_ofThing 48 = .ok (.aload_n 0, 1) := by decide +kernel
theorem dX10_ofThing_49 : decode cX10_ofThing 49 = .ok (.getfield 19, 3) := by decide +kernel
theorem dX10_ofThing_52 : decode cX10_ofThing 52 = .ok (.iload_n 1, 1) := by decide +kernel
theorem dX10_ofThing_53 : decode cX10_ofThing 53 = .ok (.iaload, 1) := by decide +kernel
theorem dX10_ofThing_54 : decode cX10_ofThing 54 = .ok (.ireturn, 1) := by decide +kernel
theorem dX10_ofThing_55 : decode cX10_ofThing 55 = .ok (.aload_n 0, 1) := by decide +kernel
theorem dX10_ofThing_56 : decode cX10_ofThing 56 = .ok (.getfield 22, 3) := by decide +kernel
theorem dX10_ofThing_59 : decode cX10_ofThing 59 = .ok (.iload_n 1, 1) := by decide +kernel
theorem dX10_ofThing_60 : decode cX10_ofThing 60 = .ok (.iaload, 1) := by decide +kernel
theorem dX10_ofThing_61 : decode cX10_ofThing 61 = .ok (.ireturn, 1) := by decide +kernel
theorem dX10_ofThing_62 : decode cX10_ofThing 62 = .ok (.aload_n 0, 1) := by decide +kernel
theorem dX10_ofThing_63 : decode cX10_ofThing 63 = .ok (.getfield 25, 3) := by decide +kernel
theorem dX10_ofThing_66 : decode cX10_ofThing 66 = .ok (.iload_n 1, 1) := by decide +kernel
theorem dX10_ofThing_67 : decode cX10_ofThing 67 = .ok (.iaload, 1) := by decide +kernel
theorem dX10_ofThing_68 : decode cX10_ofThing 68 = .ok (.ireturn, 1) := by decide +kernel
theorem dX10_ofThing_69 : decode cX10_ofThing 69 = .ok (.aload_n 0, 1) := by decide +kernel
theorem dX10_ofThing_70 : decode cX10_ofThing 70 = .ok (.getfield 28, 3) := by decide +kernel
theorem dX10_ofThing_73 : decode cX10_ofThing 73 = .ok (.iload_n 1, 1) := by decide +kernel
theorem dX10_ofThing_74 : decode cX10_ofThing 74 = .ok (.iaload, 1) := by decide +kernel
theorem dX10_ofThing_75 : decode cX10_ofThing 75 = .ok (.ireturn, 1) := by decide +kernel
theorem dX10_ofThing_76 : decode cX10_ofThing 76 = .ok (.aload_n 0, 1) := by decide +kernel
theorem dX10_ofThing_77 : decode cX10_ofThing 77 = .ok (.getfield 31, 3) := by decide +kernel
theorem dX10_ofThing_80 : decode cX10_ofThing 80 = .ok (.iload_n 1, 1) := by decide +kernel
theorem dX10_ofThing_81 : decode cX10_ofThing 81 = .ok (.iaload, 1) := by decide +kernel
theorem dX10_ofThing_82 : decode cX10_ofThing 82 = .ok (.ireturn, 1) := by decide +kernel
theorem dX10_ofThing_83 : decode cX10_ofThing 83 = .ok (.aload_n 0, 1) := by decide +kernel
theorem dX10_ofThing_84 : decode cX10_ofThing 84 = .ok (.iload_n 1, 1) := by decide +kernel
theorem dX10_ofThing_85 : decode cX10_ofThing 85 = .ok (.invokevirtual 139, 3) := by decide +kernel
theorem dX10_ofThing_88 : decode cX10_ofThing 88 = .ok (.ireturn, 1) := by decide +kernel
theorem dX10_ofThing_89 : decode cX10_ofThing 89 = .ok (.bipush (-2), 2) := by decide +kernel
theorem dX10_ofThing_91 : decode cX10_ofThing 91 = .ok (.ireturn, 1) := by decide +kernel
set_option maxRecDepth 20000 in
theorem ggX10_smithy_X10_within : GoodIn wsX10_smithy wsX10_within := goodIn_r _ [6] (by decide +kernel) (by decide +kernel)
set_option maxRecDepth 20000 in
theorem gX10_smithy_X10_within : GoodIn wsX10_smithy (va_wsS RX10 86 yX10_within wsX10_within) := goodIn_app (goodIn_of _ (by decide +kernel)) ggX10_smithy_X10_within
theorem dX10_smithy_0 : decode cX10_smithy 0 = .ok (.iload_n 1, 1) := by decide +kernel
theorem dX10_smithy_1 : decode cX10_smithy 1 = .ok (.iconst 0, 1) := by decide +kernel
theorem dX10_smithy_2 : decode cX10_smithy 2 = .ok (.bipush 9, 2) := by decide +kernel
theorem dX10_smithy_4 : decode cX10_smithy 4 = .ok (.invokestatic 86, 3) := by decide +kernel
theorem dX10_smithy_7 : decode cX10_smithy 7 = .ok (.ifCond .ne 6, 3) := by decide +kernel
theorem dX10_smithy_10 : decode cX10_smithy 10 = .ok (.bipush (-2), 2) := by decide +kernel
theorem dX10_smithy_12 : decode cX10_smithy 12 = .ok (.ireturn, 1) := by decide +kernel
theorem dX10_smithy_13 : decode cX10_smithy 13 = .ok (.aload_n 0, 1) := by decide +kernel
theorem dX10_smithy_14 : decode cX10_smithy 14 = .ok (.getfield 90, 3) := by decide +kernel
theorem dX10_smithy_17 : decode cX10_smithy 17 = .ok (.ifCond .ne 6, 3) := by decide +kernel
theorem dX10_smithy_20 : decode cX10_smithy 20 = .ok (.bipush (-3), 2) := by decide +kernel
theorem dX10_smithy_22 : decode cX10_smithy 22 = .ok (.ireturn, 1) := by decide +kernel
theorem dX10_smithy_23 : decode cX10_smithy 23 = .ok (.aload_n 0, 1) := by decide +kernel
theorem dX10_smithy_24 : decode cX10_smithy 24 = .ok (.getfield 117, 3) := by decide +kernel
theorem dX10_smithy_27 : decode cX10_smithy 27 = .ok (.istore_n 2, 1) := by decide +kernel
theorem dX10_smithy_28 : decode cX10_smithy 28 = .ok (.aload_n 0, 1) := by decide +kernel
theorem dX10_smithy_29 : decode cX10_smithy 29 = .ok (.iload_n 1, 1) := by decide +kernel
theorem dX10_smithy_30 : decode cX10_smithy 30 = .ok (.putfield 117, 3) := by decide +kernel
theorem dX10_smithy_33 : decode cX10_smithy 33 = .ok (.iload_n 2, 1) := by decide +kernel
theorem dX10_smithy_34 : decode cX10_smithy 34 = .ok (.ireturn, 1) := by decide +kernel
set_option maxRecDepth 20000 in
theorem ggX10_rust_X10_within : GoodIn wsX10_rust wsX10_within := goodIn_r _ [6] (by decide +kernel) (by decide +kernel)
set_option maxRecDepth 20000 in
theorem gX10_rust_X10_within : GoodIn wsX10_rust (va_wsS RX10 86 yX10_within wsX10_within) := goodIn_app (goodIn_of _ (by decide +kernel)) ggX10_rust_X10_within
theorem dX10_rust_0 : decode cX10_rust 0 = .ok (.iload_n 1, 1) := by decide +kernel
theorem dX10_rust_1 : decode cX10_rust 1 = .ok (.iconst 0, 1) := by decide +kernel
theorem dX10_rust_2 : decode cX10_rust 2 = .ok (.bipush 50, 2) := by decide +kernel
theorem dX10_rust_4 : decode cX10_rust 4 = .ok (.invokestatic 86, 3) := by decide +kernel
theorem dX10_rust_7 : decode cX10_rust 7 = .ok (.ifCond .ne 6, 3) := by decide +kernel
theorem dX10_rust_10 : decode cX10_rust 10 = .ok (.bipush (-2), 2) := by decide +kernel
theorem dX10_rust_12 : decode cX10_rust 12 = .ok (.ireturn, 1) := by decide +kernel
theorem dX10_rust_13 : decode cX10_rust 13 = .ok (.aload_n 0, 1) := by decide +kernel
theorem dX10_rust_14 : decode cX10_rust 14 = .ok (.getfield 90, 3) := by decide +kernel
theorem dX10_rust_17 : decode cX10_rust 17 = .ok (.ifCond .ne 6, 3) := by decide +kernel
theorem dX10_rust_20 : decode cX10_rust 20 = .ok (.bipush (-3), 2) := by decide +kernel
theorem dX10_rust_22 : decode cX10_rust 22 = .ok (.ireturn, 1) := by decide +kernel
theorem dX10_rust_23 : decode cX10_rust 23 = .ok (.aload_n 0, 1) := by decide +kernel
theorem dX10_rust_24 : decode cX10_rust 24 = .ok (.getfield 123, 3) := by decide +kernel
theorem dX10_rust_27 : decode cX10_rust 27 = .ok (.istore_n 2, 1) := by decide +kernel
theorem dX10_rust_28 : decode cX10_rust 28 = .ok (.aload_n 0, 1) := by decide +kernel
theorem dX10_rust_29 : decode cX10_rust 29 = .ok (.iload_n 1, 1) := by decide +kernel
theorem dX10_rust_30 : decode cX10_rust 30 = .ok (.putfield 123, 3) := by decide +kernel
theorem dX10_rust_33 : decode cX10_rust 33 = .ok (.iload_n 2, 1) := by decide +kernel
theorem dX10_rust_34 : decode cX10_rust 34 = .ok (.ireturn, 1) := by decide +kernel
theorem dX10_between_0 : decode cX10_between 0 = .ok (.iload_n 0, 1) := by decide +kernel
theorem dX10_between_1 : decode cX10_between 1 = .ok (.iload_n 1, 1) := by decide +kernel
theorem dX10_between_2 : decode cX10_between 2 = .ok (.if_icmp .ge 9, 3) := by decide +kernel
theorem dX10_between_5 : decode cX10_between 5 = .ok (.iload_n 1, 1) := by decide +kernel
theorem dX10_between_6 : decode cX10_between 6 = .ok (.iload_n 0, 1) := by decide +kernel
theorem dX10_between_7 : decode cX10_between 7 = .ok (.isub, 1) := by decide +kernel
theorem dX10_between_8 : decode cX10_between 8 = .ok (.goto 6, 3) := by decide +kernel
theorem dX10_between_11 : decode cX10_between 11 = .ok (.iload_n 0, 1) := by decide +kernel
theorem dX10_between_12 : decode cX10_between 12 = .ok (.iload_n 1, 1) := by decide +kernel
theorem dX10_between_13 : decode cX10_between 13 = .ok (.isub, 1) := by decide +kernel
theorem dX10_between_14 : decode cX10_between 14 = .ok (.ireturn, 1) := by decide +kernel
set_option maxRecDepth 20000 in
theorem ggX10_layComings_X10_between : GoodIn wsX10_layComings wsX10_between := goodIn_r _ [12] (by decide +kernel) (by decide +kernel)
set_option maxRecDepth 20000 in
theorem gX10_layComings_X10_between : GoodIn wsX10_layComings (va_wsS RX10 148 yX10_between wsX10_between) := goodIn_app (goodIn_of _ (by decide +kernel)) ggX10_layComings_X10_between
theorem dX10_layComings_0 : decode cX10_layComings 0 = .ok (.aload_n 0, 1) := by decide +kernel
theorem dX10_layComings_1 : decode cX10_layComings 1 = .ok (.iconst 0, 1) := by decide +kernel
theorem dX10_layComings_2 : decode cX10_layComings 2 = .ok (.putfield 142, 3) := by decide +kernel
theorem dX10_layComings_5 : decode cX10_layComings 5 = .ok (.aload_n 0, 1) := by decide +kernel
theorem dX10_layComings_6 : decode cX10_layComings 6 = .ok (.getfield 145, 3) := by decide +kernel
theorem dX10_layComings_9 : decode cX10_layComings 9 = .ok (.ifCond .ne 4, 3) := by decide +kernel
theorem dX10_layComings_12 : decode cX10_layComings 12 = .ok (.return_, 1) := by decide +kernel
theorem dX10_layComings_13 : decode cX10_layComings 13 = .ok (.aload_n 0, 1) := by decide +kernel
theorem dX10_layComings_14 : decode cX10_layComings 14 = .ok (.getfield 117, 3) := by decide +kernel
theorem dX10_layComings_17 : decode cX10_layComings 17 = .ok (.aload_n 0, 1) := by decide +kernel
theorem dX10_layComings_18 : decode cX10_layComings 18 = .ok (.getfield 22, 3) := by decide +kernel
theorem dX10_layComings_21 : decode cX10_layComings 21 = .ok (.aload_n 0, 1) := by decide +kernel
theorem dX10_layComings_22 : decode cX10_layComings 22 = .ok (.getfield 49, 3) := by decide +kernel
theorem dX10_layComings_25 : decode cX10_layComings 25 = .ok (.iconst 0, 1) := by decide +kernel
theorem dX10_layComings_26 : decode cX10_layComings 26 = .ok (.iaload, 1) := by decide +kernel
theorem dX10_layComings_27 : decode cX10_layComings 27 = .ok (.iaload, 1) := by decide +kernel
theorem dX10_layComings_28 : decode cX10_layComings 28 = .ok (.invokestatic 148, 3) := by decide +kernel
theorem dX10_layComings_31 : decode cX10_layComings 31 = .ok (.istore_n 3, 1) := by decide +kernel
theorem dX10_layComings_32 : decode cX10_layComings 32 = .ok (.iconst 0, 1) := by decide +kernel
theorem dX10_layComings_33 : decode cX10_layComings 33 = .ok (.istore 4, 2) := by decide +kernel
theorem dX10_layComings_35 : decode cX10_layComings 35 = .ok (.iload_n 3, 1) := by decide +kernel
theorem dX10_layComings_36 : decode cX10_layComings 36 = .ok (.iload_n 1, 1) := by decide +kernel
theorem dX10_layComings_37 : decode cX10_layComings 37 = .ok (.if_icmp .ge 108, 3) := by decide +kernel
theorem dX10_layComings_40 : decode cX10_layComings 40 = .ok (.aload_n 0, 1) := by decide +kernel
theorem dX10_layComings_41 : decode cX10_layComings 41 = .ok (.getfield 142, 3) := by decide +kernel
theorem dX10_layComings_44 : decode cX10_layComings 44 = .ok (.iload_n 2, 1) := by decide +kernel
theorem dX10_layComings_45 : decode cX10_layComings 45 = .ok (.if_icmp .ge 100, 3) := by decide +kernel
theorem dX10_layComings_48 : decode cX10_layComings 48 = .ok (.aload_n 0, 1) := by decide +kernel
theorem dX10_layComings_49 : decode cX10_layComings 49 = .ok (.getfield 49, 3) := by decide +kernel
theorem dX10_layComings_52 : decode cX10_layComings 52 = .ok (.iload 4, 2) := by decide +kernel
theorem dX10_layComings_54 : decode cX10_layComings 54 = .ok (.iaload, 1) := by decide +kernel
theorem dX10_layComings_55 : decode cX10_layComings 55 = .ok (.istore 5, 2) := by decide +kernel
theorem dX10_layComings_57 : decode cX10_layComings 57 = .ok (.aload_n 0, 1) := by decide +kernel
theorem dX10_layComings_58 : decode cX10_layComings 58 = .ok (.getfield 52, 3) := by decide +kernel
theorem dX10_layComings_61 : decode cX10_layComings 61 = .ok (.aload_n 0, 1) := by decide +kernel
theorem dX10_layComings_62 : decode cX10_layComings 62 = .ok (.getfield 142, 3) := by decide +kernel
theorem dX10_layComings_65 : decode cX10_layComings 65 = .ok (.iload_n 3, 1) := by decide +kernel
theorem dX10_layComings_66 : decode cX10_layComings 66 = .ok (.iastore, 1) := by decide +kernel
theorem dX10_layComings_67 : decode cX10_layComings 67 = .ok (.aload_n 0, 1) := by decide +kernel
theorem dX10_layComings_68 : decode cX10_layComings 68 = .ok (.getfield 55, 3) := by decide +kernel
theorem dX10_layComings_71 : decode cX10_layComings 71 = .ok (.aload_n 0, 1) := by decide +kernel
theorem dX10_layComings_72 : decode cX10_layComings 72 = .ok (.getfield 142, 3) := by decide +kernel
theorem dX10_layComings_75 : decode cX10_layComings 75 = .ok (.iload 5, 2) := by decide +kernel
theorem dX10_layComings_77 : decode cX10_layComings 77 = .ok (.iastore, 1) := by decide +kernel
theorem dX10_layComings_78 : decode cX10_layComings 78 = .ok (.aload_n 0, 1) := by decide +kernel
theorem dX10_layComings_79 : decode cX10_layComings 79 = .ok (.dup, 1) := by decide +kernel
theorem dX10_layComings_80 : decode cX10_layComings 80 = .ok (.getfield 142, 3) := by decide +kernel
theorem dX10_layComings_83 : decode cX10_layComings 83 = .ok (.iconst 1, 1) := by decide +kernel
theorem dX10_layComings_84 : decode cX10_layComings 84 = .ok (.iadd, 1) := by decide +kernel
theorem dX10_layComings_85 : decode cX10_layComings 85 = .ok (.putfield 142, 3) := by decide +kernel
theorem dX10_layComings_88 : decode cX10_layComings 88 = .ok (.iload 4, 2) := by decide +kernel
theorem dX10_layComings_90 : decode cX10_layComings 90 = .ok (.iconst 1, 1) := by decide +kernel
theorem dX10_layComings_91 : decode cX10_layComings 91 = .ok (.iadd, 1) := by decide +kernel
theorem dX10_layComings_92 : decode cX10_layComings 92 = .ok (.aload_n 0, 1) := by decide +kernel
theorem dX10_layComings_93 : decode cX10_layComings 93 = .ok (.getfield 145, 3) := by decide +kernel
theorem dX10_layComings_96 : decode cX10_layComings 96 = .ok (.if_icmp .ne 7, 3) := by decide +kernel
theorem dX10_layComings_99 : decode cX10_layComings 99 = .ok (.iconst 0, 1) := by decide +kernel
theorem dX10_layComings_100 : decode cX10_layComings 100 = .ok (.goto 7, 3) := by decide +kernel
theorem dX10_layComings_103 : decode cX10_layComings 103 = .ok (.iload 4, 2) := by decide +kernel
theorem dX10_layComings_105 : decode cX10_layComings 105 = .ok (.iconst 1, 1) := by decide +kernel
theorem dX10_layComings_106 : decode cX10_layComings 106 = .ok (.iadd, 1) := by decide +kernel
theorem dX10_layComings_107 : decode cX10_layComings 107 = .ok (.istore 4, 2) := by decide +kernel
theorem dX10_layComings_109 : decode cX10_layComings 109 = .ok (.iload_n 3, 1) := by decide +kernel
theorem dX10_layComings_110 : decode cX10_layComings 110 = .ok (.aload_n 0, 1) := by decide +kernel
theorem dX10_layComings_111 : decode cX10_layComings 111 = .ok (.getfield 25, 3) := by decide +kernel
theorem dX10_layComings_114 : decode cX10_layComings 114 = .ok (.iload 5, 2) := by decide +kernel
theorem dX10_layComings_116 : decode cX10_layComings 116 = .ok (.iaload, 1) := by decide +kernel
theorem dX10_layComings_117 : decode cX10_layComings 117 = .ok (.aload_n 0, 1) := by decide +kernel
theorem dX10_layComings_118 : decode cX10_layComings 118 = .ok (.getfield 22, 3) := by decide +kernel
theorem dX10_layComings_121 : decode cX10_layComings 121 = .ok (.iload 5, 2) := by decide +kernel
theorem dX10_layComings_123 : decode cX10_layComings 123 = .ok (.iaload, 1) := by decide +kernel
theorem dX10_layComings_124 : decode cX10_layComings 124 = .ok (.aload_n 0, 1) := by decide +kernel
theorem dX10_layComings_125 : decode cX10_layComings 125 = .ok (.getfield 22, 3) := by decide +kernel
theorem dX10_layComings_128 : decode cX10_layComings 128 = .ok (.aload_n 0, 1) := by decide +kernel
theorem dX10_layComings_129 : decode cX10_layComings 129 = .ok (.getfield 49, 3) := by decide +kernel
theorem dX10_layComings_132 : decode cX10_layComings 132 = .ok (.iload 4, 2) := by decide +kernel
theorem dX10_layComings_134 : decode cX10_layComings 134 = .ok (.iaload, 1) := by decide +kernel
theorem dX10_layComings_135 : decode cX10_layComings 135 = .ok (.iaload, 1) := by decide +kernel
theorem dX10_layComings_136 : decode cX10_layComings 136 = .ok (.invokestatic 148, 3) := by decide +kernel
theorem dX10_layComings_139 : decode cX10_layComings 139 = .ok (.iadd, 1) := by decide +kernel
theorem dX10_layComings_140 : decode cX10_layComings 140 = .ok (.iadd, 1) := by decide +kernel
theorem dX10_layComings_141 : decode cX10_layComings 141 = .ok (.istore_n 3, 1) := by decide +kernel
theorem dX10_layComings_142 : decode cX10_layComings 142 = .ok (.goto (-107), 3) := by decide +kernel
theorem dX10_layComings_145 : decode cX10_layComings 145 = .ok (.return_, 1) := by decide +kernel
set_option maxRecDepth 20000 in
theorem ggX10_fallsOf_X10_holds : GoodIn wsX10_fallsOf wsX10_holds := goodIn_r _ [10, 11, 12, 13, 14, 15, 16, 17, 18, 19, 20, 21, 22, 23, 24, 25, 26, 27, 28, 29, 30, 31, 32, 33, 34, 35, 36, 37, 38, 39, 40, 41, 42, 43, 44, 45, 46, 47] (by decide +kernel) (by decide +kernel)
set_option maxRecDepth 20000 in
theorem gX10_fallsOf_X10_holds : GoodIn wsX10_fallsOf (wsV RX10 139 RX10 yX10_holds wsX10_holds) := goodIn_app (goodIn_of _ (by decide +kernel)) ggX10_fallsOf_X10_holds
theorem dX10_fallsOf_0 : decode cX10_fallsOf 0 = .ok (.iconst 0, 1) := by decide +kernel
theorem dX10_fallsOf_1 : decode cX10_fallsOf 1 = .ok (.istore_n 3, 1) := by decide +kernel
theorem dX10_fallsOf_2 : decode cX10_fallsOf 2 = .ok (.aload_n 0, 1) := by decide +kernel
theorem dX10_fallsOf_3 : decode cX10_fallsOf 3 = .ok (.iload_n 1, 1) := by decide +kernel
theorem dX10_fallsOf_4 : decode cX10_fallsOf 4 = .ok (.invokevirtual 139, 3) := by decide +kernel
theorem dX10_fallsOf_7 : decode cX10_fallsOf 7 = .ok (.istore 4, 2) := by decide +kernel
theorem dX10_fallsOf_9 : decode cX10_fallsOf 9 = .ok (.iconst 0, 1) := by decide +kernel
theorem dX10_fallsOf_10 : decode cX10_fallsOf 10 = .ok (.istore 5, 2) := by decide +kernel
theorem dX10_fallsOf_12 : decode cX10_fallsOf 12 = .ok (.iload 5, 2) := by decide +kernel
theorem dX10_fallsOf_14 : decode cX10_fallsOf 14 = .ok (.aload_n 0, 1) := by decide +kernel
theorem dX10_fallsOf_15 : decode cX10_fallsOf 15 = .ok (.getfield 142, 3) := by decide +kernel
theorem dX10_fallsOf_18 : decode cX10_fallsOf 18 = .ok (.if_icmp .ge 71, 3) := by decide +kernel
theorem dX10_fallsOf_21 : decode cX10_fallsOf 21 = .ok (.aload_n 0, 1) := by decide +kernel
theorem dX10_fallsOf_22 : decode cX10_fallsOf 22 = .ok (.getfield 55, 3) := by decide +kernel
theorem dX10_fallsOf_25 : decode cX10_fallsOf 25 = .ok (.iload 5, 2) := by decide +kernel
theorem dX10_fallsOf_27 : decode cX10_fallsOf 27 = .ok (.iaload, 1) := by decide +kernel
theorem dX10_fallsOf_28 : decode cX10_fallsOf 28 = .ok (.iload_n 1, 1) := by decide +kernel
theorem dX10_fallsOf_29 : decode cX10_fallsOf 29 = .ok (.if_icmp .ne 54, 3) := by decide +kernel
theorem dX10_fallsOf_32 : decode cX10_fallsOf 32 = .ok (.iload 4, 2) := by decide +kernel
theorem dX10_fallsOf_34 : decode cX10_fallsOf 34 = .ok (.aload_n 0, 1) := by decide +kernel
theorem dX10_fallsOf_35 : decode cX10_fallsOf 35 = .ok (.getfield 52, 3) := by decide +kernel
theorem dX10_fallsOf_38 : decode cX10_fallsOf 38 = .ok (.iload 5, 2) := by decide +kernel
theorem dX10_fallsOf_40 : decode cX10_fallsOf 40 = .ok (.iaload, 1) := by decide +kernel
theorem dX10_fallsOf_41 : decode cX10_fallsOf 41 = .ok (.if_icmp .ge 20, 3) := by decide +kernel
theorem dX10_fallsOf_44 : decode cX10_fallsOf 44 = .ok (.iload 4, 2) := by decide +kernel
theorem dX10_fallsOf_46 : decode cX10_fallsOf 46 = .ok (.iload_n 2, 1) := by decide +kernel
theorem dX10_fallsOf_47 : decode cX10_fallsOf 47 = .ok (.if_icmp .ge 14, 3) := by decide +kernel
theorem dX10_fallsOf_50 : decode cX10_fallsOf 50 = .ok (.aload_n 0, 1) := by decide +kernel
theorem dX10_fallsOf_51 : decode cX10_fallsOf 51 = .ok (.getfield 58, 3) := by decide +kernel
theorem dX10_fallsOf_54 : decode cX10_fallsOf 54 = .ok (.iload_n 3, 1) := by decide +kernel
theorem dX10_fallsOf_55 : decode cX10_fallsOf 55 = .ok (.iload 4, 2) := by decide +kernel
theorem dX10_fallsOf_57 : decode cX10_fallsOf 57 = .ok (.iastore, 1) := by decide +kernel
theorem dX10_fallsOf_58 : decode cX10_fallsOf 58 = .ok (.iinc 3 1, 3) := by decide +kernel
theorem dX10_fallsOf_61 : decode cX10_fallsOf 61 = .ok (.aload_n 0, 1) := by decide +kernel
theorem dX10_fallsOf_62 : decode cX10_fallsOf 62 = .ok (.getfield 52, 3) := by decide +kernel
theorem dX10_fallsOf_65 : decode cX10_fallsOf 65 = .ok (.iload 5, 2) := by decide +kernel
theorem dX10_fallsOf_67 : decode cX10_fallsOf 67 = .ok (.iaload, 1) := by decide +kernel
theorem dX10_fallsOf_68 : decode cX10_fallsOf 68 = .ok (.aload_n 0, 1) := by decide +kernel
theorem dX10_fallsOf_69 : decode cX10_fallsOf 69 = .ok (.getfield 25, 3) := by decide +kernel
theorem dX10_fallsOf_72 : decode cX10_fallsOf 72 = .ok (.iload_n 1, 1) := by decide +kernel
theorem dX10_fallsOf_73 : decode cX10_fallsOf 73 = .ok (.iaload, 1) := by decide +kernel
theorem dX10_fallsOf_74 : decode cX10_fallsOf 74 = .ok (.iadd, 1) := by decide +kernel
theorem dX10_fallsOf_75 : decode cX10_fallsOf 75 = .ok (.aload_n 0, 1) := by decide +kernel
theorem dX10_fallsOf_76 : decode cX10_fallsOf 76 = .ok (.iload_n 1, 1) := by decide +kernel
theorem dX10_fallsOf_77 : decode cX10_fallsOf 77 = .ok (.invokevirtual 139, 3) := by decide +kernel
theorem dX10_fallsOf_80 : decode cX10_fallsOf 80 = .ok (.iadd, 1) := by decide +kernel
theorem dX10_fallsOf_81 : decode cX10_fallsOf 81 = .ok (.istore 4, 2) := by decide +kernel
theorem dX10_fallsOf_83 : decode cX10_fallsOf 83 = .ok (.iinc 5 1, 3) := by decide +kernel
theorem dX10_fallsOf_86 : decode cX10_fallsOf 86 = .ok (.goto (-74), 3) := by decide +kernel
theorem dX10_fallsOf_89 : decode cX10_fallsOf 89 = .ok (.iload 4, 2) := by decide +kernel
theorem dX10_fallsOf_91 : decode cX10_fallsOf 91 = .ok (.iload_n 2, 1) := by decide +kernel
theorem dX10_fallsOf_92 : decode cX10_fallsOf 92 = .ok (.if_icmp .ge 14, 3) := by decide +kernel
theorem dX10_fallsOf_95 : decode cX10_fallsOf 95 = .ok (.aload_n 0, 1) := by decide +kernel
theorem dX10_fallsOf_96 : decode cX10_fallsOf 96 = .ok (.getfield 58, 3) := by decide +kernel
theorem dX10_fallsOf_99 : decode cX10_fallsOf 99 = .ok (.iload_n 3, 1) := by decide +kernel
theorem dX10_fallsOf_100 : decode cX10_fallsOf 100 = .ok (.iload 4, 2) := by decide +kernel
theorem dX10_fallsOf_102 : decode cX10_fallsOf 102 = .ok (.iastore, 1) := by decide +kernel
theorem dX10_fallsOf_103 : decode cX10_fallsOf 103 = .ok (.iinc 3 1, 3) := by decide +kernel
theorem dX10_fallsOf_106 : decode cX10_fallsOf 106 = .ok (.iload_n 3, 1) := by decide +kernel
theorem dX10_fallsOf_107 : decode cX10_fallsOf 107 = .ok (.ireturn, 1) := by decide +kernel
set_option maxRecDepth 20000 in
theorem ggX10_harmOf_X10_layComings : GoodIn wsX10_harmOf wsX10_layComings := goodIn_r _ [7, 8, 9, 10, 11, 12, 13, 14, 15, 16, 17, 6, 18, 31, 32, 33, 34, 35, 36, 37, 38, 39, 40, 41, 42, 43, 44, 45, 46, 47, 48, 49, 50, 51, 52, 53, 54, 55, 56, 57, 58, 59, 60, 61, 62, 63, 64] (by decide +kernel) (by decide +kernel)
set_option maxRecDepth 20000 in
theorem gX10_harmOf_X10_layComings : GoodIn wsX10_harmOf (wsV RX10 151 RX10 yX10_layComings wsX10_layComings) := goodIn_app (goodIn_of _ (by decide +kernel)) ggX10_harmOf_X10_layComings
set_option maxRecDepth 20000 in
theorem ggX10_harmOf_X10_fallsOf : GoodIn wsX10_harmOf wsX10_fallsOf := goodIn_r _ [22, 8, 14, 13, 23, 15, 24, 25, 26, 6, 27, 28, 29, 30, 31, 32, 33, 34, 35, 36, 37, 38, 39, 40, 41, 42, 43, 44, 45, 46, 47, 48, 49, 50, 51, 52, 53, 54, 55, 56, 57, 58, 59, 60, 61, 62, 63, 64] (by decide +kernel) (by decide +kernel)
set_option maxRecDepth 20000 in
theorem gX10_harmOf_X10_fallsOf : GoodIn wsX10_harmOf (wsV RX10 155 RX10 yX10_fallsOf wsX10_fallsOf) := goodIn_app (goodIn_of _ (by decide +kernel)) ggX10_harmOf_X10_fallsOf
theorem dX10_harmOf_0 : decode cX10_harmOf 0 = .ok (.aload_n 0, 1) := by decide +kernel
theorem dX10_harmOf_1 : decode cX10_harmOf 1 = .ok (.sipush 300, 3) := by decide +kernel
theorem dX10_harmOf_4 : decode cX10_harmOf 4 = .ok (.sipush 400, 3) := by decide +kernel
theorem dX10_harmOf_7 : decode cX10_harmOf 7 = .ok (.invokevirtual 151, 3) := by decide +kernel
theorem dX10_harmOf_10 : decode cX10_harmOf 10 = .ok (.iconst 0, 1) := by decide +kernel
theorem dX10_harmOf_11 : decode cX10_harmOf 11 = .ok (.istore_n 3, 1) := by decide +kernel
theorem dX10_harmOf_12 : decode cX10_harmOf 12 = .ok (.iconst 0, 1) := by decide +kernel
theorem dX10_harmOf_13 : decode cX10_harmOf 13 = .ok (.istore 4, 2) := by decide +kernel
theorem dX10_harmOf_15 : decode cX10_harmOf 15 = .ok (.iload 4, 2) := by decide +kernel
theorem dX10_harmOf_17 : decode cX10_harmOf 17 = .ok (.aload_n 0, 1) := by decide +kernel
theorem dX10_harmOf_18 : decode cX10_harmOf 18 = .ok (.getfield 90, 3) := by decide +kernel
theorem dX10_harmOf_21 : decode cX10_harmOf 21 = .ok (.if_icmp .ge 41, 3) := by decide +kernel
theorem dX10_harmOf_24 : decode cX10_harmOf 24 = .ok (.iload_n 3, 1) := by decide +kernel
theorem dX10_harmOf_25 : decode cX10_harmOf 25 = .ok (.iload_n 1, 1) := by decide +kernel
theorem dX10_harmOf_26 : decode cX10_harmOf 26 = .ok (.iload 4, 2) := by decide +kernel
theorem dX10_harmOf_28 : decode cX10_harmOf 28 = .ok (.ishr, 1) := by decide +kernel
theorem dX10_harmOf_29 : decode cX10_harmOf 29 = .ok (.iconst 1, 1) := by decide +kernel
theorem dX10_harmOf_30 : decode cX10_harmOf 30 = .ok (.iand, 1) := by decide +kernel
theorem dX10_harmOf_31 : decode cX10_harmOf 31 = .ok (.iconst 1, 1) := by decide +kernel
theorem dX10_harmOf_32 : decode cX10_harmOf 32 = .ok (.if_icmp .ne 21, 3) := by decide +kernel
theorem dX10_harmOf_35 : decode cX10_harmOf 35 = .ok (.aload_n 0, 1) := by decide +kernel
theorem dX10_harmOf_36 : decode cX10_harmOf 36 = .ok (.getfield 31, 3) := by decide +kernel
theorem dX10_harmOf_39 : decode cX10_harmOf 39 = .ok (.iload 4, 2) := by decide +kernel
theorem dX10_harmOf_41 : decode cX10_harmOf 41 = .ok (.iaload, 1) := by decide +kernel
theorem dX10_harmOf_42 : decode cX10_harmOf 42 = .ok (.aload_n 0, 1) := by decide +kernel
theorem dX10_harmOf_43 : decode cX10_harmOf 43 = .ok (.iload 4, 2) := by decide +kernel
theorem dX10_harmOf_45 : decode cX10_harmOf 45 = .ok (.iload_n 2, 1) := by decide +kernel
theorem dX10_harmOf_46 : decode cX10_harmOf 46 = .ok (.invokevirtual 155, 3) := by decide +kernel
theorem dX10_harmOf_49 : decode cX10_harmOf 49 = .ok (.imul, 1) := by decide +kernel
theorem dX10_harmOf_50 : decode cX10_harmOf 50 = .ok (.goto 4, 3) := by decide +kernel
theorem dX10_harmOf_53 : decode cX10_harmOf 53 = .ok (.iconst 0, 1) := by decide +kernel
theorem dX10_harmOf_54 : decode cX10_harmOf 54 = .ok (.iadd, 1) := by decide +kernel
theorem dX10_harmOf_55 : decode cX10_harmOf 55 = .ok (.istore_n 3, 1) := by decide +kernel
theorem dX10_harmOf_56 : decode cX10_harmOf 56 = .ok (.iinc 4 1, 3) := by decide +kernel
theorem dX10_harmOf_59 : decode cX10_harmOf 59 = .ok (.goto (-44), 3) := by decide +kernel
theorem dX10_harmOf_62 : decode cX10_harmOf 62 = .ok (.iload_n 3, 1) := by decide +kernel
theorem dX10_harmOf_63 : decode cX10_harmOf 63 = .ok (.ireturn, 1) := by decide +kernel
theorem dX10_all_0 : decode cX10_all 0 = .ok (.iconst 1, 1) := by decide +kernel
theorem dX10_all_1 : decode cX10_all 1 = .ok (.aload_n 0, 1) := by decide +kernel
theorem dX10_all_2 : decode cX10_all 2 = .ok (.getfield 90, 3) := by decide +kernel
theorem dX10_all_5 : decode cX10_all 5 = .ok (.ishl, 1) := by decide +kernel
theorem dX10_all_6 : decode cX10_all 6 = .ok (.iconst 1, 1) := by decide +kernel
theorem dX10_all_7 : decode cX10_all 7 = .ok (.isub, 1) := by decide +kernel
theorem dX10_all_8 : decode cX10_all 8 = .ok (.ireturn, 1) := by decide +kernel
set_option maxRecDepth 20000 in
theorem ggX10_isSafe_X10_layComings : GoodIn wsX10_isSafe wsX10_layComings := goodIn_r _ [12, 4, 2, 13, 14, 15, 6, 5, 7, 16, 17, 11, 18, 26, 27, 28, 29, 30, 31, 32, 33, 34, 35, 36, 37, 38, 39, 40, 41, 42, 43, 44, 45, 46, 47, 48, 49, 50, 51, 52, 53, 54, 55, 56, 57, 58, 59] (by decide +kernel) (by decide +kernel)
set_option maxRecDepth 20000 in
theorem gX10_isSafe_X10_layComings : GoodIn wsX10_isSafe (wsV RX10 151 RX10 yX10_layComings wsX10_layComings) := goodIn_app (goodIn_of _ (by decide +kernel)) ggX10_isSafe_X10_layComings
set_option maxRecDepth 20000 in
theorem ggX10_isSafe_X10_holds : GoodIn wsX10_isSafe wsX10_holds := goodIn_r _ [22, 23, 24, 25, 26, 27, 28, 29, 30, 31, 32, 33, 34, 35, 36, 37, 38, 39, 40, 41, 42, 43, 44, 45, 46, 47, 48, 49, 50, 51, 52, 53, 54, 55, 56, 57, 58, 59] (by decide +kernel) (by decide +kernel)
set_option maxRecDepth 20000 in
theorem gX10_isSafe_X10_holds : GoodIn wsX10_isSafe (wsV RX10 139 RX10 yX10_holds wsX10_holds) := goodIn_app (goodIn_of _ (by decide +kernel)) ggX10_isSafe_X10_holds
theorem dX10_isSafe_0 : decode cX10_isSafe 0 = .ok (.aload_n 0, 1) := by decide +kernel
theorem dX10_isSafe_1 : decode cX10_isSafe 1 = .ok (.ldc 158, 2) := by decide +kernel
theorem dX10_isSafe_3 : decode cX10_isSafe 3 = .ok (.iconst 3, 1) := by decide +kernel
theorem dX10_isSafe_4 : decode cX10_isSafe 4 = .ok (.aload_n 0, 1) := by decide +kernel
theorem dX10_isSafe_5 : decode cX10_isSafe 5 = .ok (.getfield 145, 3) := by decide +kernel
theorem dX10_isSafe_8 : decode cX10_isSafe 8 = .ok (.imul, 1) := by decide +kernel
theorem dX10_isSafe_9 : decode cX10_isSafe 9 = .ok (.invokevirtual 151, 3) := by decide +kernel
theorem dX10_isSafe_12 : decode cX10_isSafe 12 = .ok (.iconst 0, 1) := by decide +kernel
theorem dX10_isSafe_13 : decode cX10_isSafe 13 = .ok (.istore_n 2, 1) := by decide +kernel
theorem dX10_isSafe_14 : decode cX10_isSafe 14 = .ok (.iload_n 2, 1) := by decide +kernel
theorem dX10_isSafe_15 : decode cX10_isSafe 15 = .ok (.aload_n 0, 1) := by decide +kernel
theorem dX10_isSafe_16 : decode cX10_isSafe 16 = .ok (.getfield 90, 3) := by decide +kernel
theorem dX10_isSafe_19 : decode cX10_isSafe 19 = .ok (.if_icmp .ge 109, 3) := by decide +kernel
theorem dX10_isSafe_22 : decode cX10_isSafe 22 = .ok (.iconst 0, 1) := by decide +kernel
theorem dX10_isSafe_23 : decode cX10_isSafe 23 = .ok (.istore_n 3, 1) := by decide +kernel
theorem dX10_isSafe_24 : decode cX10_isSafe 24 = .ok (.aload_n 0, 1) := by decide +kernel
theorem dX10_isSafe_25 : decode cX10_isSafe 25 = .ok (.iload_n 2, 1) := by decide +kernel
theorem dX10_isSafe_26 : decode cX10_isSafe 26 = .ok (.invokevirtual 139, 3) := by decide +kernel
theorem dX10_isSafe_29 : decode cX10_isSafe 29 = .ok (.istore 4, 2) := by decide +kernel
theorem dX10_isSafe_31 : decode cX10_isSafe 31 = .ok (.iconst 0, 1) := by decide +kernel
theorem dX10_isSafe_32 : decode cX10_isSafe 32 = .ok (.istore 5, 2) := by decide +kernel
theorem dX10_isSafe_34 : decode cX10_isSafe 34 = .ok (.iload 5, 2) := by decide +kernel
theorem dX10_isSafe_36 : decode cX10_isSafe 36 = .ok (.aload_n 0, 1) := by decide +kernel
theorem dX10_isSafe_37 : decode cX10_isSafe 37 = .ok (.getfield 142, 3) := by decide +kernel
theorem dX10_isSafe_40 : decode cX10_isSafe 40 = .ok (.if_icmp .ge 67, 3) := by decide +kernel
theorem dX10_isSafe_43 : decode cX10_isSafe 43 = .ok (.aload_n 0, 1) := by decide +kernel
theorem dX10_isSafe_44 : decode cX10_isSafe 44 = .ok (.getfield 55, 3) := by decide +kernel
theorem dX10_isSafe_47 : decode cX10_isSafe 47 = .ok (.iload 5, 2) := by decide +kernel
theorem dX10_isSafe_49 : decode cX10_isSafe 49 = .ok (.iaload, 1) := by decide +kernel
theorem dX10_isSafe_50 : decode cX10_isSafe 50 = .ok (.iload_n 2, 1) := by decide +kernel
theorem dX10_isSafe_51 : decode cX10_isSafe 51 = .ok (.if_icmp .ne 50, 3) := by decide +kernel
theorem dX10_isSafe_54 : decode cX10_isSafe 54 = .ok (.iload_n 1, 1) := by decide +kernel
theorem dX10_isSafe_55 : decode cX10_isSafe 55 = .ok (.iload_n 2, 1) := by decide +kernel
theorem dX10_isSafe_56 : decode cX10_isSafe 56 = .ok (.ishr, 1) := by decide +kernel
theorem dX10_isSafe_57 : decode cX10_isSafe 57 = .ok (.iconst 1, 1) := by decide +kernel
theorem dX10_isSafe_58 : decode cX10_isSafe 58 = .ok (.iand, 1) := by decide +kernel
theorem dX10_isSafe_59 : decode cX10_isSafe 59 = .ok (.iconst 1, 1) := by decide +kernel
theorem dX10_isSafe_60 : decode cX10_isSafe 60 = .ok (.if_icmp .ne 17, 3) := by decide +kernel
theorem dX10_isSafe_63 : decode cX10_isSafe 63 = .ok (.iload 4, 2) := by decide +kernel
theorem dX10_isSafe_65 : decode cX10_isSafe 65 = .ok (.aload_n 0, 1) := by decide +kernel
theorem dX10_isSafe_66 : decode cX10_isSafe 66 = .ok (.getfield 52, 3) := by decide +kernel
theorem dX10_isSafe_69 : decode cX10_isSafe 69 = .ok (.iload 5, 2) := by decide +kernel
theorem dX10_isSafe_71 : decode cX10_isSafe 71 = .ok (.iaload, 1) := by decide +kernel
theorem dX10_isSafe_72 : decode cX10_isSafe 72 = .ok (.if_icmp .ge 5, 3) := by decide +kernel
theorem dX10_isSafe_75 : decode cX10_isSafe 75 = .ok (.iconst 0, 1) := by decide +kernel
theorem dX10_isSafe_76 : decode cX10_isSafe 76 = .ok (.ireturn, 1) := by decide +kernel
theorem dX10_isSafe_77 : decode cX10_isSafe 77 = .ok (.iconst 1, 1) := by decide +kernel
theorem dX10_isSafe_78 : decode cX10_isSafe 78 = .ok (.istore_n 3, 1) := by decide +kernel
theorem dX10_isSafe_79 : decode cX10_isSafe 79 = .ok (.aload_n 0, 1) := by decide +kernel
theorem dX10_isSafe_80 : decode cX10_isSafe 80 = .ok (.getfield 52, 3) := by decide +kernel
theorem dX10_isSafe_83 : decode cX10_isSafe 83 = .ok (.iload 5, 2) := by decide +kernel
theorem dX10_isSafe_85 : decode cX10_isSafe 85 = .ok (.iaload, 1) := by decide +kernel
theorem dX10_isSafe_86 : decode cX10_isSafe 86 = .ok (.aload_n 0, 1) := by decide +kernel
theorem dX10_isSafe_87 : decode cX10_isSafe 87 = .ok (.getfield 25, 3) := by decide +kernel
theorem dX10_isSafe_90 : decode cX10_isSafe 90 = .ok (.iload_n 2, 1) := by decide +kernel
theorem dX10_isSafe_91 : decode cX10_isSafe 91 = .ok (.iaload, 1) := by decide +kernel
theorem dX10_isSafe_92 : decode cX10_isSafe 92 = .ok (.iadd, 1) := by decide +kernel
theorem dX10_isSafe_93 : decode cX10_isSafe 93 = .ok (.aload_n 0, 1) := by decide +kernel
theorem dX10_isSafe_94 : decode cX10_isSafe 94 = .ok (.iload_n 2, 1) := by decide +kernel
theorem dX10_isSafe_95 : decode cX10_isSafe 95 = .ok (.invokevirtual 139, 3) := by decide +kernel
theorem dX10_isSafe_98 : decode cX10_isSafe 98 = .ok (.iadd, 1) := by decide +kernel
theorem dX10_isSafe_99 : decode cX10_isSafe 99 = .ok (.istore 4, 2) := by decide +kernel
theorem dX10_isSafe_101 : decode cX10_isSafe 101 = .ok (.iinc 5 1, 3) := by decide +kernel
theorem dX10_isSafe_104 : decode cX10_isSafe 104 = .ok (.goto (-70), 3) := by decide +kernel
theorem dX10_isSafe_107 : decode cX10_isSafe 107 = .ok (.iload_n 1, 1) := by decide +kernel
theorem dX10_isSafe_108 : decode cX10_isSafe 108 = .ok (.iload_n 2, 1) := by decide +kernel
theorem dX10_isSafe_109 : decode cX10_isSafe 109 = .ok (.ishr, 1) := by decide +kernel
theorem dX10_isSafe_110 : decode cX10_isSafe 110 = .ok (.iconst 1, 1) := by decide +kernel
theorem dX10_isSafe_111 : decode cX10_isSafe 111 = .ok (.iand, 1) := by decide +kernel
theorem dX10_isSafe_112 : decode cX10_isSafe 112 = .ok (.iconst 1, 1) := by decide +kernel
theorem dX10_isSafe_113 : decode cX10_isSafe 113 = .ok (.if_icmp .ne 9, 3) := by decide +kernel
theorem dX10_isSafe_116 : decode cX10_isSafe 116 = .ok (.iload_n 3, 1) := by decide +kernel
theorem dX10_isSafe_117 : decode cX10_isSafe 117 = .ok (.ifCond .ne 5, 3) := by decide +kernel
theorem dX10_isSafe_120 : decode cX10_isSafe 120 = .ok (.iconst 0, 1) := by decide +kernel
theorem dX10_isSafe_121 : decode cX10_isSafe 121 = .ok (.ireturn, 1) := by decide +kernel
theorem dX10_isSafe_122 : decode cX10_isSafe 122 = .ok (.iinc 2 1, 3) := by decide +kernel
theorem dX10_isSafe_125 : decode cX10_isSafe 125 = .ok (.goto (-111), 3) := by decide +kernel
theorem dX10_isSafe_128 : decode cX10_isSafe 128 = .ok (.iconst 1, 1) := by decide +kernel
theorem dX10_isSafe_129 : decode cX10_isSafe 129 = .ok (.ireturn, 1) := by decide +kernel
set_option maxRecDepth 20000 in
theorem ggX10_layRow_X10_against : GoodIn wsX10_layRow wsX10_against := goodIn_r _ [9, 10, 11, 24, 25, 26, 27, 28, 29, 30, 31, 32, 33, 34, 35, 36, 37, 38, 39, 40, 41, 42, 43, 44, 45, 46, 47, 48, 49, 50, 51, 52, 53, 54, 55, 56, 57] (by decide +kernel) (by decide +kernel)
set_option maxRecDepth 20000 in
theorem gX10_layRow_X10_against : GoodIn wsX10_layRow (wsV RX10 103 RX10 yX10_against wsX10_against) := goodIn_app (goodIn_of _ (by decide +kernel)) ggX10_layRow_X10_against
set_option maxRecDepth 20000 in
theorem ggX10_layRow_X10_fails : GoodIn wsX10_layRow wsX10_fails := goodIn_r _ [15, 16, 24, 25, 26, 27, 28, 29, 30, 31, 32, 33, 34, 35, 36, 37, 38, 39, 40, 41, 42, 43, 44, 45, 46, 47, 48, 49, 50, 51, 52, 53, 54, 55, 56, 57] (by decide +kernel) (by decide +kernel)
set_option maxRecDepth 20000 in
theorem gX10_layRow_X10_fails : GoodIn wsX10_layRow (wsV RX10 107 RX10 yX10_fails wsX10_fails) := goodIn_app (goodIn_of _ (by decide +kernel)) ggX10_layRow_X10_fails
set_option maxRecDepth 20000 in
theorem ggX10_layRow_X10_within : GoodIn wsX10_layRow wsX10_within := goodIn_r _ [19] (by decide +kernel) (by decide +kernel)
set_option maxRecDepth 20000 in
theorem gX10_layRow_X10_within : GoodIn wsX10_layRow (va_wsS RX10 86 yX10_within wsX10_within) := goodIn_app (goodIn_of _ (by decide +kernel)) ggX10_layRow_X10_within
set_option maxRecDepth 20000 in
theorem ggX10_layRow_X10_isThing : GoodIn wsX10_layRow wsX10_isThing := goodIn_r _ [23, 1, 24, 25, 26, 27, 28, 29, 30, 31, 32, 33, 34, 35, 36, 37, 38, 39, 40, 41, 42, 43, 44, 45, 46, 47, 48, 49, 50, 51, 52, 53, 54, 55, 56, 57] (by decide +kernel) (by decide +kernel)
set_option maxRecDepth 20000 in
theorem gX10_layRow_X10_isThing : GoodIn wsX10_layRow (wsV RX10 136 RX10 yX10_isThing wsX10_isThing) := goodIn_app (goodIn_of _ (by decide +kernel)) ggX10_layRow_X10_isThing
theorem dX10_layRow_0 : decode cX10_layRow 0 = .ok (.aload_n 0, 1) := by decide +kernel
theorem dX10_layRow_1 : decode cX10_layRow 1 = .ok (.iload_n 1, 1) := by decide +kernel
theorem dX10_layRow_2 : decode cX10_layRow 2 = .ok (.iload_n 2, 1) := by decide +kernel
theorem dX10_layRow_3 : decode cX10_layRow 3 = .ok (.iload_n 3, 1) := by decide +kernel
theorem dX10_layRow_4 : decode cX10_layRow 4 = .ok (.iload 4, 2) := by decide +kernel
theorem dX10_layRow_6 : decode cX10_layRow 6 = .ok (.invokevirtual 103, 3) := by decide +kernel
theorem dX10_layRow_9 : decode cX10_layRow 9 = .ok (.istore 5, 2) := by decide +kernel
theorem dX10_layRow_11 : decode cX10_layRow 11 = .ok (.iload 5, 2) := by decide +kernel
theorem dX10_layRow_13 : decode cX10_layRow 13 = .ok (.ifCond .eq 10, 3) := by decide +kernel
theorem dX10_layRow_16 : decode cX10_layRow 16 = .ok (.aload_n 0, 1) := by decide +kernel
theorem dX10_layRow_17 : decode cX10_layRow 17 = .ok (.iload 5, 2) := by decide +kernel
theorem dX10_layRow_19 : decode cX10_layRow 19 = .ok (.invokevirtual 107, 3) := by decide +kernel
theorem dX10_layRow_22 : decode cX10_layRow 22 = .ok (.ireturn, 1) := by decide +kernel
theorem dX10_layRow_23 : decode cX10_layRow 23 = .ok (.aload_n 0, 1) := by decide +kernel
theorem dX10_layRow_24 : decode cX10_layRow 24 = .ok (.getfield 90, 3) := by decide +kernel
theorem dX10_layRow_27 : decode cX10_layRow 27 = .ok (.ifCond .ne 6, 3) := by decide +kernel
theorem dX10_layRow_30 : decode cX10_layRow 30 = .ok (.bipush (-3), 2) := by decide +kernel
theorem dX10_layRow_32 : decode cX10_layRow 32 = .ok (.ireturn, 1) := by decide +kernel
theorem dX10_layRow_33 : decode cX10_layRow 33 = .ok (.iload 4, 2) := by decide +kernel
theorem dX10_layRow_35 : decode cX10_layRow 35 = .ok (.iconst 1, 1) := by decide +kernel
theorem dX10_layRow_36 : decode cX10_layRow 36 = .ok (.bipush 8, 2) := by decide +kernel
theorem dX10_layRow_38 : decode cX10_layRow 38 = .ok (.invokestatic 86, 3) := by decide +kernel
theorem dX10_layRow_41 : decode cX10_layRow 41 = .ok (.ifCond .ne 6, 3) := by decide +kernel
theorem dX10_layRow_44 : decode cX10_layRow 44 = .ok (.bipush (-2), 2) := by decide +kernel
theorem dX10_layRow_46 : decode cX10_layRow 46 = .ok (.ireturn, 1) := by decide +kernel
theorem dX10_layRow_47 : decode cX10_layRow 47 = .ok (.iconst 0, 1) := by decide +kernel
theorem dX10_layRow_48 : decode cX10_layRow 48 = .ok (.istore 6, 2) := by decide +kernel
theorem dX10_layRow_50 : decode cX10_layRow 50 = .ok (.iload 6, 2) := by decide +kernel
theorem dX10_layRow_52 : decode cX10_layRow 52 = .ok (.iload 4, 2) := by decide +kernel
theorem dX10_layRow_54 : decode cX10_layRow 54 = .ok (.if_icmp .ge 46, 3) := by decide +kernel
theorem dX10_layRow_57 : decode cX10_layRow 57 = .ok (.aload_n 0, 1) := by decide +kernel
theorem dX10_layRow_58 : decode cX10_layRow 58 = .ok (.getfield 49, 3) := by decide +kernel
theorem dX10_layRow_61 : decode cX10_layRow 61 = .ok (.iload 6, 2) := by decide +kernel
theorem dX10_layRow_63 : decode cX10_layRow 63 = .ok (.aload_n 0, 1) := by decide +kernel
theorem dX10_layRow_64 : decode cX10_layRow 64 = .ok (.getfield 16, 3) := by decide +kernel
theorem dX10_layRow_67 : decode cX10_layRow 67 = .ok (.bipush 60, 2) := by decide +kernel
theorem dX10_layRow_69 : decode cX10_layRow 69 = .ok (.iload_n 1, 1) := by decide +kernel
theorem dX10_layRow_70 : decode cX10_layRow 70 = .ok (.imul, 1) := by decide +kernel
theorem dX10_layRow_71 : decode cX10_layRow 71 = .ok (.iload_n 3, 1) := by decide +kernel
theorem dX10_layRow_72 : decode cX10_layRow 72 = .ok (.iadd, 1) := by decide +kernel
theorem dX10_layRow_73 : decode cX10_layRow 73 = .ok (.iload 6, 2) := by decide +kernel
theorem dX10_layRow_75 : decode cX10_layRow 75 = .ok (.iadd, 1) := by decide +kernel
theorem dX10_layRow_76 : decode cX10_layRow 76 = .ok (.iaload, 1) := by decide +kernel
theorem dX10_layRow_77 : decode cX10_layRow 77 = .ok (.iastore, 1) := by decide +kernel
theorem dX10_layRow_78 : decode cX10_layRow 78 = .ok (.aload_n 0, 1) := by decide +kernel
theorem dX10_layRow_79 : decode cX10_layRow 79 = .ok (.aload_n 0, 1) := by decide +kernel
theorem dX10_layRow_80 : decode cX10_layRow 80 = .ok (.getfield 49, 3) := by decide +kernel
theorem dX10_layRow_83 : decode cX10_layRow 83 = .ok (.iload 6, 2) := by decide +kernel
theorem dX10_layRow_85 : decode cX10_layRow 85 = .ok (.iaload, 1) := by decide +kernel
theorem dX10_layRow_86 : decode cX10_layRow 86 = .ok (.invokevirtual 136, 3) := by decide +kernel
theorem dX10_layRow_89 : decode cX10_layRow 89 = .ok (.ifCond .ne 5, 3) := by decide +kernel
theorem dX10_layRow_92 : decode cX10_layRow 92 = .ok (.iconst (-1), 1) := by decide +kernel
theorem dX10_layRow_93 : decode cX10_layRow 93 = .ok (.ireturn, 1) := by decide +kernel
theorem dX10_layRow_94 : decode cX10_layRow 94 = .ok (.iinc 6 1, 3) := by decide +kernel
theorem dX10_layRow_97 : decode cX10_layRow 97 = .ok (.goto (-47), 3) := by decide +kernel
theorem dX10_layRow_100 : decode cX10_layRow 100 = .ok (.aload_n 0, 1) := by decide +kernel
theorem dX10_layRow_101 : decode cX10_layRow 101 = .ok (.iload 4, 2) := by decide +kernel
theorem dX10_layRow_103 : decode cX10_layRow 103 = .ok (.putfield 145, 3) := by decide +kernel
theorem dX10_layRow_106 : decode cX10_layRow 106 = .ok (.iconst 0, 1) := by decide +kernel
theorem dX10_layRow_107 : decode cX10_layRow 107 = .ok (.ireturn, 1) := by decide +kernel
set_option maxRecDepth 20000 in
theorem ggX10_harm_X10_isSheet : GoodIn wsX10_harm wsX10_isSheet := goodIn_r _ [5, 6, 7, 4, 8] (by decide +kernel) (by decide +kernel)
set_option maxRecDepth 20000 in
theorem gX10_harm_X10_isSheet : GoodIn wsX10_harm (va_wsS RX10 96 yX10_isSheet wsX10_isSheet) := goodIn_app (goodIn_of _ (by decide +kernel)) ggX10_harm_X10_isSheet
set_option maxRecDepth 20000 in
theorem ggX10_harm_X10_isSort : GoodIn wsX10_harm wsX10_isSort := goodIn_r _ [11, 6, 7, 4, 8] (by decide +kernel) (by decide +kernel)
set_option maxRecDepth 20000 in
theorem gX10_harm_X10_isSort : GoodIn wsX10_harm (va_wsS RX10 100 yX10_isSort wsX10_isSort) := goodIn_app (goodIn_of _ (by decide +kernel)) ggX10_harm_X10_isSort
set_option maxRecDepth 20000 in
theorem ggX10_harm_X10_within : GoodIn wsX10_harm wsX10_within := goodIn_r _ [8] (by decide +kernel) (by decide +kernel)
set_option maxRecDepth 20000 in
theorem gX10_harm_X10_within : GoodIn wsX10_harm (va_wsS RX10 86 yX10_within wsX10_within) := goodIn_app (goodIn_of _ (by decide +kernel)) ggX10_harm_X10_within
set_option maxRecDepth 20000 in
theorem ggX10_harm_X10_layRow : GoodIn wsX10_harm wsX10_layRow := goodIn_r _ [15, 16, 17, 18, 19, 20, 21, 22, 4, 23, 24, 25, 26, 27, 28, 29, 1, 6, 7, 8, 30, 31, 32, 33, 68, 69, 70, 71, 72, 73, 74, 75, 76, 77, 78, 79, 80, 81, 82, 83, 84, 85, 86, 87, 88, 89, 90, 91, 92, 93, 94, 95, 96, 97, 98, 99, 100, 101] (by decide +kernel) (by decide +kernel)
set_option maxRecDepth 20000 in
theorem gX10_harm_X10_layRow : GoodIn wsX10_harm (wsV RX10 159 RX10 yX10_layRow wsX10_layRow) := goodIn_app (goodIn_of _ (by decide +kernel)) ggX10_harm_X10_layRow
set_option maxRecDepth 20000 in
theorem ggX10_harm_X10_all : GoodIn wsX10_harm wsX10_all := goodIn_r _ [37, 16, 68, 69, 70, 71, 72, 73, 74, 75, 76, 77, 78, 79, 80, 81, 82, 83, 84, 85, 86, 87, 88, 89, 90, 91, 92, 93, 94, 95, 96, 97, 98, 99, 100, 101] (by decide +kernel) (by decide +kernel)
set_option maxRecDepth 20000 in
theorem gX10_harm_X10_all : GoodIn wsX10_harm (wsV RX10 162 RX10 yX10_all wsX10_all) := goodIn_app (goodIn_of _ (by decide +kernel)) ggX10_harm_X10_all
set_option maxRecDepth 20000 in
theorem ggX10_harm_X10_harmOf : GoodIn wsX10_harm wsX10_harmOf := goodIn_r _ [41, 16, 42, 43, 44, 45, 4, 46, 47, 19, 48, 49, 17, 50, 51, 52, 53, 54, 55, 56, 57, 58, 59, 60, 61, 62, 63, 64, 65, 66, 67, 68, 69, 70, 71, 72, 73, 74, 75, 76, 77, 78, 79, 80, 81, 82, 83, 84, 85, 86, 87, 88, 89, 90, 91, 92, 93, 94, 95, 96, 97, 98, 99, 100, 101] (by decide +kernel) (by decide +kernel)
set_option maxRecDepth 20000 in
theorem gX10_harm_X10_harmOf : GoodIn wsX10_harm (wsV RX10 166 RX10 yX10_harmOf wsX10_harmOf) := goodIn_app (goodIn_of _ (by decide +kernel)) ggX10_harm_X10_harmOf
theorem dX10_harm_0 : decode cX10_harm 0 = .ok (.aload_n 0, 1) := by decide +kernel
theorem dX10_harm_1 : decode cX10_harm 1 = .ok (.iconst 0, 1) := by decide +kernel
theorem dX10_harm_2 : decode cX10_harm 2 = .ok (.putfield 80, 3) := by decide +kernel
theorem dX10_harm_5 : decode cX10_harm 5 = .ok (.iload_n 1, 1) := by decide +kernel
theorem dX10_harm_6 : decode cX10_harm 6 = .ok (.invokestatic 96, 3) := by decide +kernel
theorem dX10_harm_9 : decode cX10_harm 9 = .ok (.ifCond .ne 5, 3) := by decide +kernel
theorem dX10_harm_12 : decode cX10_harm 12 = .ok (.iconst (-1), 1) := by decide +kernel
theorem dX10_harm_13 : decode cX10_harm 13 = .ok (.ireturn, 1) := by decide +kernel
theorem dX10_harm_14 : decode cX10_harm 14 = .ok (.iload_n 2, 1) := by decide +kernel
theorem dX10_harm_15 : decode cX10_harm 15 = .ok (.invokestatic 100, 3) := by decide +kernel
theorem dX10_harm_18 : decode cX10_harm 18 = .ok (.ifCond .eq 15, 3) := by decide +kernel
theorem dX10_harm_21 : decode cX10_harm 21 = .ok (.iload 5, 2) := by decide +kernel
theorem dX10_harm_23 : decode cX10_harm 23 = .ok (.iconst 1, 1) := by decide +kernel
theorem dX10_harm_24 : decode cX10_harm 24 = .ok (.sipush 300, 3) := by decide +kernel
theorem dX10_harm_27 : decode cX10_harm 27 = .ok (.invokestatic 86, 3) := by decide +kernel
theorem dX10_harm_30 : decode cX10_harm 30 = .ok (.ifCond .ne 6, 3) := by decide +kernel
theorem dX10_harm_33 : decode cX10_harm 33 = .ok (.bipush (-2), 2) := by decide +kernel
theorem dX10_harm_35 : decode cX10_harm 35 = .ok (.ireturn, 1) := by decide +kernel
theorem dX10_harm_36 : decode cX10_harm 36 = .ok (.aload_n 0, 1) := by decide +kernel
theorem dX10_harm_37 : decode cX10_harm 37 = .ok (.iload_n 1, 1) := by decide +kernel
theorem dX10_harm_38 : decode cX10_harm 38 = .ok (.iload_n 2, 1) := by decide +kernel
theorem dX10_harm_39 : decode cX10_harm 39 = .ok (.iload_n 3, 1) := by decide +kernel
theorem dX10_harm_40 : decode cX10_harm 40 = .ok (.iload 4, 2) := by decide +kernel
theorem dX10_harm_42 : decode cX10_harm 42 = .ok (.invokevirtual 159, 3) := by decide +kernel
theorem dX10_harm_45 : decode cX10_harm 45 = .ok (.istore 6, 2) := by decide +kernel
theorem dX10_harm_47 : decode cX10_harm 47 = .ok (.iload 6, 2) := by decide +kernel
theorem dX10_harm_49 : decode cX10_harm 49 = .ok (.ifCond .eq 8, 3) := by decide +kernel
theorem dX10_harm_52 : decode cX10_harm 52 = .ok (.iload 6, 2) := by decide +kernel
theorem dX10_harm_54 : decode cX10_harm 54 = .ok (.goto 13, 3) := by decide +kernel
theorem dX10_harm_57 : decode cX10_harm 57 = .ok (.aload_n 0, 1) := by decide +kernel
theorem dX10_harm_58 : decode cX10_harm 58 = .ok (.aload_n 0, 1) := by decide +kernel
theorem dX10_harm_59 : decode cX10_harm 59 = .ok (.invokevirtual 162, 3) := by decide +kernel
theorem dX10_harm_62 : decode cX10_harm 62 = .ok (.iload 5, 2) := by decide +kernel
theorem dX10_harm_64 : decode cX10_harm 64 = .ok (.invokevirtual 166, 3) := by decide +kernel
theorem dX10_harm_67 : decode cX10_harm 67 = .ok (.ireturn, 1) := by decide +kernel
set_option maxRecDepth 20000 in
theorem ggX10_never_X10_isSheet : GoodIn wsX10_never wsX10_isSheet := goodIn_r _ [5, 6, 7, 4, 8] (by decide +kernel) (by decide +kernel)
set_option maxRecDepth 20000 in
theorem gX10_never_X10_isSheet : GoodIn wsX10_never (va_wsS RX10 96 yX10_isSheet wsX10_isSheet) := goodIn_app (goodIn_of _ (by decide +kernel)) ggX10_never_X10_isSheet
set_option maxRecDepth 20000 in
theorem ggX10_never_X10_isSort : GoodIn wsX10_never wsX10_isSort := goodIn_r _ [11, 6, 7, 4, 8] (by decide +kernel) (by decide +kernel)
set_option maxRecDepth 20000 in
theorem gX10_never_X10_isSort : GoodIn wsX10_never (va_wsS RX10 100 yX10_isSort wsX10_isSort) := goodIn_app (goodIn_of _ (by decide +kernel)) ggX10_never_X10_isSort
set_option maxRecDepth 20000 in
theorem ggX10_never_X10_layRow : GoodIn wsX10_never wsX10_layRow := goodIn_r _ [15, 16, 17, 18, 19, 20, 21, 22, 4, 23, 24, 25, 26, 27, 28, 29, 1, 6, 7, 8, 30, 31, 32, 33, 63, 64, 65, 66, 67, 68, 69, 70, 71, 72, 73, 74, 75, 76, 77, 78, 79, 80, 81, 82, 83, 84, 85, 86, 87, 88, 89, 90, 91, 92, 93, 94, 95, 96] (by decide +kernel) (by decide +kernel)
set_option maxRecDepth 20000 in
theorem gX10_never_X10_layRow : GoodIn wsX10_never (wsV RX10 159 RX10 yX10_layRow wsX10_layRow) := goodIn_app (goodIn_of _ (by decide +kernel)) ggX10_never_X10_layRow
set_option maxRecDepth 20000 in
theorem ggX10_never_X10_all : GoodIn wsX10_never wsX10_all := goodIn_r _ [37, 16, 63, 64, 65, 66, 67, 68, 69, 70, 71, 72, 73, 74, 75, 76, 77, 78, 79, 80, 81, 82, 83, 84, 85, 86, 87, 88, 89, 90, 91, 92, 93, 94, 95, 96] (by decide +kernel) (by decide +kernel)
set_option maxRecDepth 20000 in
theorem gX10_never_X10_all : GoodIn wsX10_never (wsV RX10 162 RX10 yX10_all wsX10_all) := goodIn_app (goodIn_of _ (by decide +kernel)) ggX10_never_X10_all
set_option maxRecDepth 20000 in
theorem ggX10_never_X10_isSafe : GoodIn wsX10_never wsX10_isSafe := goodIn_r _ [41, 42, 19, 16, 43, 44, 45, 46, 47, 48, 49, 4, 50, 51, 52, 17, 53, 54, 55, 56, 57, 58, 59, 60, 61, 62, 63, 64, 65, 66, 67, 68, 69, 70, 71, 72, 73, 74, 75, 76, 77, 78, 79, 80, 81, 82, 83, 84, 85, 86, 87, 88, 89, 90, 91, 92, 93, 94, 95, 96] (by decide +kernel) (by decide +kernel)
set_option maxRecDepth 20000 in
theorem gX10_never_X10_isSafe : GoodIn wsX10_never (wsV RX10 169 RX10 yX10_isSafe wsX10_isSafe) := goodIn_app (goodIn_of _ (by decide +kernel)) ggX10_never_X10_isSafe
theorem dX10_never_0 : decode cX10_never 0 = .ok (.aload_n 0, 1) := by decide +kernel
theorem dX10_never_1 : decode cX10_never 1 = .ok (.iconst 0, 1) := by decide +kernel
theorem dX10_never_2 : decode cX10_never 2 = .ok (.putfield 80, 3) := by decide +kernel
theorem dX10_never_5 : decode cX10_never 5 = .ok (.iload_n 1, 1) := by decide +kernel
theorem dX10_never_6 : decode cX10_never 6 = .ok (.invokestatic 96, 3) := by decide +kernel
theorem dX10_never_9 : decode cX10_never 9 = .ok (.ifCond .ne 5, 3) := by decide +kernel
theorem dX10_never_12 : decode cX10_never 12 = .ok (.iconst (-1), 1) := by decide +kernel
theorem dX10_never_13 : decode cX10_never 13 = .ok (.ireturn, 1) := by decide +kernel
theorem dX10_never_14 : decode cX10_never 14 = .ok (.iload_n 2, 1) := by decide +kernel
theorem dX10_never_15 : decode cX10_never 15 = .ok (.invokestatic 100, 3) := by decide +kernel
theorem dX10_never_18 : decode cX10_never 18 = .ok (.ifCond .ne 6, 3) := by decide +kernel
theorem dX10_never_21 : decode cX10_never 21 = .ok (.bipush (-2), 2) := by decide +kernel
theorem dX10_never_23 : decode cX10_never 23 = .ok (.ireturn, 1) := by decide +kernel
theorem dX10_never_24 : decode cX10_never 24 = .ok (.aload_n 0, 1) := by decide +kernel
theorem dX10_never_25 : decode cX10_never 25 = .ok (.iload_n 1, 1) := by decide +kernel
theorem dX10_never_26 : decode cX10_never 26 = .ok (.iload_n 2, 1) := by decide +kernel
theorem dX10_never_27 : decode cX10_never 27 = .ok (.iload_n 3, 1) := by decide +kernel
theorem dX10_never_28 : decode cX10_never 28 = .ok (.iload 4, 2) := by decide +kernel
theorem dX10_never_30 : decode cX10_never 30 = .ok (.invokevirtual 159, 3) := by decide +kernel
theorem dX10_never_33 : decode cX10_never 33 = .ok (.istore 5, 2) := by decide +kernel
theorem dX10_never_35 : decode cX10_never 35 = .ok (.iload 5, 2) := by decide +kernel
theorem dX10_never_37 : decode cX10_never 37 = .ok (.ifCond .eq 6, 3) := by decide +kernel
theorem dX10_never_40 : decode cX10_never 40 = .ok (.iload 5, 2) := by decide +kernel
theorem dX10_never_42 : decode cX10_never 42 = .ok (.ireturn, 1) := by decide +kernel
theorem dX10_never_43 : decode cX10_never 43 = .ok (.aload_n 0, 1) := by decide +kernel
theorem dX10_never_44 : decode cX10_never 44 = .ok (.aload_n 0, 1) := by decide +kernel
theorem dX10_never_45 : decode cX10_never 45 = .ok (.invokevirtual 162, 3) := by decide +kernel
theorem dX10_never_48 : decode cX10_never 48 = .ok (.invokevirtual 169, 3) := by decide +kernel
theorem dX10_never_51 : decode cX10_never 51 = .ok (.ifCond .eq 7, 3) := by decide +kernel
theorem dX10_never_54 : decode cX10_never 54 = .ok (.iconst 1, 1) := by decide +kernel
theorem dX10_never_55 : decode cX10_never 55 = .ok (.goto 4, 3) := by decide +kernel
theorem dX10_never_58 : decode cX10_never 58 = .ok (.iconst 0, 1) := by decide +kernel
theorem dX10_never_59 : decode cX10_never 59 = .ok (.ireturn, 1) := by decide +kernel
set_option maxRecDepth 20000 in
theorem ggX10_layFalls_X10_layComings : GoodIn wsX10_layFalls wsX10_layComings := goodIn_r _ [8, 9, 10, 11, 12, 13, 14, 15, 16, 17, 18, 7, 19, 31, 32, 33, 34, 35, 36, 37, 38, 39, 40, 41, 42, 43, 44, 45, 46, 47, 48, 49, 50, 51, 52, 53, 54, 55, 56, 57, 58, 59, 60, 61, 62, 63, 64] (by decide +kernel) (by decide +kernel)
set_option maxRecDepth 20000 in
theorem gX10_layFalls_X10_layComings : GoodIn wsX10_layFalls (wsV RX10 151 RX10 yX10_layComings wsX10_layComings) := goodIn_app (goodIn_of _ (by decide +kernel)) ggX10_layFalls_X10_layComings
set_option maxRecDepth 20000 in
theorem ggX10_layFalls_X10_fallsOf : GoodIn wsX10_layFalls wsX10_fallsOf := goodIn_r _ [23, 9, 15, 14, 3, 16, 24, 25, 26, 7, 27, 28, 29, 30, 31, 32, 33, 34, 35, 36, 37, 38, 39, 40, 41, 42, 43, 44, 45, 46, 47, 48, 49, 50, 51, 52, 53, 54, 55, 56, 57, 58, 59, 60, 61, 62, 63, 64] (by decide +kernel) (by decide +kernel)
set_option maxRecDepth 20000 in
theorem gX10_layFalls_X10_fallsOf : GoodIn wsX10_layFalls (wsV RX10 155 RX10 yX10_fallsOf wsX10_fallsOf) := goodIn_app (goodIn_of _ (by decide +kernel)) ggX10_layFalls_X10_fallsOf
theorem dX10_layFalls_0 : decode cX10_layFalls 0 = .ok (.aload_n 0, 1) := by decide +kernel
theorem dX10_layFalls_1 : decode cX10_layFalls 1 = .ok (.sipush 300, 3) := by decide +kernel
theorem dX10_layFalls_4 : decode cX10_layFalls 4 = .ok (.sipush 400, 3) := by decide +kernel
theorem dX10_layFalls_7 : decode cX10_layFalls 7 = .ok (.invokevirtual 151, 3) := by decide +kernel
theorem dX10_layFalls_10 : decode cX10_layFalls 10 = .ok (.iconst 0, 1) := by decide +kernel
theorem dX10_layFalls_11 : decode cX10_layFalls 11 = .ok (.istore_n 1, 1) := by decide +kernel
theorem dX10_layFalls_12 : decode cX10_layFalls 12 = .ok (.iload_n 1, 1) := by decide +kernel
theorem dX10_layFalls_13 : decode cX10_layFalls 13 = .ok (.sipush 1800, 3) := by decide +kernel
theorem dX10_layFalls_16 : decode cX10_layFalls 16 = .ok (.if_icmp .ge 16, 3) := by decide +kernel
theorem dX10_layFalls_19 : decode cX10_layFalls 19 = .ok (.aload_n 0, 1) := by decide +kernel
theorem dX10_layFalls_20 : decode cX10_layFalls 20 = .ok (.getfield 61, 3) := by decide +kernel
theorem dX10_layFalls_23 : decode cX10_layFalls 23 = .ok (.iload_n 1, 1) := by decide +kernel
theorem dX10_layFalls_24 : decode cX10_layFalls 24 = .ok (.iconst 0, 1) := by decide +kernel
theorem dX10_layFalls_25 : decode cX10_layFalls 25 = .ok (.bastore, 1) := by decide +kernel
theorem dX10_layFalls_26 : decode cX10_layFalls 26 = .ok (.iinc 1 1, 3) := by decide +kernel
theorem dX10_layFalls_29 : decode cX10_layFalls 29 = .ok (.goto (-17), 3) := by decide +kernel
theorem dX10_layFalls_32 : decode cX10_layFalls 32 = .ok (.iconst 0, 1) := by decide +kernel
theorem dX10_layFalls_33 : decode cX10_layFalls 33 = .ok (.istore_n 1, 1) := by decide +kernel
theorem dX10_layFalls_34 : decode cX10_layFalls 34 = .ok (.iconst 0, 1) := by decide +kernel
theorem dX10_layFalls_35 : decode cX10_layFalls 35 = .ok (.istore_n 2, 1) := by decide +kernel
theorem dX10_layFalls_36 : decode cX10_layFalls 36 = .ok (.iload_n 2, 1) := by decide +kernel
theorem dX10_layFalls_37 : decode cX10_layFalls 37 = .ok (.aload_n 0, 1) := by decide +kernel
theorem dX10_layFalls_38 : decode cX10_layFalls 38 = .ok (.getfield 90, 3) := by decide +kernel
theorem dX10_layFalls_41 : decode cX10_layFalls 41 = .ok (.if_icmp .ge 55, 3) := by decide +kernel
theorem dX10_layFalls_44 : decode cX10_layFalls 44 = .ok (.aload_n 0, 1) := by decide +kernel
theorem dX10_layFalls_45 : decode cX10_layFalls 45 = .ok (.iload_n 2, 1) := by decide +kernel
theorem dX10_layFalls_46 : decode cX10_layFalls 46 = .ok (.sipush 300, 3) := by decide +kernel
theorem dX10_layFalls_49 : decode cX10_layFalls 49 = .ok (.invokevirtual 155, 3) := by decide +kernel
theorem dX10_layFalls_52 : decode cX10_layFalls 52 = .ok (.istore_n 3, 1) := by decide +kernel
theorem dX10_layFalls_53 : decode cX10_layFalls 53 = .ok (.iconst 0, 1) := by decide +kernel
theorem dX10_layFalls_54 : decode cX10_layFalls 54 = .ok (.istore 4, 2) := by decide +kernel
theorem dX10_layFalls_56 : decode cX10_layFalls 56 = .ok (.iload 4, 2) := by decide +kernel
theorem dX10_layFalls_58 : decode cX10_layFalls 58 = .ok (.iload_n 3, 1) := by decide +kernel
theorem dX10_layFalls_59 : decode cX10_layFalls 59 = .ok (.if_icmp .ge 27, 3) := by decide +kernel
theorem dX10_layFalls_62 : decode cX10_layFalls 62 = .ok (.aload_n 0, 1) := by decide +kernel
theorem dX10_layFalls_63 : decode cX10_layFalls 63 = .ok (.getfield 61, 3) := by decide +kernel
theorem dX10_layFalls_66 : decode cX10_layFalls 66 = .ok (.bipush 6, 2) := by decide +kernel
theorem dX10_layFalls_68 : decode cX10_layFalls 68 = .ok (.aload_n 0, 1) := by decide +kernel
theorem dX10_layFalls_69 : decode cX10_layFalls 69 = .ok (.getfield 58, 3) := by decide +kernel
theorem dX10_layFalls_72 : decode cX10_layFalls 72 = .ok (.iload 4, 2) := by decide +kernel
theorem dX10_layFalls_74 : decode cX10_layFalls 74 = .ok (.iaload, 1) := by decide +kernel
theorem dX10_layFalls_75 : decode cX10_layFalls 75 = .ok (.imul, 1) := by decide +kernel
theorem dX10_layFalls_76 : decode cX10_layFalls 76 = .ok (.iload_n 2, 1) := by decide +kernel
theorem dX10_layFalls_77 : decode cX10_layFalls 77 = .ok (.iadd, 1) := by decide +kernel
theorem dX10_layFalls_78 : decode cX10_layFalls 78 = .ok (.iconst 1, 1) := by decide +kernel
theorem dX10_layFalls_79 : decode cX10_layFalls 79 = .ok (.bastore, 1) := by decide +kernel
theorem dX10_layFalls_80 : decode cX10_layFalls 80 = .ok (.iinc 4 1, 3) := by decide +kernel
theorem dX10_layFalls_83 : decode cX10_layFalls 83 = .ok (.goto (-27), 3) := by decide +kernel
theorem dX10_layFalls_86 : decode cX10_layFalls 86 = .ok (.iload_n 1, 1) := by decide +kernel
theorem dX10_layFalls_87 : decode cX10_layFalls 87 = .ok (.iload_n 3, 1) := by decide +kernel
theorem dX10_layFalls_88 : decode cX10_layFalls 88 = .ok (.iadd, 1) := by decide +kernel
theorem dX10_layFalls_89 : decode cX10_layFalls 89 = .ok (.istore_n 1, 1) := by decide +kernel
theorem dX10_layFalls_90 : decode cX10_layFalls 90 = .ok (.iinc 2 1, 3) := by decide +kernel
theorem dX10_layFalls_93 : decode cX10_layFalls 93 = .ok (.goto (-57), 3) := by decide +kernel
theorem dX10_layFalls_96 : decode cX10_layFalls 96 = .ok (.iload_n 1, 1) := by decide +kernel
theorem dX10_layFalls_97 : decode cX10_layFalls 97 = .ok (.ireturn, 1) := by decide +kernel
set_option maxRecDepth 20000 in
theorem ggX10_fall_X10_isSheet : GoodIn wsX10_fall wsX10_isSheet := goodIn_r _ [6, 7, 8, 5, 9] (by decide +kernel) (by decide +kernel)
set_option maxRecDepth 20000 in
theorem gX10_fall_X10_isSheet : GoodIn wsX10_fall (va_wsS RX10 96 yX10_isSheet wsX10_isSheet) := goodIn_app (goodIn_of _ (by decide +kernel)) ggX10_fall_X10_isSheet
set_option maxRecDepth 20000 in
theorem ggX10_fall_X10_isSort : GoodIn wsX10_fall wsX10_isSort := goodIn_r _ [12, 7, 8, 5, 9] (by decide +kernel) (by decide +kernel)
set_option maxRecDepth 20000 in
theorem gX10_fall_X10_isSort : GoodIn wsX10_fall (va_wsS RX10 100 yX10_isSort wsX10_isSort) := goodIn_app (goodIn_of _ (by decide +kernel)) ggX10_fall_X10_isSort
set_option maxRecDepth 20000 in
theorem ggX10_fall_X10_layRow : GoodIn wsX10_fall wsX10_layRow := goodIn_r _ [16, 17, 18, 19, 20, 21, 22, 23, 5, 24, 25, 26, 27, 28, 29, 30, 1, 7, 8, 9, 31, 32, 33, 34, 64, 65, 66, 67, 68, 69, 70, 71, 72, 73, 74, 75, 76, 77, 78, 79, 80, 81, 82, 83, 84, 85, 86, 87, 88, 89, 90, 91, 92, 93, 94, 95, 96, 97] (by decide +kernel) (by decide +kernel)
set_option maxRecDepth 20000 in
theorem gX10_fall_X10_layRow : GoodIn wsX10_fall (wsV RX10 159 RX10 yX10_layRow wsX10_layRow) := goodIn_app (goodIn_of _ (by decide +kernel)) ggX10_fall_X10_layRow
set_option maxRecDepth 20000 in
theorem ggX10_fall_X10_layFalls : GoodIn wsX10_fall wsX10_layFalls := goodIn_r _ [38, 2, 17, 39, 40, 41, 42, 5, 43, 44, 20, 45, 46, 18, 47, 48, 49, 50, 51, 52, 53, 54, 55, 56, 57, 58, 59, 60, 61, 62, 63, 64, 65, 66, 67, 68, 69, 70, 71, 72, 73, 74, 75, 76, 77, 78, 79, 80, 81, 82, 83, 84, 85, 86, 87, 88, 89, 90, 91, 92, 93, 94, 95, 96, 97] (by decide +kernel) (by decide +kernel)
set_option maxRecDepth 20000 in
theorem gX10_fall_X10_layFalls : GoodIn wsX10_fall (wsV RX10 172 RX10 yX10_layFalls wsX10_layFalls) := goodIn_app (goodIn_of _ (by decide +kernel)) ggX10_fall_X10_layFalls
theorem dX10_fall_0 : decode cX10_fall 0 = .ok (.aload_n 0, 1) := by decide +kernel
theorem dX10_fall_1 : decode cX10_fall 1 = .ok (.iconst 0, 1) := by decide +kernel
theorem dX10_fall_2 : decode cX10_fall 2 = .ok (.putfield 80, 3) := by decide +kernel
theorem dX10_fall_5 : decode cX10_fall 5 = .ok (.iload_n 1, 1) := by decide +kernel
theorem dX10_fall_6 : decode cX10_fall 6 = .ok (.invokestatic 96, 3) := by decide +kernel
theorem dX10_fall_9 : decode cX10_fall 9 = .ok (.ifCond .eq 9, 3) := by decide +kernel
theorem dX10_fall_12 : decode cX10_fall 12 = .ok (.iload 5, 2) := by decide +kernel
theorem dX10_fall_14 : decode cX10_fall 14 = .ok (.iconst (-1), 1) := by decide +kernel
theorem dX10_fall_15 : decode cX10_fall 15 = .ok (.if_icmp .ge 5, 3) := by decide +kernel
theorem dX10_fall_18 : decode cX10_fall 18 = .ok (.iconst (-1), 1) := by decide +kernel
theorem dX10_fall_19 : decode cX10_fall 19 = .ok (.ireturn, 1) := by decide +kernel
theorem dX10_fall_20 : decode cX10_fall 20 = .ok (.iload_n 2, 1) := by decide +kernel
theorem dX10_fall_21 : decode cX10_fall 21 = .ok (.invokestatic 100, 3) := by decide +kernel
theorem dX10_fall_24 : decode cX10_fall 24 = .ok (.ifCond .ne 6, 3) := by decide +kernel
theorem dX10_fall_27 : decode cX10_fall 27 = .ok (.bipush (-2), 2) := by decide +kernel
theorem dX10_fall_29 : decode cX10_fall 29 = .ok (.ireturn, 1) := by decide +kernel
theorem dX10_fall_30 : decode cX10_fall 30 = .ok (.aload_n 0, 1) := by decide +kernel
theorem dX10_fall_31 : decode cX10_fall 31 = .ok (.iload_n 1, 1) := by decide +kernel
theorem dX10_fall_32 : decode cX10_fall 32 = .ok (.iload_n 2, 1) := by decide +kernel
theorem dX10_fall_33 : decode cX10_fall 33 = .ok (.iload_n 3, 1) := by decide +kernel
theorem dX10_fall_34 : decode cX10_fall 34 = .ok (.iload 4, 2) := by decide +kernel
theorem dX10_fall_36 : decode cX10_fall 36 = .ok (.invokevirtual 159, 3) := by decide +kernel
theorem dX10_fall_39 : decode cX10_fall 39 = .ok (.istore 6, 2) := by decide +kernel
theorem dX10_fall_41 : decode cX10_fall 41 = .ok (.iload 6, 2) := by decide +kernel
theorem dX10_fall_43 : decode cX10_fall 43 = .ok (.ifCond .eq 6, 3) := by decide +kernel
theorem dX10_fall_46 : decode cX10_fall 46 = .ok (.iload 6, 2) := by decide +kernel
theorem dX10_fall_48 : decode cX10_fall 48 = .ok (.ireturn, 1) := by decide +kernel
theorem dX10_fall_49 : decode cX10_fall 49 = .ok (.aload_n 0, 1) := by decide +kernel
theorem dX10_fall_50 : decode cX10_fall 50 = .ok (.invokevirtual 172, 3) := by decide +kernel
theorem dX10_fall_53 : decode cX10_fall 53 = .ok (.istore 7, 2) := by decide +kernel
theorem dX10_fall_55 : decode cX10_fall 55 = .ok (.iload 5, 2) := by decide +kernel
theorem dX10_fall_57 : decode cX10_fall 57 = .ok (.iconst (-1), 1) := by decide +kernel
theorem dX10_fall_58 : decode cX10_fall 58 = .ok (.if_icmp .ne 6, 3) := by decide +kernel
theorem dX10_fall_61 : decode cX10_fall 61 = .ok (.iload 7, 2) := by decide +kernel
theorem dX10_fall_63 : decode cX10_fall 63 = .ok (.ireturn, 1) := by decide +kernel
theorem dX10_fall_64 : decode cX10_fall 64 = .ok (.iload 5, 2) := by decide +kernel
theorem dX10_fall_66 : decode cX10_fall 66 = .ok (.istore 8, 2) := by decide +kernel
theorem dX10_fall_68 : decode cX10_fall 68 = .ok (.iconst 0, 1) := by decide +kernel
theorem dX10_fall_69 : decode cX10_fall 69 = .ok (.istore 9, 2) := by decide +kernel
theorem dX10_fall_71 : decode cX10_fall 71 = .ok (.iload 9, 2) := by decide +kernel
theorem dX10_fall_73 : decode cX10_fall 73 = .ok (.sipush 1800, 3) := by decide +kernel
theorem dX10_fall_76 : decode cX10_fall 76 = .ok (.if_icmp .ge 42, 3) := by decide +kernel
theorem dX10_fall_79 : decode cX10_fall 79 = .ok (.aload_n 0, 1) := by decide +kernel
theorem dX10_fall_80 : decode cX10_fall 80 = .ok (.getfield 61, 3) := by decide +kernel
theorem dX10_fall_83 : decode cX10_fall 83 = .ok (.iload 9, 2) := by decide +kernel
theorem dX10_fall_85 : decode cX10_fall 85 = .ok (.baload, 1) := by decide +kernel
theorem dX10_fall_86 : decode cX10_fall 86 = .ok (.ifCond .eq 26, 3) := by decide +kernel
theorem dX10_fall_89 : decode cX10_fall 89 = .ok (.iload 8, 2) := by decide +kernel
theorem dX10_fall_91 : decode cX10_fall 91 = .ok (.ifCond .ne 18, 3) := by decide +kernel
theorem dX10_fall_94 : decode cX10_fall 94 = .ok (.bipush 10, 2) := by decide +kernel
theorem dX10_fall_96 : decode cX10_fall 96 = .ok (.iload 9, 2) := by decide +kernel
theorem dX10_fall_98 : decode cX10_fall 98 = .ok (.bipush 6, 2) := by decide +kernel
theorem dX10_fall_100 : decode cX10_fall 100 = .ok (.idiv, 1) := by decide +kernel
theorem dX10_fall_101 : decode cX10_fall 101 = .ok (.imul, 1) := by decide +kernel
theorem dX10_fall_102 : decode cX10_fall 102 = .ok (.iload 9, 2) := by decide +kernel
theorem dX10_fall_104 : decode cX10_fall 104 = .ok (.bipush 6, 2) := by decide +kernel
theorem dX10_fall_106 : decode cX10_fall 106 = .ok (.irem, 1) := by decide +kernel
theorem dX10_fall_107 : decode cX10_fall 107 = .ok (.iadd, 1) := by decide +kernel
theorem dX10_fall_108 : decode cX10_fall 108 = .ok (.ireturn, 1) := by decide +kernel
theorem dX10_fall_109 : decode cX10_fall 109 = .ok (.iinc 8 (-1), 3) := by decide +kernel
theorem dX10_fall_112 : decode cX10_fall 112 = .ok (.iinc 9 1, 3) := by decide +kernel
theorem dX10_fall_115 : decode cX10_fall 115 = .ok (.goto (-44), 3) := by decide +kernel
theorem dX10_fall_118 : decode cX10_fall 118 = .ok (.bipush (-9), 2) := by decide +kernel
theorem dX10_fall_120 : decode cX10_fall 120 = .ok (.ireturn, 1) := by decide +kernel
set_option maxRecDepth 20000 in
theorem ggX10_nail_X10_isSheet : GoodIn wsX10_nail wsX10_isSheet := goodIn_r _ [9, 10, 11, 8, 12] (by decide +kernel) (by decide +kernel)
set_option maxRecDepth 20000 in
theorem gX10_nail_X10_isSheet : GoodIn wsX10_nail (va_wsS RX10 96 yX10_isSheet wsX10_isSheet) := goodIn_app (goodIn_of _ (by decide +kernel)) ggX10_nail_X10_isSheet
set_option maxRecDepth 20000 in
theorem ggX10_nail_X10_isSort : GoodIn wsX10_nail wsX10_isSort := goodIn_r _ [15, 10, 11, 8, 12] (by decide +kernel) (by decide +kernel)
set_option maxRecDepth 20000 in
theorem gX10_nail_X10_isSort : GoodIn wsX10_nail (va_wsS RX10 100 yX10_isSort wsX10_isSort) := goodIn_app (goodIn_of _ (by decide +kernel)) ggX10_nail_X10_isSort
set_option maxRecDepth 20000 in
theorem ggX10_nail_X10_within : GoodIn wsX10_nail wsX10_within := goodIn_r _ [12] (by decide +kernel) (by decide +kernel)
set_option maxRecDepth 20000 in
theorem gX10_nail_X10_within : GoodIn wsX10_nail (va_wsS RX10 86 yX10_within wsX10_within) := goodIn_app (goodIn_of _ (by decide +kernel)) ggX10_nail_X10_within

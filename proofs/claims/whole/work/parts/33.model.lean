theorem dX8_init_0 : decode cX8_init 0 = .ok (.aload_n 0, 1) := by decide +kernel
theorem dX8_init_1 : decode cX8_init 1 = .ok (.invokespecial 1, 3) := by decide +kernel
theorem dX8_init_4 : decode cX8_init 4 = .ok (.aload_n 0, 1) := by decide +kernel
theorem dX8_init_5 : decode cX8_init 5 = .ok (.sipush 400, 3) := by decide +kernel
theorem dX8_init_8 : decode cX8_init 8 = .ok (.newarray .int, 2) := by decide +kernel
theorem dX8_init_10 : decode cX8_init 10 = .ok (.putfield 7, 3) := by decide +kernel
theorem dX8_init_13 : decode cX8_init 13 = .ok (.aload_n 0, 1) := by decide +kernel
theorem dX8_init_14 : decode cX8_init 14 = .ok (.bipush 60, 2) := by decide +kernel
theorem dX8_init_16 : decode cX8_init 16 = .ok (.newarray .int, 2) := by decide +kernel
theorem dX8_init_18 : decode cX8_init 18 = .ok (.putfield 13, 3) := by decide +kernel
theorem dX8_init_21 : decode cX8_init 21 = .ok (.aload_n 0, 1) := by decide +kernel
theorem dX8_init_22 : decode cX8_init 22 = .ok (.bipush 60, 2) := by decide +kernel
theorem dX8_init_24 : decode cX8_init 24 = .ok (.newarray .int, 2) := by decide +kernel
theorem dX8_init_26 : decode cX8_init 26 = .ok (.putfield 16, 3) := by decide +kernel
theorem dX8_init_29 : decode cX8_init 29 = .ok (.aload_n 0, 1) := by decide +kernel
theorem dX8_init_30 : decode cX8_init 30 = .ok (.bipush 60, 2) := by decide +kernel
theorem dX8_init_32 : decode cX8_init 32 = .ok (.newarray .int, 2) := by decide +kernel
theorem dX8_init_34 : decode cX8_init 34 = .ok (.putfield 19, 3) := by decide +kernel
theorem dX8_init_37 : decode cX8_init 37 = .ok (.aload_n 0, 1) := by decide +kernel
theorem dX8_init_38 : decode cX8_init 38 = .ok (.bipush 60, 2) := by decide +kernel
theorem dX8_init_40 : decode cX8_init 40 = .ok (.newarray .int, 2) := by decide +kernel
theorem dX8_init_42 : decode cX8_init 42 = .ok (.putfield 22, 3) := by decide +kernel
theorem dX8_init_45 : decode cX8_init 45 = .ok (.aload_n 0, 1) := by decide +kernel
theorem dX8_init_46 : decode cX8_init 46 = .ok (.bipush 60, 2) := by decide +kernel
theorem dX8_init_48 : decode cX8_init 48 = .ok (.newarray .int, 2) := by decide +kernel
theorem dX8_init_50 : decode cX8_init 50 = .ok (.putfield 25, 3) := by decide +kernel
theorem dX8_init_53 : decode cX8_init 53 = .ok (.aload_n 0, 1) := by decide +kernel
theorem dX8_init_54 : decode cX8_init 54 = .ok (.bipush 60, 2) := by decide +kernel
theorem dX8_init_56 : decode cX8_init 56 = .ok (.newarray .int, 2) := by decide +kernel
theorem dX8_init_58 : decode cX8_init 58 = .ok (.putfield 28, 3) := by decide +kernel
theorem dX8_init_61 : decode cX8_init 61 = .ok (.aload_n 0, 1) := by decide +kernel
theorem dX8_init_62 : decode cX8_init 62 = .ok (.bipush 60, 2) := by decide +kernel
theorem dX8_init_64 : decode cX8_init 64 = .ok (.newarray .int, 2) := by decide +kernel
theorem dX8_init_66 : decode cX8_init 66 = .ok (.putfield 31, 3) := by decide +kernel
theorem dX8_init_69 : decode cX8_init 69 = .ok (.aload_n 0, 1) := by decide +kernel
theorem dX8_init_70 : decode cX8_init 70 = .ok (.bipush 60, 2) := by decide +kernel
theorem dX8_init_72 : decode cX8_init 72 = .ok (.newarray .int, 2) := by decide +kernel
theorem dX8_init_74 : decode cX8_init 74 = .ok (.putfield 34, 3) := by decide +kernel
theorem dX8_init_77 : decode cX8_init 77 = .ok (.aload_n 0, 1) := by decide +kernel
theorem dX8_init_78 : decode cX8_init 78 = .ok (.bipush 24, 2) := by decide +kernel
theorem dX8_init_80 : decode cX8_init 80 = .ok (.newarray .int, 2) := by decide +kernel
theorem dX8_init_82 : decode cX8_init 82 = .ok (.putfield 37, 3) := by decide +kernel
theorem dX8_init_85 : decode cX8_init 85 = .ok (.aload_n 0, 1) := by decide +kernel
theorem dX8_init_86 : decode cX8_init 86 = .ok (.bipush 24, 2) := by decide +kernel
theorem dX8_init_88 : decode cX8_init 88 = .ok (.newarray .int, 2) := by decide +kernel
theorem dX8_init_90 : decode cX8_init 90 = .ok (.putfield 40, 3) := by decide +kernel
theorem dX8_init_93 : decode cX8_init 93 = .ok (.aload_n 0, 1) := by decide +kernel
theorem dX8_init_94 : decode cX8_init 94 = .ok (.bipush 24, 2) := by decide +kernel
theorem dX8_init_96 : decode cX8_init 96 = .ok (.newarray .int, 2) := by decide +kernel
theorem dX8_init_98 : decode cX8_init 98 = .ok (.putfield 43, 3) := by decide +kernel
theorem dX8_init_101 : decode cX8_init 101 = .ok (.aload_n 0, 1) := by decide +kernel
theorem dX8_init_102 : decode cX8_init 102 = .ok (.bipush 24, 2) := by decide +kernel
theorem dX8_init_104 : decode cX8_init 104 = .ok (.newarray .int, 2) := by decide +kernel
theorem dX8_init_106 : decode cX8_init 106 = .ok (.putfield 46, 3) := by decide +kernel
theorem dX8_init_109 : decode cX8_init 109 = .ok (.aload_n 0, 1) := by decide +kernel
theorem dX8_init_110 : decode cX8_init 110 = .ok (.sipush 216, 3) := by decide +kernel
theorem dX8_init_113 : decode cX8_init 113 = .ok (.newarray .int, 2) := by decide +kernel
theorem dX8_init_115 : decode cX8_init 115 = .ok (.putfield 49, 3) := by decide +kernel
theorem dX8_init_118 : decode cX8_init 118 = .ok (.aload_n 0, 1) := by decide +kernel
theorem dX8_init_119 : decode cX8_init 119 = .ok (.sipush 216, 3) := by decide +kernel
theorem dX8_init_122 : decode cX8_init 122 = .ok (.newarray .int, 2) := by decide +kernel
theorem dX8_init_124 : decode cX8_init 124 = .ok (.putfield 52, 3) := by decide +kernel
theorem dX8_init_127 : decode cX8_init 127 = .ok (.aload_n 0, 1) := by decide +kernel
theorem dX8_init_128 : decode cX8_init 128 = .ok (.bipush 60, 2) := by decide +kernel
theorem dX8_init_130 : decode cX8_init 130 = .ok (.newarray .int, 2) := by decide +kernel
theorem dX8_init_132 : decode cX8_init 132 = .ok (.putfield 55, 3) := by decide +kernel
theorem dX8_init_135 : decode cX8_init 135 = .ok (.aload_n 0, 1) := by decide +kernel
theorem dX8_init_136 : decode cX8_init 136 = .ok (.bipush 60, 2) := by decide +kernel
theorem dX8_init_138 : decode cX8_init 138 = .ok (.newarray .int, 2) := by decide +kernel
theorem dX8_init_140 : decode cX8_init 140 = .ok (.putfield 58, 3) := by decide +kernel
theorem dX8_init_143 : decode cX8_init 143 = .ok (.aload_n 0, 1) := by decide +kernel
theorem dX8_init_144 : decode cX8_init 144 = .ok (.bipush 60, 2) := by decide +kernel
theorem dX8_init_146 : decode cX8_init 146 = .ok (.newarray .int, 2) := by decide +kernel
theorem dX8_init_148 : decode cX8_init 148 = .ok (.putfield 61, 3) := by decide +kernel
theorem dX8_init_151 : decode cX8_init 151 = .ok (.aload_n 0, 1) := by decide +kernel
theorem dX8_init_152 : decode cX8_init 152 = .ok (.bipush 60, 2) := by decide +kernel
theorem dX8_init_154 : decode cX8_init 154 = .ok (.newarray .int, 2) := by decide +kernel
theorem dX8_init_156 : decode cX8_init 156 = .ok (.putfield 64, 3) := by decide +kernel
theorem dX8_init_159 : decode cX8_init 159 = .ok (.aload_n 0, 1) := by decide +kernel
theorem dX8_init_160 : decode cX8_init 160 = .ok (.sipush 520, 3) := by decide +kernel
theorem dX8_init_163 : decode cX8_init 163 = .ok (.newarray .int, 2) := by decide +kernel
theorem dX8_init_165 : decode cX8_init 165 = .ok (.putfield 67, 3) := by decide +kernel
theorem dX8_init_168 : decode cX8_init 168 = .ok (.aload_n 0, 1) := by decide +kernel
theorem dX8_init_169 : decode cX8_init 169 = .ok (.sipush 520, 3) := by decide +kernel
theorem dX8_init_172 : decode cX8_init 172 = .ok (.newarray .int, 2) := by decide +kernel
theorem dX8_init_174 : decode cX8_init 174 = .ok (.putfield 70, 3) := by decide +kernel
theorem dX8_init_177 : decode cX8_init 177 = .ok (.aload_n 0, 1) := by decide +kernel
theorem dX8_init_178 : decode cX8_init 178 = .ok (.sipush 520, 3) := by decide +kernel
theorem dX8_init_181 : decode cX8_init 181 = .ok (.newarray .int, 2) := by decide +kernel
theorem dX8_init_183 : decode cX8_init 183 = .ok (.putfield 73, 3) := by decide +kernel
theorem dX8_init_186 : decode cX8_init 186 = .ok (.aload_n 0, 1) := by decide +kernel
theorem dX8_init_187 : decode cX8_init 187 = .ok (.sipush 520, 3) := by decide +kernel
theorem dX8_init_190 : decode cX8_init 190 = .ok (.newarray .boolean, 2) := by decide +kernel
theorem dX8_init_192 : decode cX8_init 192 = .ok (.putfield 76, 3) := by decide +kernel
theorem dX8_init_195 : decode cX8_init 195 = .ok (.aload_n 0, 1) := by decide +kernel
theorem dX8_init_196 : decode cX8_init 196 = .ok (.sipush 960, 3) := by decide +kernel
theorem dX8_init_199 : decode cX8_init 199 = .ok (.newarray .boolean, 2) := by decide +kernel
theorem dX8_init_201 : decode cX8_init 201 = .ok (.putfield 80, 3) := by decide +kernel
theorem dX8_init_204 : decode cX8_init 204 = .ok (.aload_n 0, 1) := by decide +kernel
theorem dX8_init_205 : decode cX8_init 205 = .ok (.sipush 9000, 3) := by decide +kernel
theorem dX8_init_208 : decode cX8_init 208 = .ok (.newarray .int, 2) := by decide +kernel
theorem dX8_init_210 : decode cX8_init 210 = .ok (.putfield 83, 3) := by decide +kernel
theorem dX8_init_213 : decode cX8_init 213 = .ok (.return_, 1) := by decide +kernel
theorem dX8_thrown_0 : decode cX8_thrown 0 = .ok (.aload_n 0, 1) := by decide +kernel
theorem dX8_thrown_1 : decode cX8_thrown 1 = .ok (.getfield 86, 3) := by decide +kernel
theorem dX8_thrown_4 : decode cX8_thrown 4 = .ok (.ireturn, 1) := by decide +kernel
theorem dX8_in_0 : decode cX8_in 0 = .ok (.iload_n 0, 1) := by decide +kernel
theorem dX8_in_1 : decode cX8_in 1 = .ok (.iload_n 1, 1) := by decide +kernel
theorem dX8_in_2 : decode cX8_in 2 = .ok (.if_icmp .lt 12, 3) := by decide +kernel
theorem dX8_in_5 : decode cX8_in 5 = .ok (.iload_n 0, 1) := by decide +kernel
theorem dX8_in_6 : decode cX8_in 6 = .ok (.iload_n 2, 1) := by decide +kernel
theorem dX8_in_7 : decode cX8_in 7 = .ok (.if_icmp .gt 7, 3) := by decide +kernel
theorem dX8_in_10 : decode cX8_in 10 = .ok (.iconst 1, 1) := by decide +kernel
theorem dX8_in_11 : decode cX8_in 11 = .ok (.goto 4, 3) := by decide +kernel
theorem dX8_in_14 : decode cX8_in 14 = .ok (.iconst 0, 1) := by decide +kernel
theorem dX8_in_15 : decode cX8_in 15 = .ok (.ireturn, 1) := by decide +kernel
set_option maxRecDepth 20000 in
theorem ggX8_isOwner_X8_in : GoodIn wsX8_isOwner wsX8_in := goodIn_r _ [4] (by decide +kernel) (by decide +kernel)
set_option maxRecDepth 20000 in
theorem gX8_isOwner_X8_in : GoodIn wsX8_isOwner (va_wsS RX8 90 yX8_in wsX8_in) := goodIn_app (goodIn_of _ (by decide +kernel)) ggX8_isOwner_X8_in
theorem dX8_isOwner_0 : decode cX8_isOwner 0 = .ok (.iload_n 0, 1) := by decide +kernel
theorem dX8_isOwner_1 : decode cX8_isOwner 1 = .ok (.iconst 0, 1) := by decide +kernel
theorem dX8_isOwner_2 : decode cX8_isOwner 2 = .ok (.bipush 7, 2) := by decide +kernel
theorem dX8_isOwner_4 : decode cX8_isOwner 4 = .ok (.invokestatic 90, 3) := by decide +kernel
theorem dX8_isOwner_7 : decode cX8_isOwner 7 = .ok (.ireturn, 1) := by decide +kernel
set_option maxRecDepth 20000 in
theorem ggX8_isMonth_X8_in : GoodIn wsX8_isMonth wsX8_in := goodIn_r _ [4] (by decide +kernel) (by decide +kernel)
set_option maxRecDepth 20000 in
theorem gX8_isMonth_X8_in : GoodIn wsX8_isMonth (va_wsS RX8 90 yX8_in wsX8_in) := goodIn_app (goodIn_of _ (by decide +kernel)) ggX8_isMonth_X8_in
theorem dX8_isMonth_0 : decode cX8_isMonth 0 = .ok (.iload_n 0, 1) := by decide +kernel
theorem dX8_isMonth_1 : decode cX8_isMonth 1 = .ok (.iconst 0, 1) := by decide +kernel
theorem dX8_isMonth_2 : decode cX8_isMonth 2 = .ok (.bipush 119, 2) := by decide +kernel
theorem dX8_isMonth_4 : decode cX8_isMonth 4 = .ok (.invokestatic 90, 3) := by decide +kernel
theorem dX8_isMonth_7 : decode cX8_isMonth 7 = .ok (.ireturn, 1) := by decide +kernel
set_option maxRecDepth 20000 in
theorem ggX8_isDay_X8_in : GoodIn wsX8_isDay wsX8_in := goodIn_r _ [4] (by decide +kernel) (by decide +kernel)
set_option maxRecDepth 20000 in
theorem gX8_isDay_X8_in : GoodIn wsX8_isDay (va_wsS RX8 90 yX8_in wsX8_in) := goodIn_app (goodIn_of _ (by decide +kernel)) ggX8_isDay_X8_in
theorem dX8_isDay_0 : decode cX8_isDay 0 = .ok (.iload_n 0, 1) := by decide +kernel
theorem dX8_isDay_1 : decode cX8_isDay 1 = .ok (.iconst 0, 1) := by decide +kernel
theorem dX8_isDay_2 : decode cX8_isDay 2 = .ok (.sipush 3599, 3) := by decide +kernel
theorem dX8_isDay_5 : decode cX8_isDay 5 = .ok (.invokestatic 90, 3) := by decide +kernel
theorem dX8_isDay_8 : decode cX8_isDay 8 = .ok (.ireturn, 1) := by decide +kernel
set_option maxRecDepth 20000 in
theorem ggX8_isKind_X8_in : GoodIn wsX8_isKind wsX8_in := goodIn_r _ [4] (by decide +kernel) (by decide +kernel)
set_option maxRecDepth 20000 in
theorem gX8_isKind_X8_in : GoodIn wsX8_isKind (va_wsS RX8 90 yX8_in wsX8_in) := goodIn_app (goodIn_of _ (by decide +kernel)) ggX8_isKind_X8_in
theorem dX8_isKind_0 : decode cX8_isKind 0 = .ok (.iload_n 0, 1) := by decide +kernel
theorem dX8_isKind_1 : decode cX8_isKind 1 = .ok (.iconst 0, 1) := by decide +kernel
theorem dX8_isKind_2 : decode cX8_isKind 2 = .ok (.iconst 4, 1) := by decide +kernel
theorem dX8_isKind_3 : decode cX8_isKind 3 = .ok (.invokestatic 90, 3) := by decide +kernel
theorem dX8_isKind_6 : decode cX8_isKind 6 = .ok (.ireturn, 1) := by decide +kernel
set_option maxRecDepth 20000 in
theorem ggX8_sign_X8_in : GoodIn wsX8_sign wsX8_in := goodIn_r _ [7] (by decide +kernel) (by decide +kernel)
set_option maxRecDepth 20000 in
theorem gX8_sign_X8_in : GoodIn wsX8_sign (va_wsS RX8 90 yX8_in wsX8_in) := goodIn_app (goodIn_of _ (by decide +kernel)) ggX8_sign_X8_in
theorem dX8_sign_0 : decode cX8_sign 0 = .ok (.aload_n 0, 1) := by decide +kernel
theorem dX8_sign_1 : decode cX8_sign 1 = .ok (.iload_n 1, 1) := by decide +kernel
theorem dX8_sign_2 : decode cX8_sign 2 = .ok (.iconst 0, 1) := by decide +kernel
theorem dX8_sign_3 : decode cX8_sign 3 = .ok (.sipush 255, 3) := by decide +kernel
theorem dX8_sign_6 : decode cX8_sign 6 = .ok (.invokestatic 90, 3) := by decide +kernel
theorem dX8_sign_9 : decode cX8_sign 9 = .ok (.ifCond .ne 7, 3) := by decide +kernel
theorem dX8_sign_12 : decode cX8_sign 12 = .ok (.iconst 1, 1) := by decide +kernel
theorem dX8_sign_13 : decode cX8_sign 13 = .ok (.goto 18, 3) := by decide +kernel
theorem dX8_sign_16 : decode cX8_sign 16 = .ok (.aload_n 0, 1) := by decide +kernel
theorem dX8_sign_17 : decode cX8_sign 17 = .ok (.getfield 94, 3) := by decide +kernel
theorem dX8_sign_20 : decode cX8_sign 20 = .ok (.sipush 400, 3) := by decide +kernel
theorem dX8_sign_23 : decode cX8_sign 23 = .ok (.if_icmp .ne 7, 3) := by decide +kernel
theorem dX8_sign_26 : decode cX8_sign 26 = .ok (.iconst 2, 1) := by decide +kernel
theorem dX8_sign_27 : decode cX8_sign 27 = .ok (.goto 4, 3) := by decide +kernel
theorem dX8_sign_30 : decode cX8_sign 30 = .ok (.iconst 0, 1) := by decide +kernel
theorem dX8_sign_31 : decode cX8_sign 31 = .ok (.putfield 86, 3) := by decide +kernel
theorem dX8_sign_34 : decode cX8_sign 34 = .ok (.aload_n 0, 1) := by decide +kernel
theorem dX8_sign_35 : decode cX8_sign 35 = .ok (.getfield 86, 3) := by decide +kernel
theorem dX8_sign_38 : decode cX8_sign 38 = .ok (.ifCond .le 5, 3) := by decide +kernel
theorem dX8_sign_41 : decode cX8_sign 41 = .ok (.iconst 0, 1) := by decide +kernel
theorem dX8_sign_42 : decode cX8_sign 42 = .ok (.ireturn, 1) := by decide +kernel
theorem dX8_sign_43 : decode cX8_sign 43 = .ok (.aload_n 0, 1) := by decide +kernel
theorem dX8_sign_44 : decode cX8_sign 44 = .ok (.getfield 7, 3) := by decide +kernel
theorem dX8_sign_47 : decode cX8_sign 47 = .ok (.aload_n 0, 1) := by decide +kernel
theorem dX8_sign_48 : decode cX8_sign 48 = .ok (.getfield 94, 3) := by decide +kernel
theorem dX8_sign_51 : decode cX8_sign 51 = .ok (.iload_n 1, 1) := by decide +kernel
theorem dX8_sign_52 : decode cX8_sign 52 = .ok (.iastore, 1) := by decide +kernel
theorem dX8_sign_53 : decode cX8_sign 53 = .ok (.aload_n 0, 1) := by decide +kernel
theorem dX8_sign_54 : decode cX8_sign 54 = .ok (.dup, 1) := by decide +kernel
theorem dX8_sign_55 : decode cX8_sign 55 = .ok (.getfield 94, 3) := by decide +kernel
theorem dX8_sign_58 : decode cX8_sign 58 = .ok (.iconst 1, 1) := by decide +kernel
theorem dX8_sign_59 : decode cX8_sign 59 = .ok (.iadd, 1) := by decide +kernel
theorem dX8_sign_60 : decode cX8_sign 60 = .ok (.putfield 94, 3) := by decide +kernel
theorem dX8_sign_63 : decode cX8_sign 63 = .ok (.aload_n 0, 1) := by decide +kernel
theorem dX8_sign_64 : decode cX8_sign 64 = .ok (.getfield 94, 3) := by decide +kernel
theorem dX8_sign_67 : decode cX8_sign 67 = .ok (.ireturn, 1) := by decide +kernel
theorem dX8_next_0 : decode cX8_next 0 = .ok (.aload_n 0, 1) := by decide +kernel
theorem dX8_next_1 : decode cX8_next 1 = .ok (.getfield 97, 3) := by decide +kernel
theorem dX8_next_4 : decode cX8_next 4 = .ok (.aload_n 0, 1) := by decide +kernel
theorem dX8_next_5 : decode cX8_next 5 = .ok (.getfield 94, 3) := by decide +kernel
theorem dX8_next_8 : decode cX8_next 8 = .ok (.if_icmp .ge 15, 3) := by decide +kernel
theorem dX8_next_11 : decode cX8_next 11 = .ok (.aload_n 0, 1) := by decide +kernel
theorem dX8_next_12 : decode cX8_next 12 = .ok (.getfield 7, 3) := by decide +kernel
theorem dX8_next_15 : decode cX8_next 15 = .ok (.aload_n 0, 1) := by decide +kernel
theorem dX8_next_16 : decode cX8_next 16 = .ok (.getfield 97, 3) := by decide +kernel
theorem dX8_next_19 : decode cX8_next 19 = .ok (.iaload, 1) := by decide +kernel
theorem dX8_next_20 : decode cX8_next 20 = .ok (.goto 4, 3) := by decide +kernel
theorem dX8_next_23 : decode cX8_next 23 = .ok (.iconst (-1), 1) := by decide +kernel
theorem dX8_next_24 : decode cX8_next 24 = .ok (.ireturn, 1) := by decide +kernel
set_option maxRecDepth 20000 in
theorem ggX8_number_X8_next : GoodIn wsX8_number wsX8_next := goodIn_r _ [6, 1, 7, 8, 12, 13, 14, 15, 16, 17, 18, 19, 20, 21, 22, 23, 24, 25, 26, 27, 28, 29, 30, 31, 32, 33, 34, 35, 36, 37, 38, 39, 40, 41, 42, 43, 44, 45] (by decide +kernel) (by decide +kernel)
set_option maxRecDepth 20000 in
theorem gX8_number_X8_next : GoodIn wsX8_number (wsV RX8 100 RX8 yX8_next wsX8_next) := goodIn_app (goodIn_of _ (by decide +kernel)) ggX8_number_X8_next
set_option maxRecDepth 20000 in
theorem ggX8_number_X8_in : GoodIn wsX8_number wsX8_in := goodIn_r _ [11] (by decide +kernel) (by decide +kernel)
set_option maxRecDepth 20000 in
theorem gX8_number_X8_in : GoodIn wsX8_number (va_wsS RX8 90 yX8_in wsX8_in) := goodIn_app (goodIn_of _ (by decide +kernel)) ggX8_number_X8_in
theorem dX8_number_0 : decode cX8_number 0 = .ok (.aload_n 0, 1) := by decide +kernel
theorem dX8_number_1 : decode cX8_number 1 = .ok (.invokevirtual 100, 3) := by decide +kernel
theorem dX8_number_4 : decode cX8_number 4 = .ok (.bipush 32, 2) := by decide +kernel
theorem dX8_number_6 : decode cX8_number 6 = .ok (.if_icmp .eq 5, 3) := by decide +kernel
theorem dX8_number_9 : decode cX8_number 9 = .ok (.iconst (-1), 1) := by decide +kernel
theorem dX8_number_10 : decode cX8_number 10 = .ok (.ireturn, 1) := by decide +kernel
theorem dX8_number_11 : decode cX8_number 11 = .ok (.aload_n 0, 1) := by decide +kernel
theorem dX8_number_12 : decode cX8_number 12 = .ok (.dup, 1) := by decide +kernel
theorem dX8_number_13 : decode cX8_number 13 = .ok (.getfield 97, 3) := by decide +kernel
theorem dX8_number_16 : decode cX8_number 16 = .ok (.iconst 1, 1) := by decide +kernel
theorem dX8_number_17 : decode cX8_number 17 = .ok (.iadd, 1) := by decide +kernel
theorem dX8_number_18 : decode cX8_number 18 = .ok (.putfield 97, 3) := by decide +kernel
theorem dX8_number_21 : decode cX8_number 21 = .ok (.iconst 0, 1) := by decide +kernel
theorem dX8_number_22 : decode cX8_number 22 = .ok (.istore_n 1, 1) := by decide +kernel
theorem dX8_number_23 : decode cX8_number 23 = .ok (.iconst 0, 1) := by decide +kernel
theorem dX8_number_24 : decode cX8_number 24 = .ok (.istore_n 2, 1) := by decide +kernel
theorem dX8_number_25 : decode cX8_number 25 = .ok (.aload_n 0, 1) := by decide +kernel
theorem dX8_number_26 : decode cX8_number 26 = .ok (.invokevirtual 100, 3) := by decide +kernel
theorem dX8_number_29 : decode cX8_number 29 = .ok (.bipush 48, 2) := by decide +kernel
theorem dX8_number_31 : decode cX8_number 31 = .ok (.bipush 57, 2) := by decide +kernel
theorem dX8_number_33 : decode cX8_number 33 = .ok (.invokestatic 90, 3) := by decide +kernel
theorem dX8_number_36 : decode cX8_number 36 = .ok (.ifCond .eq 47, 3) := by decide +kernel
theorem dX8_number_39 : decode cX8_number 39 = .ok (.iload_n 2, 1) := by decide +kernel
theorem dX8_number_40 : decode cX8_number 40 = .ok (.bipush 6, 2) := by decide +kernel
theorem dX8_number_42 : decode cX8_number 42 = .ok (.if_icmp .ge 41, 3) := by decide +kernel
theorem dX8_number_45 : decode cX8_number 45 = .ok (.iload_n 2, 1) := by decide +kernel
theorem dX8_number_46 : decode cX8_number 46 = .ok (.iconst 1, 1) := by decide +kernel
theorem dX8_number_47 : decode cX8_number 47 = .ok (.if_icmp .ne 7, 3) := by decide +kernel
theorem dX8_number_50 : decode cX8_number 50 = .ok (.iload_n 1, 1) := by decide +kernel
theorem dX8_number_51 : decode cX8_number 51 = .ok (.ifCond .eq 32, 3) := by decide +kernel
theorem dX8_number_54 : decode cX8_number 54 = .ok (.bipush 10, 2) := by decide +kernel
theorem dX8_number_56 : decode cX8_number 56 = .ok (.iload_n 1, 1) := by decide +kernel
theorem dX8_number_57 : decode cX8_number 57 = .ok (.imul, 1) := by decide +kernel
theorem dX8_number_58 : decode cX8_number 58 = .ok (.aload_n 0, 1) := by decide +kernel
theorem dX8_number_59 : decode cX8_number 59 = .ok (.invokevirtual 100, 3) := by decide +kernel
theorem dX8_number_62 : decode cX8_number 62 = .ok (.iadd, 1) := by decide +kernel
theorem dX8_number_63 : decode cX8_number 63 = .ok (.bipush 48, 2) := by decide +kernel
theorem dX8_number_65 : decode cX8_number 65 = .ok (.isub, 1) := by decide +kernel
theorem dX8_number_66 : decode cX8_number 66 = .ok (.istore_n 1, 1) := by decide +kernel
theorem dX8_number_67 : decode cX8_number 67 = .ok (.iinc 2 1, 3) := by decide +kernel
theorem dX8_number_70 : decode cX8_number 70 = .ok (.aload_n 0, 1) := by decide +kernel
theorem dX8_number_71 : decode cX8_number 71 = .ok (.dup, 1) := by decide +kernel
theorem dX8_number_72 : decode cX8_number 72 = .ok (.getfield 97, 3) := by decide +kernel
theorem dX8_number_75 : decode cX8_number 75 = .ok (.iconst 1, 1) := by decide +kernel
theorem dX8_number_76 : decode cX8_number 76 = .ok (.iadd, 1) := by decide +kernel
theorem dX8_number_77 : decode cX8_number 77 = .ok (.putfield 97, 3) := by decide +kernel
theorem dX8_number_80 : decode cX8_number 80 = .ok (.goto (-55), 3) := by decide +kernel
theorem dX8_number_83 : decode cX8_number 83 = .ok (.iload_n 2, 1) := by decide +kernel
theorem dX8_number_84 : decode cX8_number 84 = .ok (.ifCond .ne 7, 3) := by decide +kernel
theorem dX8_number_87 : decode cX8_number 87 = .ok (.iconst (-1), 1) := by decide +kernel
theorem dX8_number_88 : decode cX8_number 88 = .ok (.goto 4, 3) := by decide +kernel
theorem dX8_number_91 : decode cX8_number 91 = .ok (.iload_n 1, 1) := by decide +kernel
theorem dX8_number_92 : decode cX8_number 92 = .ok (.ireturn, 1) := by decide +kernel
theorem dX8_isAgain_0 : decode cX8_isAgain 0 = .ok (.iconst 0, 1) := by decide +kernel
theorem dX8_isAgain_1 : decode cX8_isAgain 1 = .ok (.istore 4, 2) := by decide +kernel
theorem dX8_isAgain_3 : decode cX8_isAgain 3 = .ok (.iload 4, 2) := by decide +kernel
theorem dX8_isAgain_5 : decode cX8_isAgain 5 = .ok (.aload_n 0, 1) := by decide +kernel
theorem dX8_isAgain_6 : decode cX8_isAgain 6 = .ok (.getfield 104, 3) := by decide +kernel
theorem dX8_isAgain_9 : decode cX8_isAgain 9 = .ok (.if_icmp .ge 44, 3) := by decide +kernel
theorem dX8_isAgain_12 : decode cX8_isAgain 12 = .ok (.aload_n 0, 1) := by decide +kernel
theorem dX8_isAgain_13 : decode cX8_isAgain 13 = .ok (.getfield 25, 3) := by decide +kernel
theorem dX8_isAgain_16 : decode cX8_isAgain 16 = .ok (.iload 4, 2) := by decide +kernel
theorem dX8_isAgain_18 : decode cX8_isAgain 18 = .ok (.iaload, 1) := by decide +kernel
theorem dX8_isAgain_19 : decode cX8_isAgain 19 = .ok (.iload_n 1, 1) := by decide +kernel
theorem dX8_isAgain_20 : decode cX8_isAgain 20 = .ok (.if_icmp .ne 27, 3) := by decide +kernel
theorem dX8_isAgain_23 : decode cX8_isAgain 23 = .ok (.aload_n 0, 1) := by decide +kernel
theorem dX8_isAgain_24 : decode cX8_isAgain 24 = .ok (.getfield 28, 3) := by decide +kernel
theorem dX8_isAgain_27 : decode cX8_isAgain 27 = .ok (.iload 4, 2) := by decide +kernel
theorem dX8_isAgain_29 : decode cX8_isAgain 29 = .ok (.iaload, 1) := by decide +kernel
theorem dX8_isAgain_30 : decode cX8_isAgain 30 = .ok (.iload_n 2, 1) := by decide +kernel
theorem dX8_isAgain_31 : decode cX8_isAgain 31 = .ok (.if_icmp .ne 16, 3) := by decide +kernel
theorem dX8_isAgain_34 : decode cX8_isAgain 34 = .ok (.aload_n 0, 1) := by decide +kernel
theorem dX8_isAgain_35 : decode cX8_isAgain 35 = .ok (.getfield 31, 3) := by decide +kernel
theorem dX8_isAgain_38 : decode cX8_isAgain 38 = .ok (.iload 4, 2) := by decide +kernel
theorem dX8_isAgain_40 : decode cX8_isAgain 40 = .ok (.iaload, 1) := by decide +kernel
theorem dX8_isAgain_41 : decode cX8_isAgain 41 = .ok (.iload_n 3, 1) := by decide +kernel
theorem dX8_isAgain_42 : decode cX8_isAgain 42 = .ok (.if_icmp .ne 5, 3) := by decide +kernel
theorem dX8_isAgain_45 : decode cX8_isAgain 45 = .ok (.iconst 1, 1) := by decide +kernel
theorem dX8_isAgain_46 : decode cX8_isAgain 46 = .ok (.ireturn, 1) := by decide +kernel
theorem dX8_isAgain_47 : decode cX8_isAgain 47 = .ok (.iinc 4 1, 3) := by decide +kernel
theorem dX8_isAgain_50 : decode cX8_isAgain 50 = .ok (.goto (-47), 3) := by decide +kernel
theorem dX8_isAgain_53 : decode cX8_isAgain 53 = .ok (.iconst 0, 1) := by decide +kernel
theorem dX8_isAgain_54 : decode cX8_isAgain 54 = .ok (.ireturn, 1) := by decide +kernel
set_option maxRecDepth 20000 in
theorem ggX8_line_X8_next : GoodIn wsX8_line wsX8_next := goodIn_r _ [11, 1, 12, 13, 31, 32, 33, 34, 35, 36, 37, 38, 39, 40, 41, 42, 43, 44, 45, 46, 47, 48, 49, 50, 51, 52, 53, 54, 55, 56, 57, 58, 59, 60, 61, 62, 63, 64] (by decide +kernel) (by decide +kernel)
set_option maxRecDepth 20000 in
theorem gX8_line_X8_next : GoodIn wsX8_line (wsV RX8 100 RX8 yX8_next wsX8_next) := goodIn_app (goodIn_of _ (by decide +kernel)) ggX8_line_X8_next
set_option maxRecDepth 20000 in
theorem ggX8_line_X8_number : GoodIn wsX8_line wsX8_number := goodIn_r _ [17, 1, 7, 8, 9, 10, 11, 12, 13, 18, 19, 20, 31, 32, 33, 34, 35, 36, 37, 38, 39, 40, 41, 42, 43, 44, 45, 46, 47, 48, 49, 50, 51, 52, 53, 54, 55, 56, 57, 58, 59, 60, 61, 62, 63, 64] (by decide +kernel) (by decide +kernel)
set_option maxRecDepth 20000 in
theorem gX8_line_X8_number : GoodIn wsX8_line (wsV RX8 107 RX8 yX8_number wsX8_number) := goodIn_app (goodIn_of _ (by decide +kernel)) ggX8_line_X8_number
set_option maxRecDepth 20000 in
theorem ggX8_line_X8_isOwner : GoodIn wsX8_line wsX8_isOwner := goodIn_r _ [23, 18, 19, 10, 20] (by decide +kernel) (by decide +kernel)
set_option maxRecDepth 20000 in
theorem gX8_line_X8_isOwner : GoodIn wsX8_line (va_wsS RX8 110 yX8_isOwner wsX8_isOwner) := goodIn_app (goodIn_of _ (by decide +kernel)) ggX8_line_X8_isOwner
set_option maxRecDepth 20000 in
theorem ggX8_line_X8_in : GoodIn wsX8_line wsX8_in := goodIn_r _ [20] (by decide +kernel) (by decide +kernel)
set_option maxRecDepth 20000 in
theorem gX8_line_X8_in : GoodIn wsX8_line (va_wsS RX8 90 yX8_in wsX8_in) := goodIn_app (goodIn_of _ (by decide +kernel)) ggX8_line_X8_in
set_option maxRecDepth 20000 in
theorem ggX8_line_X8_isKind : GoodIn wsX8_line wsX8_isKind := goodIn_r _ [26, 18, 19, 10, 20] (by decide +kernel) (by decide +kernel)
set_option maxRecDepth 20000 in
theorem gX8_line_X8_isKind : GoodIn wsX8_line (va_wsS RX8 114 yX8_isKind wsX8_isKind) := goodIn_app (goodIn_of _ (by decide +kernel)) ggX8_line_X8_isKind
set_option maxRecDepth 20000 in
theorem ggX8_line_X8_isAgain : GoodIn wsX8_line wsX8_isAgain := goodIn_r _ [30, 2, 3, 4, 5, 31, 32, 33, 34, 35, 36, 37, 38, 39, 40, 41, 42, 43, 44, 45, 46, 47, 48, 49, 50, 51, 52, 53, 54, 55, 56, 57, 58, 59, 60, 61, 62, 63, 64] (by decide +kernel) (by decide +kernel)
set_option maxRecDepth 20000 in
theorem gX8_line_X8_isAgain : GoodIn wsX8_line (wsV RX8 117 RX8 yX8_isAgain wsX8_isAgain) := goodIn_app (goodIn_of _ (by decide +kernel)) ggX8_line_X8_isAgain
theorem dX8_line_0 : decode cX8_line 0 = .ok (.aload_n 0, 1) := by decide +kernel
theorem dX8_line_1 : decode cX8_line 1 = .ok (.invokevirtual 100, 3) := by decide +kernel
theorem dX8_line_4 : decode cX8_line 4 = .ok (.istore_n 1, 1) := by decide +kernel
theorem dX8_line_5 : decode cX8_line 5 = .ok (.iload_n 1, 1) := by decide +kernel
theorem dX8_line_6 : decode cX8_line 6 = .ok (.bipush 83, 2) := by decide +kernel
theorem dX8_line_8 : decode cX8_line 8 = .ok (.if_icmp .eq 23, 3) := by decide +kernel
theorem dX8_line_11 : decode cX8_line 11 = .ok (.iload_n 1, 1) := by decide +kernel
theorem dX8_line_12 : decode cX8_line 12 = .ok (.bipush 72, 2) := by decide +kernel
theorem dX8_line_14 : decode cX8_line 14 = .ok (.if_icmp .eq 17, 3) := by decide +kernel
theorem dX8_line_17 : decode cX8_line 17 = .ok (.iload_n 1, 1) := by decide +kernel
theorem dX8_line_18 : decode cX8_line 18 = .ok (.bipush 77, 2) := by decide +kernel
theorem dX8_line_20 : decode cX8_line 20 = .ok (.if_icmp .eq 11, 3) := by decide +kernel
theorem dX8_line_23 : decode cX8_line 23 = .ok (.iload_n 1, 1) := by decide +kernel
theorem dX8_line_24 : decode cX8_line 24 = .ok (.bipush 86, 2) := by decide +kernel
theorem dX8_line_26 : decode cX8_line 26 = .ok (.if_icmp .eq 5, 3) := by decide +kernel
theorem dX8_line_29 : decode cX8_line 29 = .ok (.iconst 0, 1) := by decide +kernel
theorem dX8_line_30 : decode cX8_line 30 = .ok (.ireturn, 1) := by decide +kernel
theorem dX8_line_31 : decode cX8_line 31 = .ok (.aload_n 0, 1) := by decide +kernel
theorem dX8_line_32 : decode cX8_line 32 = .ok (.dup, 1) := by decide +kernel
theorem dX8_line_33 : decode cX8_line 33 = .ok (.getfield 97, 3) := by decide +kernel
theorem dX8_line_36 : decode cX8_line 36 = .ok (.iconst 1, 1) := by decide +kernel
theorem dX8_line_37 : decode cX8_line 37 = .ok (.iadd, 1) := by decide +kernel
theorem dX8_line_38 : decode cX8_line 38 = .ok (.putfield 97, 3) := by decide +kernel
theorem dX8_line_41 : decode cX8_line 41 = .ok (.aload_n 0, 1) := by decide +kernel
theorem dX8_line_42 : decode cX8_line 42 = .ok (.invokevirtual 107, 3) := by decide +kernel
theorem dX8_line_45 : decode cX8_line 45 = .ok (.istore_n 2, 1) := by decide +kernel
theorem dX8_line_46 : decode cX8_line 46 = .ok (.iload_n 1, 1) := by decide +kernel
theorem dX8_line_47 : decode cX8_line 47 = .ok (.bipush 77, 2) := by decide +kernel
theorem dX8_line_49 : decode cX8_line 49 = .ok (.if_icmp .ne 7, 3) := by decide +kernel
theorem dX8_line_52 : decode cX8_line 52 = .ok (.iconst 0, 1) := by decide +kernel
theorem dX8_line_53 : decode cX8_line 53 = .ok (.goto 7, 3) := by decide +kernel
theorem dX8_line_56 : decode cX8_line 56 = .ok (.aload_n 0, 1) := by decide +kernel
theorem dX8_line_57 : decode cX8_line 57 = .ok (.invokevirtual 107, 3) := by decide +kernel
theorem dX8_line_60 : decode cX8_line 60 = .ok (.istore_n 3, 1) := by decide +kernel
theorem dX8_line_61 : decode cX8_line 61 = .ok (.aload_n 0, 1) := by decide +kernel
theorem dX8_line_62 : decode cX8_line 62 = .ok (.invokevirtual 107, 3) := by decide +kernel
theorem dX8_line_65 : decode cX8_line 65 = .ok (.istore 4, 2) := by decide +kernel
theorem dX8_line_67 : decode cX8_line 67 = .ok (.iload_n 2, 1) := by decide +kernel
theorem dX8_line_68 : decode cX8_line 68 = .ok (.invokestatic 110, 3) := by decide +kernel
theorem dX8_line_71 : decode cX8_line 71 = .ok (.ifCond .eq 30, 3) := by decide +kernel
theorem dX8_line_74 : decode cX8_line 74 = .ok (.aload_n 0, 1) := by decide +kernel
theorem dX8_line_75 : decode cX8_line 75 = .ok (.invokevirtual 100, 3) := by decide +kernel
theorem dX8_line_78 : decode cX8_line 78 = .ok (.bipush 10, 2) := by decide +kernel
theorem dX8_line_80 : decode cX8_line 80 = .ok (.if_icmp .ne 21, 3) := by decide +kernel
theorem dX8_line_83 : decode cX8_line 83 = .ok (.aload_n 0, 1) := by decide +kernel
theorem dX8_line_84 : decode cX8_line 84 = .ok (.getfield 104, 3) := by decide +kernel
theorem dX8_line_87 : decode cX8_line 87 = .ok (.bipush 60, 2) := by decide +kernel
theorem dX8_line_89 : decode cX8_line 89 = .ok (.if_icmp .eq 12, 3) := by decide +kernel
theorem dX8_line_92 : decode cX8_line 92 = .ok (.iload_n 3, 1) := by decide +kernel
theorem dX8_line_93 : decode cX8_line 93 = .ok (.ifCond .lt 8, 3) := by decide +kernel
theorem dX8_line_96 : decode cX8_line 96 = .ok (.iload 4, 2) := by decide +kernel
theorem dX8_line_98 : decode cX8_line 98 = .ok (.ifCond .ge 5, 3) := by decide +kernel
theorem dX8_line_101 : decode cX8_line 101 = .ok (.iconst 0, 1) := by decide +kernel
theorem dX8_line_102 : decode cX8_line 102 = .ok (.ireturn, 1) := by decide +kernel
theorem dX8_line_103 : decode cX8_line 103 = .ok (.aload_n 0, 1) := by decide +kernel
theorem dX8_line_104 : decode cX8_line 104 = .ok (.dup, 1) := by decide +kernel
theorem dX8_line_105 : decode cX8_line 105 = .ok (.getfield 97, 3) := by decide +kernel
theorem dX8_line_108 : decode cX8_line 108 = .ok (.iconst 1, 1) := by decide +kernel
theorem dX8_line_109 : decode cX8_line 109 = .ok (.iadd, 1) := by decide +kernel
theorem dX8_line_110 : decode cX8_line 110 = .ok (.putfield 97, 3) := by decide +kernel
theorem dX8_line_113 : decode cX8_line 113 = .ok (.iload_n 1, 1) := by decide +kernel
theorem dX8_line_114 : decode cX8_line 114 = .ok (.bipush 77, 2) := by decide +kernel
theorem dX8_line_116 : decode cX8_line 116 = .ok (.if_icmp .ne 19, 3) := by decide +kernel
theorem dX8_line_119 : decode cX8_line 119 = .ok (.iload 4, 2) := by decide +kernel
theorem dX8_line_121 : decode cX8_line 121 = .ok (.sipush 10000, 3) := by decide +kernel
theorem dX8_line_124 : decode cX8_line 124 = .ok (.if_icmp .gt 7, 3) := by decide +kernel
theorem dX8_line_127 : decode cX8_line 127 = .ok (.iconst 1, 1) := by decide +kernel
theorem dX8_line_128 : decode cX8_line 128 = .ok (.goto 59, 3) := by decide +kernel
theorem dX8_line_131 : decode cX8_line 131 = .ok (.iconst 0, 1) := by decide +kernel
theorem dX8_line_132 : decode cX8_line 132 = .ok (.goto 55, 3) := by decide +kernel
theorem dX8_line_135 : decode cX8_line 135 = .ok (.iload_n 1, 1) := by decide +kernel
theorem dX8_line_136 : decode cX8_line 136 = .ok (.bipush 86, 2) := by decide +kernel
theorem dX8_line_138 : decode cX8_line 138 = .ok (.if_icmp .ne 29, 3) := by decide +kernel
theorem dX8_line_141 : decode cX8_line 141 = .ok (.iload_n 3, 1) := by decide +kernel
theorem dX8_line_142 : decode cX8_line 142 = .ok (.iconst 1, 1) := by decide +kernel
theorem dX8_line_143 : decode cX8_line 143 = .ok (.sipush 9000, 3) := by decide +kernel
theorem dX8_line_146 : decode cX8_line 146 = .ok (.invokestatic 90, 3) := by decide +kernel
theorem dX8_line_149 : decode cX8_line 149 = .ok (.ifCond .eq 14, 3) := by decide +kernel
theorem dX8_line_152 : decode cX8_line 152 = .ok (.iload 4, 2) := by decide +kernel
theorem dX8_line_154 : decode cX8_line 154 = .ok (.bipush 100, 2) := by decide +kernel
theorem dX8_line_156 : decode cX8_line 156 = .ok (.if_icmp .gt 7, 3) := by decide +kernel
theorem dX8_line_159 : decode cX8_line 159 = .ok (.iconst 1, 1) := by decide +kernel
theorem dX8_line_160 : decode cX8_line 160 = .ok (.goto 27, 3) := by decide +kernel
theorem dX8_line_163 : decode cX8_line 163 = .ok (.iconst 0, 1) := by decide +kernel
theorem dX8_line_164 : decode cX8_line 164 = .ok (.goto 23, 3) := by decide +kernel
theorem dX8_line_167 : decode cX8_line 167 = .ok (.iload_n 3, 1) := by decide +kernel
theorem dX8_line_168 : decode cX8_line 168 = .ok (.invokestatic 114, 3) := by decide +kernel
theorem dX8_line_171 : decode cX8_line 171 = .ok (.ifCond .eq 15, 3) := by decide +kernel
theorem dX8_line_174 : decode cX8_line 174 = .ok (.iload 4, 2) := by decide +kernel
theorem dX8_line_176 : decode cX8_line 176 = .ok (.sipush 10000, 3) := by decide +kernel
theorem dX8_line_179 : decode cX8_line 179 = .ok (.if_icmp .gt 7, 3) := by decide +kernel
theorem dX8_line_182 : decode cX8_line 182 = .ok (.iconst 1, 1) := by decide +kernel
theorem dX8_line_183 : decode cX8_line 183 = .ok (.goto 4, 3) := by decide +kernel
theorem dX8_line_186 : decode cX8_line 186 = .ok (.iconst 0, 1) := by decide +kernel
theorem dX8_line_187 : decode cX8_line 187 = .ok (.istore 5, 2) := by decide +kernel
theorem dX8_line_189 : decode cX8_line 189 = .ok (.iload 5, 2) := by decide +kernel
theorem dX8_line_191 : decode cX8_line 191 = .ok (.ifCond .eq 13, 3) := by decide +kernel
theorem dX8_line_194 : decode cX8_line 194 = .ok (.aload_n 0, 1) := by decide +kernel
theorem dX8_line_195 : decode cX8_line 195 = .ok (.iload_n 1, 1) := by decide +kernel
theorem dX8_line_196 : decode cX8_line 196 = .ok (.iload_n 2, 1) := by decide +kernel
theorem dX8_line_197 : decode cX8_line 197 = .ok (.iload_n 3, 1) := by decide +kernel
theorem dX8_line_198 : decode cX8_line 198 = .ok (.invokevirtual 117, 3) := by decide +kernel
theorem dX8_line_201 : decode cX8_line 201 = .ok (.ifCond .eq 5, 3) := by decide +kernel
theorem dX8_line_204 : decode cX8_line 204 = .ok (.iconst 0, 1) := by decide +kernel
theorem dX8_line_205 : decode cX8_line 205 = .ok (.ireturn, 1) := by decide +kernel
theorem dX8_line_206 : decode cX8_line 206 = .ok (.aload_n 0, 1) := by decide +kernel
theorem dX8_line_207 : decode cX8_line 207 = .ok (.getfield 25, 3) := by decide +kernel
theorem dX8_line_210 : decode cX8_line 210 = .ok (.aload_n 0, 1) := by decide +kernel
theorem dX8_line_211 : decode cX8_line 211 = .ok (.getfield 104, 3) := by decide +kernel
theorem dX8_line_214 : decode cX8_line 214 = .ok (.iload_n 1, 1) := by decide +kernel
theorem dX8_line_215 : decode cX8_line 215 = .ok (.iastore, 1) := by decide +kernel
theorem dX8_line_216 : decode cX8_line 216 = .ok (.aload_n 0, 1) := by decide +kernel
theorem dX8_line_217 : decode cX8_line 217 = .ok (.getfield 28, 3) := by decide +kernel
theorem dX8_line_220 : decode cX8_line 220 = .ok (.aload_n 0, 1) := by decide +kernel
theorem dX8_line_221 : decode cX8_line 221 = .ok (.getfield 104, 3) := by decide +kernel
theorem dX8_line_224 : decode cX8_line 224 = .ok (.iload_n 2, 1) := by decide +kernel
theorem dX8_line_225 : decode cX8_line 225 = .ok (.iastore, 1) := by decide +kernel
theorem dX8_line_226 : decode cX8_line 226 = .ok (.aload_n 0, 1) := by decide +kernel
theorem dX8_line_227 : decode cX8_line 227 = .ok (.getfield 31, 3) := by decide +kernel
theorem dX8_line_230 : decode cX8_line 230 = .ok (.aload_n 0, 1) := by decide +kernel
theorem dX8_line_231 : decode cX8_line 231 = .ok (.getfield 104, 3) := by decide +kernel
theorem dX8_line_234 : decode cX8_line 234 = .ok (.iload_n 3, 1) := by decide +kernel
theorem dX8_line_235 : decode cX8_line 235 = .ok (.iastore, 1) := by decide +kernel
theorem dX8_line_236 : decode cX8_line 236 = .ok (.aload_n 0, 1) := by decide +kernel
theorem dX8_line_237 : decode cX8_line 237 = .ok (.getfield 34, 3) := by decide +kernel
theorem dX8_line_240 : decode cX8_line 240 = .ok (.aload_n 0, 1) := by decide +kernel
theorem dX8_line_241 : decode cX8_line 241 = .ok (.getfield 104, 3) := by decide +kernel
theorem dX8_line_244 : decode cX8_line 244 = .ok (.iload 4, 2) := by decide +kernel
theorem dX8_line_246 : decode cX8_line 246 = .ok (.iastore, 1) := by decide +kernel
theorem dX8_line_247 : decode cX8_line 247 = .ok (.aload_n 0, 1) := by decide +kernel
theorem dX8_line_248 : decode cX8_line 248 = .ok (.dup, 1) := by decide +kernel
theorem dX8_line_249 : decode cX8_line 249 = .ok (.getfield 104, 3) := by decide +kernel
theorem dX8_line_252 : decode cX8_line 252 = .ok (.iconst 1, 1) := by decide +kernel
theorem dX8_line_253 : decode cX8_line 253 = .ok (.iadd, 1) := by decide +kernel
theorem dX8_line_254 : decode cX8_line 254 = .ok (.putfield 104, 3) := by decide +kernel
theorem dX8_line_257 : decode cX8_line 257 = .ok (.iconst 1, 1) := by decide +kernel
theorem dX8_line_258 : decode cX8_line 258 = .ok (.ireturn, 1) := by decide +kernel
set_option maxRecDepth 20000 in
theorem ggX8_read_X8_line : GoodIn wsX8_read wsX8_line := goodIn_r _ [18, 2, 3, 7, 9, 11, 13, 19, 20, 21, 17, 22, 4, 23, 24, 25, 26, 27, 28, 29, 30, 31, 32, 33, 34, 35, 36, 37, 38, 39, 40, 41, 42, 43, 44, 45, 46, 47, 48, 49, 50, 51, 52, 53, 54, 55, 56, 57, 58, 59, 60, 61, 62, 63, 64, 65, 66, 67, 68, 69, 70, 71, 72, 73, 74] (by decide +kernel) (by decide +kernel)
set_option maxRecDepth 20000 in
theorem gX8_read_X8_line : GoodIn wsX8_read (wsV RX8 120 RX8 yX8_line wsX8_line) := goodIn_app (goodIn_of _ (by decide +kernel)) ggX8_read_X8_line
theorem dX8_read_0 : decode cX8_read 0 = .ok (.aload_n 0, 1) := by decide +kernel
theorem dX8_read_1 : decode cX8_read 1 = .ok (.iconst 0, 1) := by decide +kernel
theorem dX8_read_2 : decode cX8_read 2 = .ok (.putfield 86, 3) := by decide +kernel
theorem dX8_read_5 : decode cX8_read 5 = .ok (.aload_n 0, 1) := by decide +kernel
theorem dX8_read_6 : decode cX8_read 6 = .ok (.iconst 0, 1) := by decide +kernel
theorem dX8_read_7 : decode cX8_read 7 = .ok (.putfield 97, 3) := by decide +kernel
theorem dX8_read_10 : decode cX8_read 10 = .ok (.aload_n 0, 1) := by decide +kernel
theorem dX8_read_11 : decode cX8_read 11 = .ok (.iconst 0, 1) := by decide +kernel
theorem dX8_read_12 : decode cX8_read 12 = .ok (.putfield 104, 3) := by decide +kernel
theorem dX8_read_15 : decode cX8_read 15 = .ok (.aload_n 0, 1) := by decide +kernel
theorem dX8_read_16 : decode cX8_read 16 = .ok (.getfield 97, 3) := by decide +kernel
theorem dX8_read_19 : decode cX8_read 19 = .ok (.aload_n 0, 1) := by decide +kernel
theorem dX8_read_20 : decode cX8_read 20 = .ok (.getfield 94, 3) := by decide +kernel
theorem dX8_read_23 : decode cX8_read 23 = .ok (.if_icmp .ge 27, 3) := by decide +kernel
theorem dX8_read_26 : decode cX8_read 26 = .ok (.aload_n 0, 1) := by decide +kernel
theorem dX8_read_27 : decode cX8_read 27 = .ok (.getfield 97, 3) := by decide +kernel
theorem dX8_read_30 : decode cX8_read 30 = .ok (.istore_n 1, 1) := by decide +kernel
theorem dX8_read_31 : decode cX8_read 31 = .ok (.aload_n 0, 1) := by decide +kernel
theorem dX8_read_32 : decode cX8_read 32 = .ok (.invokevirtual 120, 3) := by decide +kernel
theorem dX8_read_35 : decode cX8_read 35 = .ok (.ifCond .eq 6, 3) := by decide +kernel
theorem dX8_read_38 : decode cX8_read 38 = .ok (.goto (-23), 3) := by decide +kernel
theorem dX8_read_41 : decode cX8_read 41 = .ok (.aload_n 0, 1) := by decide +kernel
theorem dX8_read_42 : decode cX8_read 42 = .ok (.iconst 0, 1) := by decide +kernel
theorem dX8_read_43 : decode cX8_read 43 = .ok (.putfield 94, 3) := by decide +kernel
theorem dX8_read_46 : decode cX8_read 46 = .ok (.iconst (-1), 1) := by decide +kernel
theorem dX8_read_47 : decode cX8_read 47 = .ok (.iload_n 1, 1) := by decide +kernel
theorem dX8_read_48 : decode cX8_read 48 = .ok (.isub, 1) := by decide +kernel
theorem dX8_read_49 : decode cX8_read 49 = .ok (.ireturn, 1) := by decide +kernel
theorem dX8_read_50 : decode cX8_read 50 = .ok (.aload_n 0, 1) := by decide +kernel
theorem dX8_read_51 : decode cX8_read 51 = .ok (.iconst 0, 1) := by decide +kernel
theorem dX8_read_52 : decode cX8_read 52 = .ok (.putfield 94, 3) := by decide +kernel
theorem dX8_read_55 : decode cX8_read 55 = .ok (.aload_n 0, 1) := by decide +kernel
theorem dX8_read_56 : decode cX8_read 56 = .ok (.aload_n 0, 1) := by decide +kernel
theorem dX8_read_57 : decode cX8_read 57 = .ok (.getfield 104, 3) := by decide +kernel
theorem dX8_read_60 : decode cX8_read 60 = .ok (.putfield 124, 3) := by decide +kernel
theorem dX8_read_63 : decode cX8_read 63 = .ok (.iconst 0, 1) := by decide +kernel
theorem dX8_read_64 : decode cX8_read 64 = .ok (.istore_n 1, 1) := by decide +kernel
theorem dX8_read_65 : decode cX8_read 65 = .ok (.iload_n 1, 1) := by decide +kernel
theorem dX8_read_66 : decode cX8_read 66 = .ok (.aload_n 0, 1) := by decide +kernel
theorem dX8_read_67 : decode cX8_read 67 = .ok (.getfield 104, 3) := by decide +kernel
theorem dX8_read_70 : decode cX8_read 70 = .ok (.if_icmp .ge 57, 3) := by decide +kernel
theorem dX8_read_73 : decode cX8_read 73 = .ok (.aload_n 0, 1) := by decide +kernel
theorem dX8_read_74 : decode cX8_read 74 = .ok (.getfield 13, 3) := by decide +kernel
theorem dX8_read_77 : decode cX8_read 77 = .ok (.iload_n 1, 1) := by decide +kernel
theorem dX8_read_78 : decode cX8_read 78 = .ok (.aload_n 0, 1) := by decide +kernel
theorem dX8_read_79 : decode cX8_read 79 = .ok (.getfield 25, 3) := by decide +kernel
theorem dX8_read_82 : decode cX8_read 82 = .ok (.iload_n 1, 1) := by decide +kernel
theorem dX8_read_83 : decode cX8_read 83 = .ok (.iaload, 1) := by decide +kernel
theorem dX8_read_84 : decode cX8_read 84 = .ok (.iastore, 1) := by decide +kernel
theorem dX8_read_85 : decode cX8_read 85 = .ok (.aload_n 0, 1) := by decide +kernel
theorem dX8_read_86 : decode cX8_read 86 = .ok (.getfield 16, 3) := by decide +kernel
theorem dX8_read_89 : decode cX8_read 89 = .ok (.iload_n 1, 1) := by decide +kernel
theorem dX8_read_90 : decode cX8_read 90 = .ok (.aload_n 0, 1) := by decide +kernel
theorem dX8_read_91 : decode cX8_read 91 = .ok (.getfield 28, 3) := by decide +kernel
theorem dX8_read_94 : decode cX8_read 94 = .ok (.iload_n 1, 1) := by decide +kernel
theorem dX8_read_95 : decode cX8_read 95 = .ok (.iaload, 1) := by decide +kernel
theorem dX8_read_96 : decode cX8_read 96 = .ok (.iastore, 1) := by decide +kernel
theorem dX8_read_97 : decode cX8_read 97 = .ok (.aload_n 0, 1) := by decide +kernel
theorem dX8_read_98 : decode cX8_read 98 = .ok (.getfield 19, 3) := by decide +kernel
theorem dX8_read_101 : decode cX8_read 101 = .ok (.iload_n 1, 1) := by decide +kernel
theorem dX8_read_102 : decode cX8_read 102 = .ok (.aload_n 0, 1) := by decide +kernel
theorem dX8_read_103 : decode cX8_read 103 = .ok (.getfield 31, 3) := by decide +kernel
theorem dX8_read_106 : decode cX8_read 106 = .ok (.iload_n 1, 1) := by decide +kernel
theorem dX8_read_107 : decode cX8_read 107 = .ok (.iaload, 1) := by decide +kernel
theorem dX8_read_108 : decode cX8_read 108 = .ok (.iastore, 1) := by decide +kernel
theorem dX8_read_109 : decode cX8_read 109 = .ok (.aload_n 0, 1) := by decide +kernel
theorem dX8_read_110 : decode cX8_read 110 = .ok (.getfield 22, 3) := by decide +kernel
theorem dX8_read_113 : decode cX8_read 113 = .ok (.iload_n 1, 1) := by decide +kernel
theorem dX8_read_114 : decode cX8_read 114 = .ok (.aload_n 0, 1) := by decide +kernel
theorem dX8_read_115 : decode cX8_read 115 = .ok (.getfield 34, 3) := by decide +kernel
theorem dX8_read_118 : decode cX8_read 118 = .ok (.iload_n 1, 1) := by decide +kernel
theorem dX8_read_119 : decode cX8_read 119 = .ok (.iaload, 1) := by decide +kernel
theorem dX8_read_120 : decode cX8_read 120 = .ok (.iastore, 1) := by decide +kernel
theorem dX8_read_121 : decode cX8_read 121 = .ok (.iinc 1 1, 3) := by decide +kernel
theorem dX8_read_124 : decode cX8_read 124 = .ok (.goto (-59), 3) := by decide +kernel
theorem dX8_read_127 : decode cX8_read 127 = .ok (.aload_n 0, 1) := by decide +kernel
theorem dX8_read_128 : decode cX8_read 128 = .ok (.getfield 124, 3) := by decide +kernel
theorem dX8_read_131 : decode cX8_read 131 = .ok (.ireturn, 1) := by decide +kernel
theorem dX8_charge_0 : decode cX8_charge 0 = .ok (.iconst 0, 1) := by decide +kernel
theorem dX8_charge_1 : decode cX8_charge 1 = .ok (.istore 4, 2) := by decide +kernel
theorem dX8_charge_3 : decode cX8_charge 3 = .ok (.iload 4, 2) := by decide +kernel
theorem dX8_charge_5 : decode cX8_charge 5 = .ok (.aload_n 0, 1) := by decide +kernel
theorem dX8_charge_6 : decode cX8_charge 6 = .ok (.getfield 124, 3) := by decide +kernel
theorem dX8_charge_9 : decode cX8_charge 9 = .ok (.if_icmp .ge 50, 3) := by decide +kernel
theorem dX8_charge_12 : decode cX8_charge 12 = .ok (.aload_n 0, 1) := by decide +kernel
theorem dX8_charge_13 : decode cX8_charge 13 = .ok (.getfield 13, 3) := by decide +kernel
theorem dX8_charge_16 : decode cX8_charge 16 = .ok (.iload 4, 2) := by decide +kernel
theorem dX8_charge_18 : decode cX8_charge 18 = .ok (.iaload, 1) := by decide +kernel
theorem dX8_charge_19 : decode cX8_charge 19 = .ok (.iload_n 1, 1) := by decide +kernel
theorem dX8_charge_20 : decode cX8_charge 20 = .ok (.if_icmp .ne 33, 3) := by decide +kernel
theorem dX8_charge_23 : decode cX8_charge 23 = .ok (.aload_n 0, 1) := by decide +kernel
theorem dX8_charge_24 : decode cX8_charge 24 = .ok (.getfield 16, 3) := by decide +kernel
theorem dX8_charge_27 : decode cX8_charge 27 = .ok (.iload 4, 2) := by decide +kernel
theorem dX8_charge_29 : decode cX8_charge 29 = .ok (.iaload, 1) := by decide +kernel
theorem dX8_charge_30 : decode cX8_charge 30 = .ok (.iload_n 2, 1) := by decide +kernel
theorem dX8_charge_31 : decode cX8_charge 31 = .ok (.if_icmp .ne 22, 3) := by decide +kernel
theorem dX8_charge_34 : decode cX8_charge 34 = .ok (.aload_n 0, 1) := by decide +kernel
theorem dX8_charge_35 : decode cX8_charge 35 = .ok (.getfield 19, 3) := by decide +kernel
theorem dX8_charge_38 : decode cX8_charge 38 = .ok (.iload 4, 2) := by decide +kernel
theorem dX8_charge_40 : decode cX8_charge 40 = .ok (.iaload, 1) := by decide +kernel
theorem dX8_charge_41 : decode cX8_charge 41 = .ok (.iload_n 3, 1) := by decide +kernel
theorem dX8_charge_42 : decode cX8_charge 42 = .ok (.if_icmp .ne 11, 3) := by decide +kernel
theorem dX8_charge_45 : decode cX8_charge 45 = .ok (.aload_n 0, 1) := by decide +kernel
theorem dX8_charge_46 : decode cX8_charge 46 = .ok (.getfield 22, 3) := by decide +kernel
theorem dX8_charge_49 : decode cX8_charge 49 = .ok (.iload 4, 2) := by decide +kernel
theorem dX8_charge_51 : decode cX8_charge 51 = .ok (.iaload, 1) := by decide +kernel
theorem dX8_charge_52 : decode cX8_charge 52 = .ok (.ireturn, 1) := by decide +kernel
theorem dX8_charge_53 : decode cX8_charge 53 = .ok (.iinc 4 1, 3) := by decide +kernel
theorem dX8_charge_56 : decode cX8_charge 56 = .ok (.goto (-53), 3) := by decide +kernel
theorem dX8_charge_59 : decode cX8_charge 59 = .ok (.iconst (-1), 1) := by decide +kernel
theorem dX8_charge_60 : decode cX8_charge 60 = .ok (.ireturn, 1) := by decide +kernel
set_option maxRecDepth 20000 in
theorem ggX8_cents_X8_charge : GoodIn wsX8_cents wsX8_charge := goodIn_r _ [5, 6, 7, 8, 9, 10, 11, 12, 13, 14, 15, 16, 17, 18, 19, 20, 21, 22, 23, 24, 25, 26, 27, 28, 29, 30, 31, 32, 33, 34, 35, 36, 37, 38, 39, 40, 41, 42, 43, 44] (by decide +kernel) (by decide +kernel)
set_option maxRecDepth 20000 in
theorem gX8_cents_X8_charge : GoodIn wsX8_cents (wsV RX8 127 RX8 yX8_charge wsX8_charge) := goodIn_app (goodIn_of _ (by decide +kernel)) ggX8_cents_X8_charge
theorem dX8_cents_0 : decode cX8_cents 0 = .ok (.aload_n 0, 1) := by decide +kernel
theorem dX8_cents_1 : decode cX8_cents 1 = .ok (.iload_n 1, 1) := by decide +kernel
theorem dX8_cents_2 : decode cX8_cents 2 = .ok (.iload_n 2, 1) := by decide +kernel
theorem dX8_cents_3 : decode cX8_cents 3 = .ok (.iload_n 3, 1) := by decide +kernel
theorem dX8_cents_4 : decode cX8_cents 4 = .ok (.invokevirtual 127, 3) := by decide +kernel
theorem dX8_cents_7 : decode cX8_cents 7 = .ok (.istore 4, 2) := by decide +kernel
theorem dX8_cents_9 : decode cX8_cents 9 = .ok (.iload 4, 2) := by decide +kernel
theorem dX8_cents_11 : decode cX8_cents 11 = .ok (.iconst (-1), 1) := by decide +kernel
theorem dX8_cents_12 : decode cX8_cents 12 = .ok (.if_icmp .ne 7, 3) := by decide +kernel
theorem dX8_cents_15 : decode cX8_cents 15 = .ok (.iconst 0, 1) := by decide +kernel
theorem dX8_cents_16 : decode cX8_cents 16 = .ok (.goto 5, 3) := by decide +kernel
theorem dX8_cents_19 : decode cX8_cents 19 = .ok (.iload 4, 2) := by decide +kernel
theorem dX8_cents_21 : decode cX8_cents 21 = .ok (.ireturn, 1) := by decide +kernel
set_option maxRecDepth 20000 in
theorem ggX8_unit_X8_isOwner : GoodIn wsX8_unit wsX8_isOwner := goodIn_r _ [13, 14, 15, 12, 16] (by decide +kernel) (by decide +kernel)
set_option maxRecDepth 20000 in
theorem gX8_unit_X8_isOwner : GoodIn wsX8_unit (va_wsS RX8 110 yX8_isOwner wsX8_isOwner) := goodIn_app (goodIn_of _ (by decide +kernel)) ggX8_unit_X8_isOwner
set_option maxRecDepth 20000 in
theorem ggX8_unit_X8_isKind : GoodIn wsX8_unit wsX8_isKind := goodIn_r _ [19, 14, 15, 12, 16] (by decide +kernel) (by decide +kernel)
set_option maxRecDepth 20000 in
theorem gX8_unit_X8_isKind : GoodIn wsX8_unit (va_wsS RX8 114 yX8_isKind wsX8_isKind) := goodIn_app (goodIn_of _ (by decide +kernel)) ggX8_unit_X8_isKind
set_option maxRecDepth 20000 in
theorem ggX8_unit_X8_isDay : GoodIn wsX8_unit wsX8_isDay := goodIn_r _ [22, 14, 15, 12, 16] (by decide +kernel) (by decide +kernel)
set_option maxRecDepth 20000 in
theorem gX8_unit_X8_isDay : GoodIn wsX8_unit (va_wsS RX8 131 yX8_isDay wsX8_isDay) := goodIn_app (goodIn_of _ (by decide +kernel)) ggX8_unit_X8_isDay
theorem dX8_unit_0 : decode cX8_unit 0 = .ok (.aload_n 0, 1) := by decide +kernel
theorem dX8_unit_1 : decode cX8_unit 1 = .ok (.iload_n 1, 1) := by decide +kernel
theorem dX8_unit_2 : decode cX8_unit 2 = .ok (.invokestatic 110, 3) := by decide +kernel
theorem dX8_unit_5 : decode cX8_unit 5 = .ok (.ifCond .eq 17, 3) := by decide +kernel
theorem dX8_unit_8 : decode cX8_unit 8 = .ok (.iload_n 2, 1) := by decide +kernel
theorem dX8_unit_9 : decode cX8_unit 9 = .ok (.invokestatic 114, 3) := by decide +kernel
theorem dX8_unit_12 : decode cX8_unit 12 = .ok (.ifCond .eq 10, 3) := by decide +kernel
theorem dX8_unit_15 : decode cX8_unit 15 = .ok (.iload_n 3, 1) := by decide +kernel
theorem dX8_unit_16 : decode cX8_unit 16 = .ok (.invokestatic 131, 3) := by decide +kernel
theorem dX8_unit_19 : decode cX8_unit 19 = .ok (.ifCond .ne 7, 3) := by decide +kernel
theorem dX8_unit_22 : decode cX8_unit 22 = .ok (.iconst 1, 1) := by decide +kernel
theorem dX8_unit_23 : decode cX8_unit 23 = .ok (.goto 17, 3) := by decide +kernel
theorem dX8_unit_26 : decode cX8_unit 26 = .ok (.aload_n 0, 1) := by decide +kernel
theorem dX8_unit_27 : decode cX8_unit 27 = .ok (.getfield 134, 3) := by decide +kernel
theorem dX8_unit_30 : decode cX8_unit 30 = .ok (.bipush 24, 2) := by decide +kernel
theorem dX8_unit_32 : decode cX8_unit 32 = .ok (.if_icmp .ne 7, 3) := by decide +kernel
theorem dX8_unit_35 : decode cX8_unit 35 = .ok (.iconst 2, 1) := by decide +kernel
theorem dX8_unit_36 : decode cX8_unit 36 = .ok (.goto 4, 3) := by decide +kernel
theorem dX8_unit_39 : decode cX8_unit 39 = .ok (.iconst 0, 1) := by decide +kernel
theorem dX8_unit_40 : decode cX8_unit 40 = .ok (.putfield 86, 3) := by decide +kernel
theorem dX8_unit_43 : decode cX8_unit 43 = .ok (.aload_n 0, 1) := by decide +kernel
theorem dX8_unit_44 : decode cX8_unit 44 = .ok (.getfield 86, 3) := by decide +kernel
theorem dX8_unit_47 : decode cX8_unit 47 = .ok (.ifCond .le 5, 3) := by decide +kernel
theorem dX8_unit_50 : decode cX8_unit 50 = .ok (.iconst 0, 1) := by decide +kernel
theorem dX8_unit_51 : decode cX8_unit 51 = .ok (.ireturn, 1) := by decide +kernel
theorem dX8_unit_52 : decode cX8_unit 52 = .ok (.aload_n 0, 1) := by decide +kernel
theorem dX8_unit_53 : decode cX8_unit 53 = .ok (.getfield 37, 3) := by decide +kernel
theorem dX8_unit_56 : decode cX8_unit 56 = .ok (.aload_n 0, 1) := by decide +kernel
theorem dX8_unit_57 : decode cX8_unit 57 = .ok (.getfield 134, 3) := by decide +kernel
theorem dX8_unit_60 : decode cX8_unit 60 = .ok (.iload_n 1, 1) := by decide +kernel
theorem dX8_unit_61 : decode cX8_unit 61 = .ok (.iastore, 1) := by decide +kernel
theorem dX8_unit_62 : decode cX8_unit 62 = .ok (.aload_n 0, 1) := by decide +kernel
theorem dX8_unit_63 : decode cX8_unit 63 = .ok (.getfield 40, 3) := by decide +kernel
theorem dX8_unit_66 : decode cX8_unit 66 = .ok (.aload_n 0, 1) := by decide +kernel
theorem dX8_unit_67 : decode cX8_unit 67 = .ok (.getfield 134, 3) := by decide +kernel
theorem dX8_unit_70 : decode cX8_unit 70 = .ok (.iload_n 3, 1) := by decide +kernel
theorem dX8_unit_71 : decode cX8_unit 71 = .ok (.iastore, 1) := by decide +kernel
theorem dX8_unit_72 : decode cX8_unit 72 = .ok (.aload_n 0, 1) := by decide +kernel
theorem dX8_unit_73 : decode cX8_unit 73 = .ok (.getfield 43, 3) := by decide +kernel
theorem dX8_unit_76 : decode cX8_unit 76 = .ok (.aload_n 0, 1) := by decide +kernel
theorem dX8_unit_77 : decode cX8_unit 77 = .ok (.getfield 134, 3) := by decide +kernel
theorem dX8_unit_80 : decode cX8_unit 80 = .ok (.ldc 137, 2) := by decide +kernel
theorem dX8_unit_82 : decode cX8_unit 82 = .ok (.iastore, 1) := by decide +kernel
theorem dX8_unit_83 : decode cX8_unit 83 = .ok (.aload_n 0, 1) := by decide +kernel
theorem dX8_unit_84 : decode cX8_unit 84 = .ok (.getfield 46, 3) := by decide +kernel
theorem dX8_unit_87 : decode cX8_unit 87 = .ok (.aload_n 0, 1) := by decide +kernel
theorem dX8_unit_88 : decode cX8_unit 88 = .ok (.getfield 134, 3) := by decide +kernel
theorem dX8_unit_91 : decode cX8_unit 91 = .ok (.iconst 1, 1) := by decide +kernel
theorem dX8_unit_92 : decode cX8_unit 92 = .ok (.iastore, 1) := by decide +kernel
theorem dX8_unit_93 : decode cX8_unit 93 = .ok (.aload_n 0, 1) := by decide +kernel
theorem dX8_unit_94 : decode cX8_unit 94 = .ok (.getfield 49, 3) := by decide +kernel
theorem dX8_unit_97 : decode cX8_unit 97 = .ok (.bipush 9, 2) := by decide +kernel
theorem dX8_unit_99 : decode cX8_unit 99 = .ok (.aload_n 0, 1) := by decide +kernel
theorem dX8_unit_100 : decode cX8_unit 100 = .ok (.getfield 134, 3) := by decide +kernel
theorem dX8_unit_103 : decode cX8_unit 103 = .ok (.imul, 1) := by decide +kernel
theorem dX8_unit_104 : decode cX8_unit 104 = .ok (.iload_n 3, 1) := by decide +kernel
theorem dX8_unit_105 : decode cX8_unit 105 = .ok (.iastore, 1) := by decide +kernel
theorem dX8_unit_106 : decode cX8_unit 106 = .ok (.aload_n 0, 1) := by decide +kernel
theorem dX8_unit_107 : decode cX8_unit 107 = .ok (.getfield 52, 3) := by decide +kernel
theorem dX8_unit_110 : decode cX8_unit 110 = .ok (.bipush 9, 2) := by decide +kernel
theorem dX8_unit_112 : decode cX8_unit 112 = .ok (.aload_n 0, 1) := by decide +kernel
theorem dX8_unit_113 : decode cX8_unit 113 = .ok (.getfield 134, 3) := by decide +kernel
theorem dX8_unit_116 : decode cX8_unit 116 = .ok (.imul, 1) := by decide +kernel
theorem dX8_unit_117 : decode cX8_unit 117 = .ok (.iload_n 2, 1) := by decide +kernel
theorem dX8_unit_118 : decode cX8_unit 118 = .ok (.iastore, 1) := by decide +kernel
theorem dX8_unit_119 : decode cX8_unit 119 = .ok (.aload_n 0, 1) := by decide +kernel
theorem dX8_unit_120 : decode cX8_unit 120 = .ok (.dup, 1) := by decide +kernel
theorem dX8_unit_121 : decode cX8_unit 121 = .ok (.getfield 134, 3) := by decide +kernel
theorem dX8_unit_124 : decode cX8_unit 124 = .ok (.iconst 1, 1) := by decide +kernel
theorem dX8_unit_125 : decode cX8_unit 125 = .ok (.iadd, 1) := by decide +kernel
theorem dX8_unit_126 : decode cX8_unit 126 = .ok (.putfield 134, 3) := by decide +kernel
theorem dX8_unit_129 : decode cX8_unit 129 = .ok (.aload_n 0, 1) := by decide +kernel
theorem dX8_unit_130 : decode cX8_unit 130 = .ok (.getfield 134, 3) := by decide +kernel
theorem dX8_unit_133 : decode cX8_unit 133 = .ok (.iconst 1, 1) := by decide +kernel
theorem dX8_unit_134 : decode cX8_unit 134 = .ok (.isub, 1) := by decide +kernel
theorem dX8_unit_135 : decode cX8_unit 135 = .ok (.ireturn, 1) := by decide +kernel
set_option maxRecDepth 20000 in
theorem ggX8_isUnit_X8_in : GoodIn wsX8_isUnit wsX8_in := goodIn_r _ [5] (by decide +kernel) (by decide +kernel)
set_option maxRecDepth 20000 in
theorem gX8_isUnit_X8_in : GoodIn wsX8_isUnit (va_wsS RX8 90 yX8_in wsX8_in) := goodIn_app (goodIn_of _ (by decide +kernel)) ggX8_isUnit_X8_in
theorem dX8_isUnit_0 : decode cX8_isUnit 0 = .ok (.iload_n 1, 1) := by decide +kernel
theorem dX8_isUnit_1 : decode cX8_isUnit 1 = .ok (.iconst 0, 1) := by decide +kernel
theorem dX8_isUnit_2 : decode cX8_isUnit 2 = .ok (.aload_n 0, 1) := by decide +kernel
theorem dX8_isUnit_3 : decode cX8_isUnit 3 = .ok (.getfield 134, 3) := by decide +kernel
theorem dX8_isUnit_6 : decode cX8_isUnit 6 = .ok (.iconst 1, 1) := by decide +kernel
theorem dX8_isUnit_7 : decode cX8_isUnit 7 = .ok (.isub, 1) := by decide +kernel
theorem dX8_isUnit_8 : decode cX8_isUnit 8 = .ok (.invokestatic 90, 3) := by decide +kernel
theorem dX8_isUnit_11 : decode cX8_isUnit 11 = .ok (.ireturn, 1) := by decide +kernel
theorem dX8_isLate_0 : decode cX8_isLate 0 = .ok (.aload_n 0, 1) := by decide +kernel
theorem dX8_isLate_1 : decode cX8_isLate 1 = .ok (.getfield 43, 3) := by decide +kernel
theorem dX8_isLate_4 : decode cX8_isLate 4 = .ok (.iload_n 1, 1) := by decide +kernel
theorem dX8_isLate_5 : decode cX8_isLate 5 = .ok (.iaload, 1) := by decide +kernel
theorem dX8_isLate_6 : decode cX8_isLate 6 = .ok (.ldc 137, 2) := by decide +kernel
theorem dX8_isLate_8 : decode cX8_isLate 8 = .ok (.if_icmp .ne 25, 3) := by decide +kernel
theorem dX8_isLate_11 : decode cX8_isLate 11 = .ok (.iload_n 2, 1) := by decide +kernel
theorem dX8_isLate_12 : decode cX8_isLate 12 = .ok (.aload_n 0, 1) := by decide +kernel
theorem dX8_isLate_13 : decode cX8_isLate 13 = .ok (.getfield 49, 3) := by decide +kernel
theorem dX8_isLate_16 : decode cX8_isLate 16 = .ok (.bipush 9, 2) := by decide +kernel
theorem dX8_isLate_18 : decode cX8_isLate 18 = .ok (.iload_n 1, 1) := by decide +kernel
theorem dX8_isLate_19 : decode cX8_isLate 19 = .ok (.imul, 1) := by decide +kernel
theorem dX8_isLate_20 : decode cX8_isLate 20 = .ok (.aload_n 0, 1) := by decide +kernel
theorem dX8_isLate_21 : decode cX8_isLate 21 = .ok (.getfield 46, 3) := by decide +kernel
theorem dX8_isLate_24 : decode cX8_isLate 24 = .ok (.iload_n 1, 1) := by decide +kernel
theorem dX8_isLate_25 : decode cX8_isLate 25 = .ok (.iaload, 1) := by decide +kernel
theorem dX8_isLate_26 : decode cX8_isLate 26 = .ok (.iadd, 1) := by decide +kernel
theorem dX8_isLate_27 : decode cX8_isLate 27 = .ok (.iconst 1, 1) := by decide +kernel
theorem dX8_isLate_28 : decode cX8_isLate 28 = .ok (.isub, 1) := by decide +kernel
theorem dX8_isLate_29 : decode cX8_isLate 29 = .ok (.iaload, 1) := by decide +kernel
theorem dX8_isLate_30 : decode cX8_isLate 30 = .ok (.if_icmp .ge 7, 3) := by decide +kernel
theorem dX8_isLate_33 : decode cX8_isLate 33 = .ok (.iconst 1, 1) := by decide +kernel
theorem dX8_isLate_34 : decode cX8_isLate 34 = .ok (.goto 4, 3) := by decide +kernel
theorem dX8_isLate_37 : decode cX8_isLate 37 = .ok (.iconst 0, 1) := by decide +kernel
theorem dX8_isLate_38 : decode cX8_isLate 38 = .ok (.ireturn, 1) := by decide +kernel
set_option maxRecDepth 20000 in
theorem ggX8_change_X8_isUnit : GoodIn wsX8_change wsX8_isUnit := goodIn_r _ [9, 10, 11, 12, 8, 13, 26, 27, 28, 29, 30, 31, 32, 33, 34, 35, 36, 37, 38, 39, 40, 41, 42, 43, 44, 45, 46, 47, 48, 49, 50, 51, 52, 53, 54, 55, 56, 57, 58, 59] (by decide +kernel) (by decide +kernel)
set_option maxRecDepth 20000 in
theorem gX8_change_X8_isUnit : GoodIn wsX8_change (wsV RX8 138 RX8 yX8_isUnit wsX8_isUnit) := goodIn_app (goodIn_of _ (by decide +kernel)) ggX8_change_X8_isUnit
set_option maxRecDepth 20000 in
theorem ggX8_change_X8_isKind : GoodIn wsX8_change wsX8_isKind := goodIn_r _ [16, 11, 12, 8, 13] (by decide +kernel) (by decide +kernel)
set_option maxRecDepth 20000 in
theorem gX8_change_X8_isKind : GoodIn wsX8_change (va_wsS RX8 114 yX8_isKind wsX8_isKind) := goodIn_app (goodIn_of _ (by decide +kernel)) ggX8_change_X8_isKind
set_option maxRecDepth 20000 in
theorem ggX8_change_X8_isDay : GoodIn wsX8_change wsX8_isDay := goodIn_r _ [19, 11, 12, 8, 13] (by decide +kernel) (by decide +kernel)
set_option maxRecDepth 20000 in
theorem gX8_change_X8_isDay : GoodIn wsX8_change (va_wsS RX8 131 yX8_isDay wsX8_isDay) := goodIn_app (goodIn_of _ (by decide +kernel)) ggX8_change_X8_isDay
set_option maxRecDepth 20000 in
theorem ggX8_change_X8_isLate : GoodIn wsX8_change wsX8_isLate := goodIn_r _ [23, 24, 25, 4, 2, 26, 27, 28, 29, 30, 31, 32, 33, 34, 35, 36, 37, 38, 39, 40, 41, 42, 43, 44, 45, 46, 47, 48, 49, 50, 51, 52, 53, 54, 55, 56, 57, 58, 59] (by decide +kernel) (by decide +kernel)
set_option maxRecDepth 20000 in
theorem gX8_change_X8_isLate : GoodIn wsX8_change (wsV RX8 141 RX8 yX8_isLate wsX8_isLate) := goodIn_app (goodIn_of _ (by decide +kernel)) ggX8_change_X8_isLate
theorem dX8_change_0 : decode cX8_change 0 = .ok (.aload_n 0, 1) := by decide +kernel
theorem dX8_change_1 : decode cX8_change 1 = .ok (.aload_n 0, 1) := by decide +kernel
theorem dX8_change_2 : decode cX8_change 2 = .ok (.iload_n 1, 1) := by decide +kernel
theorem dX8_change_3 : decode cX8_change 3 = .ok (.invokevirtual 138, 3) := by decide +kernel
theorem dX8_change_6 : decode cX8_change 6 = .ok (.ifCond .ne 7, 3) := by decide +kernel
theorem dX8_change_9 : decode cX8_change 9 = .ok (.iconst 1, 1) := by decide +kernel
theorem dX8_change_10 : decode cX8_change 10 = .ok (.goto 22, 3) := by decide +kernel
theorem dX8_change_13 : decode cX8_change 13 = .ok (.iload_n 2, 1) := by decide +kernel
theorem dX8_change_14 : decode cX8_change 14 = .ok (.invokestatic 114, 3) := by decide +kernel
theorem dX8_change_17 : decode cX8_change 17 = .ok (.ifCond .eq 10, 3) := by decide +kernel
theorem dX8_change_20 : decode cX8_change 20 = .ok (.iload_n 3, 1) := by decide +kernel
theorem dX8_change_21 : decode cX8_change 21 = .ok (.invokestatic 131, 3) := by decide +kernel
theorem dX8_change_24 : decode cX8_change 24 = .ok (.ifCond .ne 7, 3) := by decide +kernel
theorem dX8_change_27 : decode cX8_change 27 = .ok (.iconst 2, 1) := by decide +kernel
theorem dX8_change_28 : decode cX8_change 28 = .ok (.goto 4, 3) := by decide +kernel
theorem dX8_change_31 : decode cX8_change 31 = .ok (.iconst 0, 1) := by decide +kernel
theorem dX8_change_32 : decode cX8_change 32 = .ok (.putfield 86, 3) := by decide +kernel
theorem dX8_change_35 : decode cX8_change 35 = .ok (.aload_n 0, 1) := by decide +kernel
theorem dX8_change_36 : decode cX8_change 36 = .ok (.getfield 86, 3) := by decide +kernel
theorem dX8_change_39 : decode cX8_change 39 = .ok (.ifCond .ne 36, 3) := by decide +kernel
theorem dX8_change_42 : decode cX8_change 42 = .ok (.aload_n 0, 1) := by decide +kernel
theorem dX8_change_43 : decode cX8_change 43 = .ok (.aload_n 0, 1) := by decide +kernel
theorem dX8_change_44 : decode cX8_change 44 = .ok (.iload_n 1, 1) := by decide +kernel
theorem dX8_change_45 : decode cX8_change 45 = .ok (.iload_n 3, 1) := by decide +kernel
theorem dX8_change_46 : decode cX8_change 46 = .ok (.invokevirtual 141, 3) := by decide +kernel
theorem dX8_change_49 : decode cX8_change 49 = .ok (.ifCond .eq 7, 3) := by decide +kernel
theorem dX8_change_52 : decode cX8_change 52 = .ok (.iconst 3, 1) := by decide +kernel
theorem dX8_change_53 : decode cX8_change 53 = .ok (.goto 19, 3) := by decide +kernel
theorem dX8_change_56 : decode cX8_change 56 = .ok (.aload_n 0, 1) := by decide +kernel
theorem dX8_change_57 : decode cX8_change 57 = .ok (.getfield 46, 3) := by decide +kernel
theorem dX8_change_60 : decode cX8_change 60 = .ok (.iload_n 1, 1) := by decide +kernel
theorem dX8_change_61 : decode cX8_change 61 = .ok (.iaload, 1) := by decide +kernel
theorem dX8_change_62 : decode cX8_change 62 = .ok (.bipush 8, 2) := by decide +kernel
theorem dX8_change_64 : decode cX8_change 64 = .ok (.if_icmp .le 7, 3) := by decide +kernel
theorem dX8_change_67 : decode cX8_change 67 = .ok (.iconst 4, 1) := by decide +kernel
theorem dX8_change_68 : decode cX8_change 68 = .ok (.goto 4, 3) := by decide +kernel
theorem dX8_change_71 : decode cX8_change 71 = .ok (.iconst 0, 1) := by decide +kernel
theorem dX8_change_72 : decode cX8_change 72 = .ok (.putfield 86, 3) := by decide +kernel
theorem dX8_change_75 : decode cX8_change 75 = .ok (.aload_n 0, 1) := by decide +kernel
theorem dX8_change_76 : decode cX8_change 76 = .ok (.getfield 86, 3) := by decide +kernel
theorem dX8_change_79 : decode cX8_change 79 = .ok (.ifCond .le 5, 3) := by decide +kernel
theorem dX8_change_82 : decode cX8_change 82 = .ok (.iconst 0, 1) := by decide +kernel
theorem dX8_change_83 : decode cX8_change 83 = .ok (.ireturn, 1) := by decide +kernel
theorem dX8_change_84 : decode cX8_change 84 = .ok (.aload_n 0, 1) := by decide +kernel
theorem dX8_change_85 : decode cX8_change 85 = .ok (.getfield 52, 3) := by decide +kernel
theorem dX8_change_88 : decode cX8_change 88 = .ok (.bipush 9, 2) := by decide +kernel
theorem dX8_change_90 : decode cX8_change 90 = .ok (.iload_n 1, 1) := by decide +kernel
theorem dX8_change_91 : decode cX8_change 91 = .ok (.imul, 1) := by decide +kernel
theorem dX8_change_92 : decode cX8_change 92 = .ok (.aload_n 0, 1) := by decide +kernel
theorem dX8_change_93 : decode cX8_change 93 = .ok (.getfield 46, 3) := by decide +kernel
theorem dX8_change_96 : decode cX8_change 96 = .ok (.iload_n 1, 1) := by decide +kernel
theorem dX8_change_97 : decode cX8_change 97 = .ok (.iaload, 1) := by decide +kernel
theorem dX8_change_98 : decode cX8_change 98 = .ok (.iadd, 1) := by decide +kernel
theorem dX8_change_99 : decode cX8_change 99 = .ok (.iconst 1, 1) := by decide +kernel
theorem dX8_change_100 : decode cX8_change 100 = .ok (.isub, 1) := by decide +kernel
theorem dX8_change_101 : decode cX8_change 101 = .ok (.iaload, 1) := by decide +kernel
theorem dX8_change_102 : decode cX8_change 102 = .ok (.iload_n 2, 1) := by decide +kernel
theorem dX8_change_103 : decode cX8_change 103 = .ok (.if_icmp .eq 7, 3) := by decide +kernel
theorem dX8_change_106 : decode cX8_change 106 = .ok (.iconst 1, 1) := by decide +kernel
theorem dX8_change_107 : decode cX8_change 107 = .ok (.goto 4, 3) := by decide +kernel
theorem dX8_change_110 : decode cX8_change 110 = .ok (.iconst 0, 1) := by decide +kernel
theorem dX8_change_111 : decode cX8_change 111 = .ok (.istore 4, 2) := by decide +kernel
theorem dX8_change_113 : decode cX8_change 113 = .ok (.aload_n 0, 1) := by decide +kernel
theorem dX8_change_114 : decode cX8_change 114 = .ok (.getfield 49, 3) := by decide +kernel
theorem dX8_change_117 : decode cX8_change 117 = .ok (.bipush 9, 2) := by decide +kernel
theorem dX8_change_119 : decode cX8_change 119 = .ok (.iload_n 1, 1) := by decide +kernel
theorem dX8_change_120 : decode cX8_change 120 = .ok (.imul, 1) := by decide +kernel
theorem dX8_change_121 : decode cX8_change 121 = .ok (.aload_n 0, 1) := by decide +kernel
theorem dX8_change_122 : decode cX8_change 122 = .ok (.getfield 46, 3) := by decide +kernel
theorem dX8_change_125 : decode cX8_change 125 = .ok (.iload_n 1, 1) := by decide +kernel
theorem dX8_change_126 : decode cX8_change 126 = .ok (.iaload, 1) := by decide +kernel
theorem dX8_change_127 : decode cX8_change 127 = .ok (.iadd, 1) := by decide +kernel
theorem dX8_change_128 : decode cX8_change 128 = .ok (.iload_n 3, 1) := by decide +kernel
theorem dX8_change_129 : decode cX8_change 129 = .ok (.iastore, 1) := by decide +kernel
theorem dX8_change_130 : decode cX8_change 130 = .ok (.aload_n 0, 1) := by decide +kernel
theorem dX8_change_131 : decode cX8_change 131 = .ok (.getfield 52, 3) := by decide +kernel
theorem dX8_change_134 : decode cX8_change 134 = .ok (.bipush 9, 2) := by decide +kernel
theorem dX8_change_136 : decode cX8_change 136 = .ok (.iload_n 1, 1) := by decide +kernel
theorem dX8_change_137 : decode cX8_change 137 = .ok (.imul, 1) := by decide +kernel
theorem dX8_change_138 : decode cX8_change 138 = .ok (.aload_n 0, 1) := by decide +kernel
theorem dX8_change_139 : decode cX8_change 139 = .ok (.getfield 46, 3) := by decide +kernel
theorem dX8_change_142 : decode cX8_change 142 = .ok (.iload_n 1, 1) := by decide +kernel
theorem dX8_change_143 : decode cX8_change 143 = .ok (.iaload, 1) := by decide +kernel
theorem dX8_change_144 : decode cX8_change 144 = .ok (.iadd, 1) := by decide +kernel
theorem dX8_change_145 : decode cX8_change 145 = .ok (.iload_n 2, 1) := by decide +kernel
theorem dX8_change_146 : decode cX8_change 146 = .ok (.iastore, 1) := by decide +kernel
theorem dX8_change_147 : decode cX8_change 147 = .ok (.aload_n 0, 1) := by decide +kernel
theorem dX8_change_148 : decode cX8_change 148 = .ok (.getfield 46, 3) := by decide +kernel
theorem dX8_change_151 : decode cX8_change 151 = .ok (.iload_n 1, 1) := by decide +kernel
theorem dX8_change_152 : decode cX8_change 152 = .ok (.dup2, 1) := by decide +kernel
theorem dX8_change_153 : decode cX8_change 153 = .ok (.iaload, 1) := by decide +kernel
theorem dX8_change_154 : decode cX8_change 154 = .ok (.iconst 1, 1) := by decide +kernel
theorem dX8_change_155 : decode cX8_change 155 = .ok (.iadd, 1) := by decide +kernel
theorem dX8_change_156 : decode cX8_change 156 = .ok (.iastore, 1) := by decide +kernel
theorem dX8_change_157 : decode cX8_change 157 = .ok (.iload 4, 2) := by decide +kernel
theorem dX8_change_159 : decode cX8_change 159 = .ok (.ireturn, 1) := by decide +kernel
set_option maxRecDepth 20000 in
theorem ggX8_gone_X8_isUnit : GoodIn wsX8_gone wsX8_isUnit := goodIn_r _ [8, 9, 10, 11, 7, 12, 23, 24, 25, 26, 27, 28, 29, 30, 31, 32, 33, 34, 35, 36, 37, 38, 39, 40, 41, 42, 43, 44, 45, 46, 47, 48, 49, 50, 51, 52, 53, 54, 55, 56] (by decide +kernel) (by decide +kernel)
set_option maxRecDepth 20000 in
theorem gX8_gone_X8_isUnit : GoodIn wsX8_gone (wsV RX8 138 RX8 yX8_isUnit wsX8_isUnit) := goodIn_app (goodIn_of _ (by decide +kernel)) ggX8_gone_X8_isUnit
set_option maxRecDepth 20000 in
theorem ggX8_gone_X8_isDay : GoodIn wsX8_gone wsX8_isDay := goodIn_r _ [15, 10, 11, 7, 12] (by decide +kernel) (by decide +kernel)
set_option maxRecDepth 20000 in
theorem gX8_gone_X8_isDay : GoodIn wsX8_gone (va_wsS RX8 131 yX8_isDay wsX8_isDay) := goodIn_app (goodIn_of _ (by decide +kernel)) ggX8_gone_X8_isDay
set_option maxRecDepth 20000 in
theorem ggX8_gone_X8_isLate : GoodIn wsX8_gone wsX8_isLate := goodIn_r _ [19, 2, 20, 21, 22, 23, 24, 25, 26, 27, 28, 29, 30, 31, 32, 33, 34, 35, 36, 37, 38, 39, 40, 41, 42, 43, 44, 45, 46, 47, 48, 49, 50, 51, 52, 53, 54, 55, 56] (by decide +kernel) (by decide +kernel)
set_option maxRecDepth 20000 in
theorem gX8_gone_X8_isLate : GoodIn wsX8_gone (wsV RX8 141 RX8 yX8_isLate wsX8_isLate) := goodIn_app (goodIn_of _ (by decide +kernel)) ggX8_gone_X8_isLate
theorem dX8_gone_0 : decode cX8_gone 0 = .ok (.aload_n 0, 1) := by decide +kernel
theorem dX8_gone_1 : decode cX8_gone 1 = .ok (.aload_n 0, 1) := by decide +kernel
theorem dX8_gone_2 : decode cX8_gone 2 = .ok (.iload_n 1, 1) := by decide +kernel
theorem dX8_gone_3 : decode cX8_gone 3 = .ok (.invokevirtual 138, 3) := by decide +kernel
theorem dX8_gone_6 : decode cX8_gone 6 = .ok (.ifCond .ne 7, 3) := by decide +kernel
theorem dX8_gone_9 : decode cX8_gone 9 = .ok (.iconst 1, 1) := by decide +kernel
theorem dX8_gone_10 : decode cX8_gone 10 = .ok (.goto 15, 3) := by decide +kernel
theorem dX8_gone_13 : decode cX8_gone 13 = .ok (.iload_n 2, 1) := by decide +kernel
theorem dX8_gone_14 : decode cX8_gone 14 = .ok (.invokestatic 131, 3) := by decide +kernel
theorem dX8_gone_17 : decode cX8_gone 17 = .ok (.ifCond .ne 7, 3) := by decide +kernel
theorem dX8_gone_20 : decode cX8_gone 20 = .ok (.iconst 2, 1) := by decide +kernel
theorem dX8_gone_21 : decode cX8_gone 21 = .ok (.goto 4, 3) := by decide +kernel
theorem dX8_gone_24 : decode cX8_gone 24 = .ok (.iconst 0, 1) := by decide +kernel
theorem dX8_gone_25 : decode cX8_gone 25 = .ok (.putfield 86, 3) := by decide +kernel
theorem dX8_gone_28 : decode cX8_gone 28 = .ok (.aload_n 0, 1) := by decide +kernel
theorem dX8_gone_29 : decode cX8_gone 29 = .ok (.getfield 86, 3) := by decide +kernel
theorem dX8_gone_32 : decode cX8_gone 32 = .ok (.ifCond .ne 21, 3) := by decide +kernel
theorem dX8_gone_35 : decode cX8_gone 35 = .ok (.aload_n 0, 1) := by decide +kernel
theorem dX8_gone_36 : decode cX8_gone 36 = .ok (.aload_n 0, 1) := by decide +kernel
theorem dX8_gone_37 : decode cX8_gone 37 = .ok (.iload_n 1, 1) := by decide +kernel
theorem dX8_gone_38 : decode cX8_gone 38 = .ok (.iload_n 2, 1) := by decide +kernel
theorem dX8_gone_39 : decode cX8_gone 39 = .ok (.invokevirtual 141, 3) := by decide +kernel
theorem dX8_gone_42 : decode cX8_gone 42 = .ok (.ifCond .eq 7, 3) := by decide +kernel
theorem dX8_gone_45 : decode cX8_gone 45 = .ok (.iconst 3, 1) := by decide +kernel
theorem dX8_gone_46 : decode cX8_gone 46 = .ok (.goto 4, 3) := by decide +kernel
theorem dX8_gone_49 : decode cX8_gone 49 = .ok (.iconst 0, 1) := by decide +kernel
theorem dX8_gone_50 : decode cX8_gone 50 = .ok (.putfield 86, 3) := by decide +kernel
theorem dX8_gone_53 : decode cX8_gone 53 = .ok (.aload_n 0, 1) := by decide +kernel
theorem dX8_gone_54 : decode cX8_gone 54 = .ok (.getfield 86, 3) := by decide +kernel
theorem dX8_gone_57 : decode cX8_gone 57 = .ok (.ifCond .le 5, 3) := by decide +kernel
theorem dX8_gone_60 : decode cX8_gone 60 = .ok (.iconst 0, 1) := by decide +kernel
theorem dX8_gone_61 : decode cX8_gone 61 = .ok (.ireturn, 1) := by decide +kernel
theorem dX8_gone_62 : decode cX8_gone 62 = .ok (.aload_n 0, 1) := by decide +kernel
theorem dX8_gone_63 : decode cX8_gone 63 = .ok (.getfield 43, 3) := by decide +kernel
theorem dX8_gone_66 : decode cX8_gone 66 = .ok (.iload_n 1, 1) := by decide +kernel
theorem dX8_gone_67 : decode cX8_gone 67 = .ok (.iload_n 2, 1) := by decide +kernel
theorem dX8_gone_68 : decode cX8_gone 68 = .ok (.iastore, 1) := by decide +kernel
theorem dX8_gone_69 : decode cX8_gone 69 = .ok (.iload_n 2, 1) := by decide +kernel
theorem dX8_gone_70 : decode cX8_gone 70 = .ok (.aload_n 0, 1) := by decide +kernel
theorem dX8_gone_71 : decode cX8_gone 71 = .ok (.getfield 40, 3) := by decide +kernel
theorem dX8_gone_74 : decode cX8_gone 74 = .ok (.iload_n 1, 1) := by decide +kernel
theorem dX8_gone_75 : decode cX8_gone 75 = .ok (.iaload, 1) := by decide +kernel
theorem dX8_gone_76 : decode cX8_gone 76 = .ok (.isub, 1) := by decide +kernel
theorem dX8_gone_77 : decode cX8_gone 77 = .ok (.iconst 1, 1) := by decide +kernel
theorem dX8_gone_78 : decode cX8_gone 78 = .ok (.iadd, 1) := by decide +kernel
theorem dX8_gone_79 : decode cX8_gone 79 = .ok (.ireturn, 1) := by decide +kernel
set_option maxRecDepth 20000 in
theorem ggX8_move_X8_isOwner : GoodIn wsX8_move wsX8_isOwner := goodIn_r _ [10, 11, 12, 9, 13] (by decide +kernel) (by decide +kernel)
set_option maxRecDepth 20000 in
theorem gX8_move_X8_isOwner : GoodIn wsX8_move (va_wsS RX8 110 yX8_isOwner wsX8_isOwner) := goodIn_app (goodIn_of _ (by decide +kernel)) ggX8_move_X8_isOwner
set_option maxRecDepth 20000 in
theorem ggX8_move_X8_isKind : GoodIn wsX8_move wsX8_isKind := goodIn_r _ [16, 11, 12, 9, 13] (by decide +kernel) (by decide +kernel)
set_option maxRecDepth 20000 in
theorem gX8_move_X8_isKind : GoodIn wsX8_move (va_wsS RX8 114 yX8_isKind wsX8_isKind) := goodIn_app (goodIn_of _ (by decide +kernel)) ggX8_move_X8_isKind
set_option maxRecDepth 20000 in
theorem ggX8_move_X8_isDay : GoodIn wsX8_move wsX8_isDay := goodIn_r _ [19, 11, 12, 9, 13] (by decide +kernel) (by decide +kernel)
set_option maxRecDepth 20000 in
theorem gX8_move_X8_isDay : GoodIn wsX8_move (va_wsS RX8 131 yX8_isDay wsX8_isDay) := goodIn_app (goodIn_of _ (by decide +kernel)) ggX8_move_X8_isDay
set_option maxRecDepth 20000 in
theorem ggX8_move_X8_in : GoodIn wsX8_move wsX8_in := goodIn_r _ [13] (by decide +kernel) (by decide +kernel)
set_option maxRecDepth 20000 in
theorem gX8_move_X8_in : GoodIn wsX8_move (va_wsS RX8 90 yX8_in wsX8_in) := goodIn_app (goodIn_of _ (by decide +kernel)) ggX8_move_X8_in
theorem dX8_move_0 : decode cX8_move 0 = .ok (.aload_n 0, 1) := by decide +kernel
theorem dX8_move_1 : decode cX8_move 1 = .ok (.iload_n 1, 1) := by decide +kernel
theorem dX8_move_2 : decode cX8_move 2 = .ok (.invokestatic 110, 3) := by decide +kernel
theorem dX8_move_5 : decode cX8_move 5 = .ok (.ifCond .eq 28, 3) := by decide +kernel
theorem dX8_move_8 : decode cX8_move 8 = .ok (.iload_n 2, 1) := by decide +kernel
theorem dX8_move_9 : decode cX8_move 9 = .ok (.invokestatic 114, 3) := by decide +kernel
theorem dX8_move_12 : decode cX8_move 12 = .ok (.ifCond .eq 21, 3) := by decide +kernel
theorem dX8_move_15 : decode cX8_move 15 = .ok (.iload_n 3, 1) := by decide +kernel
theorem dX8_move_16 : decode cX8_move 16 = .ok (.invokestatic 131, 3) := by decide +kernel
theorem dX8_move_19 : decode cX8_move 19 = .ok (.ifCond .eq 14, 3) := by decide +kernel
theorem dX8_move_22 : decode cX8_move 22 = .ok (.iload 4, 2) := by decide +kernel
theorem dX8_move_24 : decode cX8_move 24 = .ok (.iconst 1, 1) := by decide +kernel
theorem dX8_move_25 : decode cX8_move 25 = .ok (.bipush 100, 2) := by decide +kernel
theorem dX8_move_27 : decode cX8_move 27 = .ok (.invokestatic 90, 3) := by decide +kernel
theorem dX8_move_30 : decode cX8_move 30 = .ok (.ifCond .ne 7, 3) := by decide +kernel
theorem dX8_move_33 : decode cX8_move 33 = .ok (.iconst 1, 1) := by decide +kernel
theorem dX8_move_34 : decode cX8_move 34 = .ok (.goto 17, 3) := by decide +kernel
theorem dX8_move_37 : decode cX8_move 37 = .ok (.aload_n 0, 1) := by decide +kernel
theorem dX8_move_38 : decode cX8_move 38 = .ok (.getfield 145, 3) := by decide +kernel
theorem dX8_move_41 : decode cX8_move 41 = .ok (.bipush 60, 2) := by decide +kernel
theorem dX8_move_43 : decode cX8_move 43 = .ok (.if_icmp .ne 7, 3) := by decide +kernel
theorem dX8_move_46 : decode cX8_move 46 = .ok (.iconst 2, 1) := by decide +kernel
theorem dX8_move_47 : decode cX8_move 47 = .ok (.goto 4, 3) := by decide +kernel
theorem dX8_move_50 : decode cX8_move 50 = .ok (.iconst 0, 1) := by decide +kernel
theorem dX8_move_51 : decode cX8_move 51 = .ok (.putfield 86, 3) := by decide +kernel
theorem dX8_move_54 : decode cX8_move 54 = .ok (.aload_n 0, 1) := by decide +kernel
theorem dX8_move_55 : decode cX8_move 55 = .ok (.getfield 86, 3) := by decide +kernel
theorem dX8_move_58 : decode cX8_move 58 = .ok (.ifCond .le 5, 3) := by decide +kernel
theorem dX8_move_61 : decode cX8_move 61 = .ok (.iconst 0, 1) := by decide +kernel
theorem dX8_move_62 : decode cX8_move 62 = .ok (.ireturn, 1) := by decide +kernel
theorem dX8_move_63 : decode cX8_move 63 = .ok (.aload_n 0, 1) := by decide +kernel
theorem dX8_move_64 : decode cX8_move 64 = .ok (.getfield 55, 3) := by decide +kernel
theorem dX8_move_67 : decode cX8_move 67 = .ok (.aload_n 0, 1) := by decide +kernel
theorem dX8_move_68 : decode cX8_move 68 = .ok (.getfield 145, 3) := by decide +kernel
theorem dX8_move_71 : decode cX8_move 71 = .ok (.iload_n 1, 1) := by decide +kernel
theorem dX8_move_72 : decode cX8_move 72 = .ok (.iastore, 1) := by decide +kernel
theorem dX8_move_73 : decode cX8_move 73 = .ok (.aload_n 0, 1) := by decide +kernel
theorem dX8_move_74 : decode cX8_move 74 = .ok (.getfield 58, 3) := by decide +kernel
theorem dX8_move_77 : decode cX8_move 77 = .ok (.aload_n 0, 1) := by decide +kernel
theorem dX8_move_78 : decode cX8_move 78 = .ok (.getfield 145, 3) := by decide +kernel
theorem dX8_move_81 : decode cX8_move 81 = .ok (.iload_n 2, 1) := by decide +kernel
theorem dX8_move_82 : decode cX8_move 82 = .ok (.iastore, 1) := by decide +kernel
theorem dX8_move_83 : decode cX8_move 83 = .ok (.aload_n 0, 1) := by decide +kernel
theorem dX8_move_84 : decode cX8_move 84 = .ok (.getfield 61, 3) := by decide +kernel
theorem dX8_move_87 : decode cX8_move 87 = .ok (.aload_n 0, 1) := by decide +kernel
theorem dX8_move_88 : decode cX8_move 88 = .ok (.getfield 145, 3) := by decide +kernel
theorem dX8_move_91 : decode cX8_move 91 = .ok (.iload_n 3, 1) := by decide +kernel
theorem dX8_move_92 : decode cX8_move 92 = .ok (.iastore, 1) := by decide +kernel
theorem dX8_move_93 : decode cX8_move 93 = .ok (.aload_n 0, 1) := by decide +kernel
theorem dX8_move_94 : decode cX8_move 94 = .ok (.getfield 64, 3) := by decide +kernel
theorem dX8_move_97 : decode cX8_move 97 = .ok (.aload_n 0, 1) := by decide +kernel
theorem dX8_move_98 : decode cX8_move 98 = .ok (.getfield 145, 3) := by decide +kernel
theorem dX8_move_101 : decode cX8_move 101 = .ok (.iload 4, 2) := by decide +kernel
theorem dX8_move_103 : decode cX8_move 103 = .ok (.iastore, 1) := by decide +kernel
theorem dX8_move_104 : decode cX8_move 104 = .ok (.aload_n 0, 1) := by decide +kernel
theorem dX8_move_105 : decode cX8_move 105 = .ok (.dup, 1) := by decide +kernel
theorem dX8_move_106 : decode cX8_move 106 = .ok (.getfield 145, 3) := by decide +kernel
theorem dX8_move_109 : decode cX8_move 109 = .ok (.iconst 1, 1) := by decide +kernel
theorem dX8_move_110 : decode cX8_move 110 = .ok (.iadd, 1) := by decide +kernel
theorem dX8_move_111 : decode cX8_move 111 = .ok (.putfield 145, 3) := by decide +kernel
theorem dX8_move_114 : decode cX8_move 114 = .ok (.iconst 0, 1) := by decide +kernel
theorem dX8_move_115 : decode cX8_move 115 = .ok (.istore 5, 2) := by decide +kernel
theorem dX8_move_117 : decode cX8_move 117 = .ok (.iconst 0, 1) := by decide +kernel
theorem dX8_move_118 : decode cX8_move 118 = .ok (.istore 6, 2) := by decide +kernel
theorem dX8_move_120 : decode cX8_move 120 = .ok (.iload 6, 2) := by decide +kernel
theorem dX8_move_122 : decode cX8_move 122 = .ok (.aload_n 0, 1) := by decide +kernel
theorem dX8_move_123 : decode cX8_move 123 = .ok (.getfield 145, 3) := by decide +kernel
theorem dX8_move_126 : decode cX8_move 126 = .ok (.if_icmp .ge 30, 3) := by decide +kernel
theorem dX8_move_129 : decode cX8_move 129 = .ok (.iload 5, 2) := by decide +kernel
theorem dX8_move_131 : decode cX8_move 131 = .ok (.aload_n 0, 1) := by decide +kernel
theorem dX8_move_132 : decode cX8_move 132 = .ok (.getfield 55, 3) := by decide +kernel
theorem dX8_move_135 : decode cX8_move 135 = .ok (.iload 6, 2) := by decide +kernel
theorem dX8_move_137 : decode cX8_move 137 = .ok (.iaload, 1) := by decide +kernel
theorem dX8_move_138 : decode cX8_move 138 = .ok (.iload_n 1, 1) := by decide +kernel
theorem dX8_move_139 : decode cX8_move 139 = .ok (.if_icmp .ne 7, 3) := by decide +kernel
theorem dX8_move_142 : decode cX8_move 142 = .ok (.iconst 1, 1) := by decide +kernel
theorem dX8_move_143 : decode cX8_move 143 = .ok (.goto 4, 3) := by decide +kernel
theorem dX8_move_146 : decode cX8_move 146 = .ok (.iconst 0, 1) := by decide +kernel
theorem dX8_move_147 : decode cX8_move 147 = .ok (.iadd, 1) := by decide +kernel
theorem dX8_move_148 : decode cX8_move 148 = .ok (.istore 5, 2) := by decide +kernel
theorem dX8_move_150 : decode cX8_move 150 = .ok (.iinc 6 1, 3) := by decide +kernel
theorem dX8_move_153 : decode cX8_move 153 = .ok (.goto (-33), 3) := by decide +kernel
theorem dX8_move_156 : decode cX8_move 156 = .ok (.iload 5, 2) := by decide +kernel
theorem dX8_move_158 : decode cX8_move 158 = .ok (.ireturn, 1) := by decide +kernel
theorem dX8_kindOn_0 : decode cX8_kindOn 0 = .ok (.iconst (-1), 1) := by decide +kernel
theorem dX8_kindOn_1 : decode cX8_kindOn 1 = .ok (.istore_n 3, 1) := by decide +kernel
theorem dX8_kindOn_2 : decode cX8_kindOn 2 = .ok (.iconst 0, 1) := by decide +kernel
theorem dX8_kindOn_3 : decode cX8_kindOn 3 = .ok (.istore 4, 2) := by decide +kernel
theorem dX8_kindOn_5 : decode cX8_kindOn 5 = .ok (.iload 4, 2) := by decide +kernel
theorem dX8_kindOn_7 : decode cX8_kindOn 7 = .ok (.aload_n 0, 1) := by decide +kernel
theorem dX8_kindOn_8 : decode cX8_kindOn 8 = .ok (.getfield 46, 3) := by decide +kernel
theorem dX8_kindOn_11 : decode cX8_kindOn 11 = .ok (.iload_n 1, 1) := by decide +kernel
theorem dX8_kindOn_12 : decode cX8_kindOn 12 = .ok (.iaload, 1) := by decide +kernel
theorem dX8_kindOn_13 : decode cX8_kindOn 13 = .ok (.if_icmp .ge 86, 3) := by decide +kernel
theorem dX8_kindOn_16 : decode cX8_kindOn 16 = .ok (.aload_n 0, 1) := by decide +kernel
theorem dX8_kindOn_17 : decode cX8_kindOn 17 = .ok (.getfield 49, 3) := by decide +kernel
theorem dX8_kindOn_20 : decode cX8_kindOn 20 = .ok (.bipush 9, 2) := by decide +kernel
theorem dX8_kindOn_22 : decode cX8_kindOn 22 = .ok (.iload_n 1, 1) := by decide +kernel
theorem dX8_kindOn_23 : decode cX8_kindOn 23 = .ok (.imul, 1) := by decide +kernel
theorem dX8_kindOn_24 : decode cX8_kindOn 24 = .ok (.iload 4, 2) := by decide +kernel
theorem dX8_kindOn_26 : decode cX8_kindOn 26 = .ok (.iadd, 1) := by decide +kernel
theorem dX8_kindOn_27 : decode cX8_kindOn 27 = .ok (.iaload, 1) := by decide +kernel
theorem dX8_kindOn_28 : decode cX8_kindOn 28 = .ok (.iload_n 2, 1) := by decide +kernel
theorem dX8_kindOn_29 : decode cX8_kindOn 29 = .ok (.if_icmp .ge 19, 3) := by decide +kernel
theorem dX8_kindOn_32 : decode cX8_kindOn 32 = .ok (.aload_n 0, 1) := by decide +kernel
theorem dX8_kindOn_33 : decode cX8_kindOn 33 = .ok (.getfield 52, 3) := by decide +kernel
theorem dX8_kindOn_36 : decode cX8_kindOn 36 = .ok (.bipush 9, 2) := by decide +kernel
theorem dX8_kindOn_38 : decode cX8_kindOn 38 = .ok (.iload_n 1, 1) := by decide +kernel
theorem dX8_kindOn_39 : decode cX8_kindOn 39 = .ok (.imul, 1) := by decide +kernel
theorem dX8_kindOn_40 : decode cX8_kindOn 40 = .ok (.iload 4, 2) := by decide +kernel
theorem dX8_kindOn_42 : decode cX8_kindOn 42 = .ok (.iadd, 1) := by decide +kernel
theorem dX8_kindOn_43 : decode cX8_kindOn 43 = .ok (.iaload, 1) := by decide +kernel
theorem dX8_kindOn_44 : decode cX8_kindOn 44 = .ok (.istore_n 3, 1) := by decide +kernel
theorem dX8_kindOn_45 : decode cX8_kindOn 45 = .ok (.goto 48, 3) := by decide +kernel
theorem dX8_kindOn_48 : decode cX8_kindOn 48 = .ok (.aload_n 0, 1) := by decide +kernel
theorem dX8_kindOn_49 : decode cX8_kindOn 49 = .ok (.getfield 49, 3) := by decide +kernel
theorem dX8_kindOn_52 : decode cX8_kindOn 52 = .ok (.bipush 9, 2) := by decide +kernel
theorem dX8_kindOn_54 : decode cX8_kindOn 54 = .ok (.iload_n 1, 1) := by decide +kernel
theorem dX8_kindOn_55 : decode cX8_kindOn 55 = .ok (.imul, 1) := by decide +kernel
theorem dX8_kindOn_56 : decode cX8_kindOn 56 = .ok (.iload 4, 2) := by decide +kernel
theorem dX8_kindOn_58 : decode cX8_kindOn 58 = .ok (.iadd, 1) := by decide +kernel
theorem dX8_kindOn_59 : decode cX8_kindOn 59 = .ok (.iaload, 1) := by decide +kernel
theorem dX8_kindOn_60 : decode cX8_kindOn 60 = .ok (.iload_n 2, 1) := by decide +kernel
theorem dX8_kindOn_61 : decode cX8_kindOn 61 = .ok (.if_icmp .ne 32, 3) := by decide +kernel
theorem dX8_kindOn_64 : decode cX8_kindOn 64 = .ok (.aload_n 0, 1) := by decide +kernel
theorem dX8_kindOn_65 : decode cX8_kindOn 65 = .ok (.getfield 52, 3) := by decide +kernel
theorem dX8_kindOn_68 : decode cX8_kindOn 68 = .ok (.bipush 9, 2) := by decide +kernel
theorem dX8_kindOn_70 : decode cX8_kindOn 70 = .ok (.iload_n 1, 1) := by decide +kernel
theorem dX8_kindOn_71 : decode cX8_kindOn 71 = .ok (.imul, 1) := by decide +kernel
theorem dX8_kindOn_72 : decode cX8_kindOn 72 = .ok (.iload 4, 2) := by decide +kernel
theorem dX8_kindOn_74 : decode cX8_kindOn 74 = .ok (.iadd, 1) := by decide +kernel
theorem dX8_kindOn_75 : decode cX8_kindOn 75 = .ok (.iaload, 1) := by decide +kernel
theorem dX8_kindOn_76 : decode cX8_kindOn 76 = .ok (.iload_n 3, 1) := by decide +kernel
theorem dX8_kindOn_77 : decode cX8_kindOn 77 = .ok (.if_icmp .le 16, 3) := by decide +kernel
theorem dX8_kindOn_80 : decode cX8_kindOn 80 = .ok (.aload_n 0, 1) := by decide +kernel
theorem dX8_kindOn_81 : decode cX8_kindOn 81 = .ok (.getfield 52, 3) := by decide +kernel
theorem dX8_kindOn_84 : decode cX8_kindOn 84 = .ok (.bipush 9, 2) := by decide +kernel
theorem dX8_kindOn_86 : decode cX8_kindOn 86 = .ok (.iload_n 1, 1) := by decide +kernel
theorem dX8_kindOn_87 : decode cX8_kindOn 87 = .ok (.imul, 1) := by decide +kernel
theorem dX8_kindOn_88 : decode cX8_kindOn 88 = .ok (.iload 4, 2) := by decide +kernel
theorem dX8_kindOn_90 : decode cX8_kindOn 90 = .ok (.iadd, 1) := by decide +kernel
theorem dX8_kindOn_91 : decode cX8_kindOn 91 = .ok (.iaload, 1) := by decide +kernel
theorem dX8_kindOn_92 : decode cX8_kindOn 92 = .ok (.istore_n 3, 1) := by decide +kernel
theorem dX8_kindOn_93 : decode cX8_kindOn 93 = .ok (.iinc 4 1, 3) := by decide +kernel
theorem dX8_kindOn_96 : decode cX8_kindOn 96 = .ok (.goto (-91), 3) := by decide +kernel
theorem dX8_kindOn_99 : decode cX8_kindOn 99 = .ok (.iload_n 3, 1) := by decide +kernel
theorem dX8_kindOn_100 : decode cX8_kindOn 100 = .ok (.ireturn, 1) := by decide +kernel
set_option maxRecDepth 20000 in
theorem ggX8_unitDays_X8_in : GoodIn wsX8_unitDays wsX8_in := goodIn_r _ [8] (by decide +kernel) (by decide +kernel)
set_option maxRecDepth 20000 in
theorem gX8_unitDays_X8_in : GoodIn wsX8_unitDays (va_wsS RX8 90 yX8_in wsX8_in) := goodIn_app (goodIn_of _ (by decide +kernel)) ggX8_unitDays_X8_in
theorem dX8_unitDays_0 : decode cX8_unitDays 0 = .ok (.iconst 0, 1) := by decide +kernel
theorem dX8_unitDays_1 : decode cX8_unitDays 1 = .ok (.istore_n 3, 1) := by decide +kernel
theorem dX8_unitDays_2 : decode cX8_unitDays 2 = .ok (.iconst 0, 1) := by decide +kernel
theorem dX8_unitDays_3 : decode cX8_unitDays 3 = .ok (.istore 4, 2) := by decide +kernel
theorem dX8_unitDays_5 : decode cX8_unitDays 5 = .ok (.iload 4, 2) := by decide +kernel
theorem dX8_unitDays_7 : decode cX8_unitDays 7 = .ok (.aload_n 0, 1) := by decide +kernel
theorem dX8_unitDays_8 : decode cX8_unitDays 8 = .ok (.getfield 134, 3) := by decide +kernel
theorem dX8_unitDays_11 : decode cX8_unitDays 11 = .ok (.if_icmp .ge 74, 3) := by decide +kernel
theorem dX8_unitDays_14 : decode cX8_unitDays 14 = .ok (.bipush 30, 2) := by decide +kernel
theorem dX8_unitDays_16 : decode cX8_unitDays 16 = .ok (.iload_n 2, 1) := by decide +kernel
theorem dX8_unitDays_17 : decode cX8_unitDays 17 = .ok (.imul, 1) := by decide +kernel
theorem dX8_unitDays_18 : decode cX8_unitDays 18 = .ok (.istore 5, 2) := by decide +kernel
theorem dX8_unitDays_20 : decode cX8_unitDays 20 = .ok (.iload 5, 2) := by decide +kernel
theorem dX8_unitDays_22 : decode cX8_unitDays 22 = .ok (.bipush 30, 2) := by decide +kernel
theorem dX8_unitDays_24 : decode cX8_unitDays 24 = .ok (.iload_n 2, 1) := by decide +kernel
theorem dX8_unitDays_25 : decode cX8_unitDays 25 = .ok (.imul, 1) := by decide +kernel
theorem dX8_unitDays_26 : decode cX8_unitDays 26 = .ok (.bipush 30, 2) := by decide +kernel
theorem dX8_unitDays_28 : decode cX8_unitDays 28 = .ok (.iadd, 1) := by decide +kernel
theorem dX8_unitDays_29 : decode cX8_unitDays 29 = .ok (.if_icmp .ge 50, 3) := by decide +kernel
theorem dX8_unitDays_32 : decode cX8_unitDays 32 = .ok (.iload_n 3, 1) := by decide +kernel
theorem dX8_unitDays_33 : decode cX8_unitDays 33 = .ok (.aload_n 0, 1) := by decide +kernel
theorem dX8_unitDays_34 : decode cX8_unitDays 34 = .ok (.getfield 37, 3) := by decide +kernel
theorem dX8_unitDays_37 : decode cX8_unitDays 37 = .ok (.iload 4, 2) := by decide +kernel
theorem dX8_unitDays_39 : decode cX8_unitDays 39 = .ok (.iaload, 1) := by decide +kernel
theorem dX8_unitDays_40 : decode cX8_unitDays 40 = .ok (.iload_n 1, 1) := by decide +kernel
theorem dX8_unitDays_41 : decode cX8_unitDays 41 = .ok (.if_icmp .ne 29, 3) := by decide +kernel
theorem dX8_unitDays_44 : decode cX8_unitDays 44 = .ok (.iload 5, 2) := by decide +kernel
theorem dX8_unitDays_46 : decode cX8_unitDays 46 = .ok (.aload_n 0, 1) := by decide +kernel
theorem dX8_unitDays_47 : decode cX8_unitDays 47 = .ok (.getfield 40, 3) := by decide +kernel
theorem dX8_unitDays_50 : decode cX8_unitDays 50 = .ok (.iload 4, 2) := by decide +kernel
theorem dX8_unitDays_52 : decode cX8_unitDays 52 = .ok (.iaload, 1) := by decide +kernel
theorem dX8_unitDays_53 : decode cX8_unitDays 53 = .ok (.aload_n 0, 1) := by decide +kernel
theorem dX8_unitDays_54 : decode cX8_unitDays 54 = .ok (.getfield 43, 3) := by decide +kernel
theorem dX8_unitDays_57 : decode cX8_unitDays 57 = .ok (.iload 4, 2) := by decide +kernel
theorem dX8_unitDays_59 : decode cX8_unitDays 59 = .ok (.iaload, 1) := by decide +kernel
theorem dX8_unitDays_60 : decode cX8_unitDays 60 = .ok (.invokestatic 90, 3) := by decide +kernel
theorem dX8_unitDays_63 : decode cX8_unitDays 63 = .ok (.ifCond .eq 7, 3) := by decide +kernel
theorem dX8_unitDays_66 : decode cX8_unitDays 66 = .ok (.iconst 1, 1) := by decide +kernel
theorem dX8_unitDays_67 : decode cX8_unitDays 67 = .ok (.goto 4, 3) := by decide +kernel
theorem dX8_unitDays_70 : decode cX8_unitDays 70 = .ok (.iconst 0, 1) := by decide +kernel
theorem dX8_unitDays_71 : decode cX8_unitDays 71 = .ok (.iadd, 1) := by decide +kernel
theorem dX8_unitDays_72 : decode cX8_unitDays 72 = .ok (.istore_n 3, 1) := by decide +kernel
theorem dX8_unitDays_73 : decode cX8_unitDays 73 = .ok (.iinc 5 1, 3) := by decide +kernel
theorem dX8_unitDays_76 : decode cX8_unitDays 76 = .ok (.goto (-56), 3) := by decide +kernel
theorem dX8_unitDays_79 : decode cX8_unitDays 79 = .ok (.iinc 4 1, 3) := by decide +kernel
theorem dX8_unitDays_82 : decode cX8_unitDays 82 = .ok (.goto (-77), 3) := by decide +kernel
theorem dX8_unitDays_85 : decode cX8_unitDays 85 = .ok (.iload_n 3, 1) := by decide +kernel
theorem dX8_unitDays_86 : decode cX8_unitDays 86 = .ok (.ireturn, 1) := by decide +kernel
set_option maxRecDepth 20000 in
theorem ggX8_storage_X8_in : GoodIn wsX8_storage wsX8_in := goodIn_r _ [13] (by decide +kernel) (by decide +kernel)
set_option maxRecDepth 20000 in
theorem gX8_storage_X8_in : GoodIn wsX8_storage (va_wsS RX8 90 yX8_in wsX8_in) := goodIn_app (goodIn_of _ (by decide +kernel)) ggX8_storage_X8_in
set_option maxRecDepth 20000 in
theorem ggX8_storage_X8_kindOn : GoodIn wsX8_storage wsX8_kindOn := goodIn_r _ [17, 18, 19, 20, 33, 34, 35, 36, 37, 38, 39, 40, 41, 42, 43, 44, 45, 46, 47, 48, 49, 50, 51, 52, 53, 54, 55, 56, 57, 58, 59, 60, 61, 62, 63, 64, 65, 66] (by decide +kernel) (by decide +kernel)
set_option maxRecDepth 20000 in
theorem gX8_storage_X8_kindOn : GoodIn wsX8_storage (wsV RX8 148 RX8 yX8_kindOn wsX8_kindOn) := goodIn_app (goodIn_of _ (by decide +kernel)) ggX8_storage_X8_kindOn
set_option maxRecDepth 20000 in
theorem ggX8_storage_X8_cents : GoodIn wsX8_storage wsX8_cents := goodIn_r _ [24, 25, 26, 27, 12, 28, 5, 6, 7, 8, 9, 33, 34, 35, 36, 37, 38, 39, 40, 41, 42, 43, 44, 45, 46, 47, 48, 49, 50, 51, 52, 53, 54, 55, 56, 57, 58, 59, 60, 61, 62, 63, 64, 65, 66] (by decide +kernel) (by decide +kernel)
set_option maxRecDepth 20000 in
theorem gX8_storage_X8_cents : GoodIn wsX8_storage (wsV RX8 152 RX8 yX8_cents wsX8_cents) := goodIn_app (goodIn_of _ (by decide +kernel)) ggX8_storage_X8_cents
set_option maxRecDepth 20000 in
theorem ggX8_storage_X8_unitDays : GoodIn wsX8_storage wsX8_unitDays := goodIn_r _ [32, 1, 2, 3, 4, 10, 11, 12, 13, 33, 34, 35, 36, 37, 38, 39, 40, 41, 42, 43, 44, 45, 46, 47, 48, 49, 50, 51, 52, 53, 54, 55, 56, 57, 58, 59, 60, 61, 62, 63, 64, 65, 66] (by decide +kernel) (by decide +kernel)
set_option maxRecDepth 20000 in
theorem gX8_storage_X8_unitDays : GoodIn wsX8_storage (wsV RX8 155 RX8 yX8_unitDays wsX8_unitDays) := goodIn_app (goodIn_of _ (by decide +kernel)) ggX8_storage_X8_unitDays
theorem dX8_storage_0 : decode cX8_storage 0 = .ok (.iconst 0, 1) := by decide +kernel
theorem dX8_storage_1 : decode cX8_storage 1 = .ok (.istore 4, 2) := by decide +kernel
theorem dX8_storage_3 : decode cX8_storage 3 = .ok (.iconst 0, 1) := by decide +kernel
theorem dX8_storage_4 : decode cX8_storage 4 = .ok (.istore 5, 2) := by decide +kernel
theorem dX8_storage_6 : decode cX8_storage 6 = .ok (.iload 5, 2) := by decide +kernel
theorem dX8_storage_8 : decode cX8_storage 8 = .ok (.aload_n 0, 1) := by decide +kernel
theorem dX8_storage_9 : decode cX8_storage 9 = .ok (.getfield 134, 3) := by decide +kernel
theorem dX8_storage_12 : decode cX8_storage 12 = .ok (.if_icmp .ge 90, 3) := by decide +kernel
theorem dX8_storage_15 : decode cX8_storage 15 = .ok (.bipush 30, 2) := by decide +kernel
theorem dX8_storage_17 : decode cX8_storage 17 = .ok (.iload_n 3, 1) := by decide +kernel
theorem dX8_storage_18 : decode cX8_storage 18 = .ok (.imul, 1) := by decide +kernel
theorem dX8_storage_19 : decode cX8_storage 19 = .ok (.istore 6, 2) := by decide +kernel
theorem dX8_storage_21 : decode cX8_storage 21 = .ok (.iload 6, 2) := by decide +kernel
theorem dX8_storage_23 : decode cX8_storage 23 = .ok (.bipush 30, 2) := by decide +kernel
theorem dX8_storage_25 : decode cX8_storage 25 = .ok (.iload_n 3, 1) := by decide +kernel
theorem dX8_storage_26 : decode cX8_storage 26 = .ok (.imul, 1) := by decide +kernel
theorem dX8_storage_27 : decode cX8_storage 27 = .ok (.bipush 30, 2) := by decide +kernel
theorem dX8_storage_29 : decode cX8_storage 29 = .ok (.iadd, 1) := by decide +kernel
theorem dX8_storage_30 : decode cX8_storage 30 = .ok (.if_icmp .ge 66, 3) := by decide +kernel
theorem dX8_storage_33 : decode cX8_storage 33 = .ok (.iload 4, 2) := by decide +kernel
theorem dX8_storage_35 : decode cX8_storage 35 = .ok (.aload_n 0, 1) := by decide +kernel
theorem dX8_storage_36 : decode cX8_storage 36 = .ok (.getfield 37, 3) := by decide +kernel
theorem dX8_storage_39 : decode cX8_storage 39 = .ok (.iload 5, 2) := by decide +kernel
theorem dX8_storage_41 : decode cX8_storage 41 = .ok (.iaload, 1) := by decide +kernel
theorem dX8_storage_42 : decode cX8_storage 42 = .ok (.iload_n 1, 1) := by decide +kernel
theorem dX8_storage_43 : decode cX8_storage 43 = .ok (.if_icmp .ne 43, 3) := by decide +kernel
theorem dX8_storage_46 : decode cX8_storage 46 = .ok (.iload 6, 2) := by decide +kernel
theorem dX8_storage_48 : decode cX8_storage 48 = .ok (.aload_n 0, 1) := by decide +kernel
theorem dX8_storage_49 : decode cX8_storage 49 = .ok (.getfield 40, 3) := by decide +kernel
theorem dX8_storage_52 : decode cX8_storage 52 = .ok (.iload 5, 2) := by decide +kernel
theorem dX8_storage_54 : decode cX8_storage 54 = .ok (.iaload, 1) := by decide +kernel
theorem dX8_storage_55 : decode cX8_storage 55 = .ok (.aload_n 0, 1) := by decide +kernel
theorem dX8_storage_56 : decode cX8_storage 56 = .ok (.getfield 43, 3) := by decide +kernel
theorem dX8_storage_59 : decode cX8_storage 59 = .ok (.iload 5, 2) := by decide +kernel
theorem dX8_storage_61 : decode cX8_storage 61 = .ok (.iaload, 1) := by decide +kernel
theorem dX8_storage_62 : decode cX8_storage 62 = .ok (.invokestatic 90, 3) := by decide +kernel
theorem dX8_storage_65 : decode cX8_storage 65 = .ok (.ifCond .eq 21, 3) := by decide +kernel
theorem dX8_storage_68 : decode cX8_storage 68 = .ok (.aload_n 0, 1) := by decide +kernel
theorem dX8_storage_69 : decode cX8_storage 69 = .ok (.bipush 83, 2) := by decide +kernel
theorem dX8_storage_71 : decode cX8_storage 71 = .ok (.iload_n 2, 1) := by decide +kernel
theorem dX8_storage_72 : decode cX8_storage 72 = .ok (.aload_n 0, 1) := by decide +kernel
theorem dX8_storage_73 : decode cX8_storage 73 = .ok (.iload 5, 2) := by decide +kernel
theorem dX8_storage_75 : decode cX8_storage 75 = .ok (.iload 6, 2) := by decide +kernel
theorem dX8_storage_77 : decode cX8_storage 77 = .ok (.invokevirtual 148, 3) := by decide +kernel
theorem dX8_storage_80 : decode cX8_storage 80 = .ok (.invokevirtual 152, 3) := by decide +kernel
theorem dX8_storage_83 : decode cX8_storage 83 = .ok (.goto 4, 3) := by decide +kernel
theorem dX8_storage_86 : decode cX8_storage 86 = .ok (.iconst 0, 1) := by decide +kernel
theorem dX8_storage_87 : decode cX8_storage 87 = .ok (.iadd, 1) := by decide +kernel
theorem dX8_storage_88 : decode cX8_storage 88 = .ok (.istore 4, 2) := by decide +kernel
theorem dX8_storage_90 : decode cX8_storage 90 = .ok (.iinc 6 1, 3) := by decide +kernel
theorem dX8_storage_93 : decode cX8_storage 93 = .ok (.goto (-72), 3) := by decide +kernel
theorem dX8_storage_96 : decode cX8_storage 96 = .ok (.iinc 5 1, 3) := by decide +kernel
theorem dX8_storage_99 : decode cX8_storage 99 = .ok (.goto (-93), 3) := by decide +kernel
theorem dX8_storage_102 : decode cX8_storage 102 = .ok (.aload_n 0, 1) := by decide +kernel
theorem dX8_storage_103 : decode cX8_storage 103 = .ok (.iload_n 1, 1) := by decide +kernel
theorem dX8_storage_104 : decode cX8_storage 104 = .ok (.iload_n 3, 1) := by decide +kernel
theorem dX8_storage_105 : decode cX8_storage 105 = .ok (.invokevirtual 155, 3) := by decide +kernel
theorem dX8_storage_108 : decode cX8_storage 108 = .ok (.istore 5, 2) := by decide +kernel
theorem dX8_storage_110 : decode cX8_storage 110 = .ok (.iconst (-1), 1) := by decide +kernel
theorem dX8_storage_111 : decode cX8_storage 111 = .ok (.istore 6, 2) := by decide +kernel
theorem dX8_storage_113 : decode cX8_storage 113 = .ok (.iconst 0, 1) := by decide +kernel
theorem dX8_storage_114 : decode cX8_storage 114 = .ok (.istore 7, 2) := by decide +kernel
theorem dX8_storage_116 : decode cX8_storage 116 = .ok (.iload 7, 2) := by decide +kernel
theorem dX8_storage_118 : decode cX8_storage 118 = .ok (.aload_n 0, 1) := by decide +kernel
theorem dX8_storage_119 : decode cX8_storage 119 = .ok (.getfield 124, 3) := by decide +kernel
theorem dX8_storage_122 : decode cX8_storage 122 = .ok (.if_icmp .ge 74, 3) := by decide +kernel
theorem dX8_storage_125 : decode cX8_storage 125 = .ok (.aload_n 0, 1) := by decide +kernel
theorem dX8_storage_126 : decode cX8_storage 126 = .ok (.getfield 13, 3) := by decide +kernel
theorem dX8_storage_129 : decode cX8_storage 129 = .ok (.iload 7, 2) := by decide +kernel
theorem dX8_storage_131 : decode cX8_storage 131 = .ok (.iaload, 1) := by decide +kernel
theorem dX8_storage_132 : decode cX8_storage 132 = .ok (.bipush 86, 2) := by decide +kernel
theorem dX8_storage_134 : decode cX8_storage 134 = .ok (.if_icmp .ne 56, 3) := by decide +kernel
theorem dX8_storage_137 : decode cX8_storage 137 = .ok (.aload_n 0, 1) := by decide +kernel
theorem dX8_storage_138 : decode cX8_storage 138 = .ok (.getfield 16, 3) := by decide +kernel
theorem dX8_storage_141 : decode cX8_storage 141 = .ok (.iload 7, 2) := by decide +kernel
theorem dX8_storage_143 : decode cX8_storage 143 = .ok (.iaload, 1) := by decide +kernel
theorem dX8_storage_144 : decode cX8_storage 144 = .ok (.iload_n 2, 1) := by decide +kernel
theorem dX8_storage_145 : decode cX8_storage 145 = .ok (.if_icmp .ne 45, 3) := by decide +kernel
theorem dX8_storage_148 : decode cX8_storage 148 = .ok (.aload_n 0, 1) := by decide +kernel
theorem dX8_storage_149 : decode cX8_storage 149 = .ok (.getfield 19, 3) := by decide +kernel
theorem dX8_storage_152 : decode cX8_storage 152 = .ok (.iload 7, 2) := by decide +kernel
theorem dX8_storage_154 : decode cX8_storage 154 = .ok (.iaload, 1) := by decide +kernel
theorem dX8_storage_155 : decode cX8_storage 155 = .ok (.iload 5, 2) := by decide +kernel
theorem dX8_storage_157 : decode cX8_storage 157 = .ok (.if_icmp .le 6, 3) := by decide +kernel
theorem dX8_storage_160 : decode cX8_storage 160 = .ok (.goto 30, 3) := by decide +kernel
theorem dX8_storage_163 : decode cX8_storage 163 = .ok (.iload 6, 2) := by decide +kernel
theorem dX8_storage_165 : decode cX8_storage 165 = .ok (.iconst (-1), 1) := by decide +kernel
theorem dX8_storage_166 : decode cX8_storage 166 = .ok (.if_icmp .eq 20, 3) := by decide +kernel
theorem dX8_storage_169 : decode cX8_storage 169 = .ok (.aload_n 0, 1) := by decide +kernel
theorem dX8_storage_170 : decode cX8_storage 170 = .ok (.getfield 19, 3) := by decide +kernel
theorem dX8_storage_173 : decode cX8_storage 173 = .ok (.iload 7, 2) := by decide +kernel
theorem dX8_storage_175 : decode cX8_storage 175 = .ok (.iaload, 1) := by decide +kernel
theorem dX8_storage_176 : decode cX8_storage 176 = .ok (.aload_n 0, 1) := by decide +kernel
theorem dX8_storage_177 : decode cX8_storage 177 = .ok (.getfield 19, 3) := by decide +kernel
theorem dX8_storage_180 : decode cX8_storage 180 = .ok (.iload 6, 2) := by decide +kernel
theorem dX8_storage_182 : decode cX8_storage 182 = .ok (.iaload, 1) := by decide +kernel
theorem dX8_storage_183 : decode cX8_storage 183 = .ok (.if_icmp .le 7, 3) := by decide +kernel
theorem dX8_storage_186 : decode cX8_storage 186 = .ok (.iload 7, 2) := by decide +kernel
theorem dX8_storage_188 : decode cX8_storage 188 = .ok (.istore 6, 2) := by decide +kernel
theorem dX8_storage_190 : decode cX8_storage 190 = .ok (.iinc 7 1, 3) := by decide +kernel
theorem dX8_storage_193 : decode cX8_storage 193 = .ok (.goto (-77), 3) := by decide +kernel
theorem dX8_storage_196 : decode cX8_storage 196 = .ok (.iload 6, 2) := by decide +kernel
theorem dX8_storage_198 : decode cX8_storage 198 = .ok (.iconst (-1), 1) := by decide +kernel
theorem dX8_storage_199 : decode cX8_storage 199 = .ok (.if_icmp .ne 8, 3) := by decide +kernel
theorem dX8_storage_202 : decode cX8_storage 202 = .ok (.iload 4, 2) := by decide +kernel
theorem dX8_storage_204 : decode cX8_storage 204 = .ok (.goto 19, 3) := by decide +kernel
theorem dX8_storage_207 : decode cX8_storage 207 = .ok (.iload 4, 2) := by decide +kernel
theorem dX8_storage_209 : decode cX8_storage 209 = .ok (.iload 4, 2) := by decide +kernel
theorem dX8_storage_211 : decode cX8_storage 211 = .ok (.aload_n 0, 1) := by decide +kernel
theorem dX8_storage_212 : decode cX8_storage 212 = .ok (.getfield 22, 3) := by decide +kernel
theorem dX8_storage_215 : decode cX8_storage 215 = .ok (.iload 6, 2) := by decide +kernel
theorem dX8_storage_217 : decode cX8_storage 217 = .ok (.iaload, 1) := by decide +kernel
theorem dX8_storage_218 : decode cX8_storage 218 = .ok (.imul, 1) := by decide +kernel
theorem dX8_storage_219 : decode cX8_storage 219 = .ok (.bipush 100, 2) := by decide +kernel
theorem dX8_storage_221 : decode cX8_storage 221 = .ok (.idiv, 1) := by decide +kernel
theorem dX8_storage_222 : decode cX8_storage 222 = .ok (.isub, 1) := by decide +kernel
theorem dX8_storage_223 : decode cX8_storage 223 = .ok (.ireturn, 1) := by decide +kernel
set_option maxRecDepth 20000 in
theorem ggX8_handling_X8_cents : GoodIn wsX8_handling wsX8_cents := goodIn_r _ [10, 11, 12, 13, 9, 14, 15, 16, 17, 18, 19, 20, 21, 22, 23, 24, 25, 26, 27, 28, 29, 30, 31, 32, 33, 34, 35, 36, 37, 38, 39, 40, 41, 42, 43, 44, 45, 46, 47, 48, 49, 50, 51, 52, 53] (by decide +kernel) (by decide +kernel)
set_option maxRecDepth 20000 in
theorem gX8_handling_X8_cents : GoodIn wsX8_handling (wsV RX8 152 RX8 yX8_cents wsX8_cents) := goodIn_app (goodIn_of _ (by decide +kernel)) ggX8_handling_X8_cents
theorem dX8_handling_0 : decode cX8_handling 0 = .ok (.iconst 0, 1) := by decide +kernel
theorem dX8_handling_1 : decode cX8_handling 1 = .ok (.istore 4, 2) := by decide +kernel
theorem dX8_handling_3 : decode cX8_handling 3 = .ok (.iconst 0, 1) := by decide +kernel
theorem dX8_handling_4 : decode cX8_handling 4 = .ok (.istore 5, 2) := by decide +kernel
theorem dX8_handling_6 : decode cX8_handling 6 = .ok (.iload 5, 2) := by decide +kernel
theorem dX8_handling_8 : decode cX8_handling 8 = .ok (.aload_n 0, 1) := by decide +kernel
theorem dX8_handling_9 : decode cX8_handling 9 = .ok (.getfield 145, 3) := by decide +kernel
theorem dX8_handling_12 : decode cX8_handling 12 = .ok (.if_icmp .ge 65, 3) := by decide +kernel
theorem dX8_handling_15 : decode cX8_handling 15 = .ok (.iload 4, 2) := by decide +kernel
theorem dX8_handling_17 : decode cX8_handling 17 = .ok (.aload_n 0, 1) := by decide +kernel
theorem dX8_handling_18 : decode cX8_handling 18 = .ok (.getfield 55, 3) := by decide +kernel
theorem dX8_handling_21 : decode cX8_handling 21 = .ok (.iload 5, 2) := by decide +kernel
theorem dX8_handling_23 : decode cX8_handling 23 = .ok (.iaload, 1) := by decide +kernel
theorem dX8_handling_24 : decode cX8_handling 24 = .ok (.iload_n 1, 1) := by decide +kernel
theorem dX8_handling_25 : decode cX8_handling 25 = .ok (.if_icmp .ne 42, 3) := by decide +kernel
theorem dX8_handling_28 : decode cX8_handling 28 = .ok (.aload_n 0, 1) := by decide +kernel
theorem dX8_handling_29 : decode cX8_handling 29 = .ok (.getfield 61, 3) := by decide +kernel
theorem dX8_handling_32 : decode cX8_handling 32 = .ok (.iload 5, 2) := by decide +kernel
theorem dX8_handling_34 : decode cX8_handling 34 = .ok (.iaload, 1) := by decide +kernel
theorem dX8_handling_35 : decode cX8_handling 35 = .ok (.bipush 30, 2) := by decide +kernel
theorem dX8_handling_37 : decode cX8_handling 37 = .ok (.idiv, 1) := by decide +kernel
theorem dX8_handling_38 : decode cX8_handling 38 = .ok (.iload_n 3, 1) := by decide +kernel
theorem dX8_handling_39 : decode cX8_handling 39 = .ok (.if_icmp .ne 28, 3) := by decide +kernel
theorem dX8_handling_42 : decode cX8_handling 42 = .ok (.aload_n 0, 1) := by decide +kernel
theorem dX8_handling_43 : decode cX8_handling 43 = .ok (.getfield 64, 3) := by decide +kernel
theorem dX8_handling_46 : decode cX8_handling 46 = .ok (.iload 5, 2) := by decide +kernel
theorem dX8_handling_48 : decode cX8_handling 48 = .ok (.iaload, 1) := by decide +kernel
theorem dX8_handling_49 : decode cX8_handling 49 = .ok (.aload_n 0, 1) := by decide +kernel
theorem dX8_handling_50 : decode cX8_handling 50 = .ok (.bipush 72, 2) := by decide +kernel
theorem dX8_handling_52 : decode cX8_handling 52 = .ok (.iload_n 2, 1) := by decide +kernel
theorem dX8_handling_53 : decode cX8_handling 53 = .ok (.aload_n 0, 1) := by decide +kernel
theorem dX8_handling_54 : decode cX8_handling 54 = .ok (.getfield 58, 3) := by decide +kernel
theorem dX8_handling_57 : decode cX8_handling 57 = .ok (.iload 5, 2) := by decide +kernel
theorem dX8_handling_59 : decode cX8_handling 59 = .ok (.iaload, 1) := by decide +kernel
theorem dX8_handling_60 : decode cX8_handling 60 = .ok (.invokevirtual 152, 3) := by decide +kernel
theorem dX8_handling_63 : decode cX8_handling 63 = .ok (.imul, 1) := by decide +kernel
theorem dX8_handling_64 : decode cX8_handling 64 = .ok (.goto 4, 3) := by decide +kernel
theorem dX8_handling_67 : decode cX8_handling 67 = .ok (.iconst 0, 1) := by decide +kernel
theorem dX8_handling_68 : decode cX8_handling 68 = .ok (.iadd, 1) := by decide +kernel
theorem dX8_handling_69 : decode cX8_handling 69 = .ok (.istore 4, 2) := by decide +kernel
theorem dX8_handling_71 : decode cX8_handling 71 = .ok (.iinc 5 1, 3) := by decide +kernel
theorem dX8_handling_74 : decode cX8_handling 74 = .ok (.goto (-68), 3) := by decide +kernel
theorem dX8_handling_77 : decode cX8_handling 77 = .ok (.iload 4, 2) := by decide +kernel
theorem dX8_handling_79 : decode cX8_handling 79 = .ok (.ireturn, 1) := by decide +kernel
set_option maxRecDepth 20000 in
theorem ggX8_sumOf_X8_storage : GoodIn wsX8_sumOf wsX8_storage := goodIn_r _ [5, 6, 7, 8, 9, 10, 11, 12, 13, 14, 15, 16, 4, 17, 18, 19, 20, 21, 22, 23, 24, 25, 26, 27, 28, 29, 30, 31, 32, 33, 34, 35, 36, 46, 47, 48, 49, 50, 51, 52, 53, 54, 55, 56, 57, 58, 59, 60, 61, 62, 63, 64, 65, 66, 67, 68, 69, 70, 71, 72, 73, 74, 75, 76, 77, 78, 79] (by decide +kernel) (by decide +kernel)
set_option maxRecDepth 20000 in
theorem gX8_sumOf_X8_storage : GoodIn wsX8_sumOf (wsV RX8 158 RX8 yX8_storage wsX8_storage) := goodIn_app (goodIn_of _ (by decide +kernel)) ggX8_sumOf_X8_storage
set_option maxRecDepth 20000 in
theorem ggX8_sumOf_X8_handling : GoodIn wsX8_sumOf wsX8_handling := goodIn_r _ [40, 41, 42, 43, 44, 45, 25, 26, 27, 4, 28, 29, 30, 31, 32, 10, 11, 12, 13, 14, 46, 47, 48, 49, 50, 51, 52, 53, 54, 55, 56, 57, 58, 59, 60, 61, 62, 63, 64, 65, 66, 67, 68, 69, 70, 71, 72, 73, 74, 75, 76, 77, 78, 79] (by decide +kernel) (by decide +kernel)
set_option maxRecDepth 20000 in
theorem gX8_sumOf_X8_handling : GoodIn wsX8_sumOf (wsV RX8 161 RX8 yX8_handling wsX8_handling) := goodIn_app (goodIn_of _ (by decide +kernel)) ggX8_sumOf_X8_handling
set_option maxRecDepth 20000 in
theorem ggX8_sumOf_X8_cents : GoodIn wsX8_sumOf wsX8_cents := goodIn_r _ [28, 29, 30, 31, 4, 32, 10, 11, 12, 13, 14, 46, 47, 48, 49, 50, 51, 52, 53, 54, 55, 56, 57, 58, 59, 60, 61, 62, 63, 64, 65, 66, 67, 68, 69, 70, 71, 72, 73, 74, 75, 76, 77, 78, 79] (by decide +kernel) (by decide +kernel)
set_option maxRecDepth 20000 in
theorem gX8_sumOf_X8_cents : GoodIn wsX8_sumOf (wsV RX8 152 RX8 yX8_cents wsX8_cents) := goodIn_app (goodIn_of _ (by decide +kernel)) ggX8_sumOf_X8_cents
theorem dX8_sumOf_0 : decode cX8_sumOf 0 = .ok (.aload_n 0, 1) := by decide +kernel
theorem dX8_sumOf_1 : decode cX8_sumOf 1 = .ok (.iload_n 1, 1) := by decide +kernel
theorem dX8_sumOf_2 : decode cX8_sumOf 2 = .ok (.iload_n 2, 1) := by decide +kernel
theorem dX8_sumOf_3 : decode cX8_sumOf 3 = .ok (.iload_n 3, 1) := by decide +kernel
theorem dX8_sumOf_4 : decode cX8_sumOf 4 = .ok (.invokevirtual 158, 3) := by decide +kernel
theorem dX8_sumOf_7 : decode cX8_sumOf 7 = .ok (.aload_n 0, 1) := by decide +kernel
theorem dX8_sumOf_8 : decode cX8_sumOf 8 = .ok (.iload_n 1, 1) := by decide +kernel
theorem dX8_sumOf_9 : decode cX8_sumOf 9 = .ok (.iload_n 2, 1) := by decide +kernel
theorem dX8_sumOf_10 : decode cX8_sumOf 10 = .ok (.iload_n 3, 1) := by decide +kernel
theorem dX8_sumOf_11 : decode cX8_sumOf 11 = .ok (.invokevirtual 161, 3) := by decide +kernel
theorem dX8_sumOf_14 : decode cX8_sumOf 14 = .ok (.iadd, 1) := by decide +kernel
theorem dX8_sumOf_15 : decode cX8_sumOf 15 = .ok (.istore 4, 2) := by decide +kernel
theorem dX8_sumOf_17 : decode cX8_sumOf 17 = .ok (.aload_n 0, 1) := by decide +kernel
theorem dX8_sumOf_18 : decode cX8_sumOf 18 = .ok (.bipush 77, 2) := by decide +kernel
theorem dX8_sumOf_20 : decode cX8_sumOf 20 = .ok (.iload_n 2, 1) := by decide +kernel
theorem dX8_sumOf_21 : decode cX8_sumOf 21 = .ok (.iconst 0, 1) := by decide +kernel
theorem dX8_sumOf_22 : decode cX8_sumOf 22 = .ok (.invokevirtual 152, 3) := by decide +kernel
theorem dX8_sumOf_25 : decode cX8_sumOf 25 = .ok (.istore 5, 2) := by decide +kernel
theorem dX8_sumOf_27 : decode cX8_sumOf 27 = .ok (.iload 4, 2) := by decide +kernel
theorem dX8_sumOf_29 : decode cX8_sumOf 29 = .ok (.iload 5, 2) := by decide +kernel
theorem dX8_sumOf_31 : decode cX8_sumOf 31 = .ok (.if_icmp .ge 8, 3) := by decide +kernel
theorem dX8_sumOf_34 : decode cX8_sumOf 34 = .ok (.iload 5, 2) := by decide +kernel
theorem dX8_sumOf_36 : decode cX8_sumOf 36 = .ok (.goto 5, 3) := by decide +kernel
theorem dX8_sumOf_39 : decode cX8_sumOf 39 = .ok (.iload 4, 2) := by decide +kernel
theorem dX8_sumOf_41 : decode cX8_sumOf 41 = .ok (.ireturn, 1) := by decide +kernel
set_option maxRecDepth 20000 in
theorem ggX8_sum_X8_isOwner : GoodIn wsX8_sum wsX8_isOwner := goodIn_r _ [5, 6, 7, 4, 8] (by decide +kernel) (by decide +kernel)
set_option maxRecDepth 20000 in
theorem gX8_sum_X8_isOwner : GoodIn wsX8_sum (va_wsS RX8 110 yX8_isOwner wsX8_isOwner) := goodIn_app (goodIn_of _ (by decide +kernel)) ggX8_sum_X8_isOwner
set_option maxRecDepth 20000 in
theorem ggX8_sum_X8_isMonth : GoodIn wsX8_sum wsX8_isMonth := goodIn_r _ [11, 6, 7, 4, 8] (by decide +kernel) (by decide +kernel)
set_option maxRecDepth 20000 in
theorem gX8_sum_X8_isMonth : GoodIn wsX8_sum (va_wsS RX8 164 yX8_isMonth wsX8_isMonth) := goodIn_app (goodIn_of _ (by decide +kernel)) ggX8_sum_X8_isMonth
set_option maxRecDepth 20000 in
theorem ggX8_sum_X8_sumOf : GoodIn wsX8_sum wsX8_sumOf := goodIn_r _ [15, 16, 17, 18, 4, 19, 20, 21, 22, 23, 24, 25, 26, 27, 28, 6, 7, 8, 29, 30, 31, 32, 33, 34, 35, 36, 37, 38, 39, 40, 41, 42, 43, 44, 45, 46, 47, 48, 49, 50, 51, 52, 53, 54, 55, 56, 57, 58, 59, 60, 61, 62, 63, 64, 65, 66, 67, 68, 69, 70, 71, 72, 73, 74, 75, 76, 77, 78, 79, 80, 81, 82, 83, 84, 85, 86, 87, 88, 89, 90] (by decide +kernel) (by decide +kernel)
set_option maxRecDepth 20000 in
theorem gX8_sum_X8_sumOf : GoodIn wsX8_sum (wsV RX8 167 RX8 yX8_sumOf wsX8_sumOf) := goodIn_app (goodIn_of _ (by decide +kernel)) ggX8_sum_X8_sumOf
theorem dX8_sum_0 : decode cX8_sum 0 = .ok (.aload_n 0, 1) := by decide +kernel
theorem dX8_sum_1 : decode cX8_sum 1 = .ok (.iload_n 1, 1) := by decide +kernel
theorem dX8_sum_2 : decode cX8_sum 2 = .ok (.invokestatic 110, 3) := by decide +kernel
theorem dX8_sum_5 : decode cX8_sum 5 = .ok (.ifCond .eq 14, 3) := by decide +kernel
theorem dX8_sum_8 : decode cX8_sum 8 = .ok (.iload_n 2, 1) := by decide +kernel
theorem dX8_sum_9 : decode cX8_sum 9 = .ok (.invokestatic 164, 3) := by decide +kernel
theorem dX8_sum_12 : decode cX8_sum 12 = .ok (.ifCond .eq 7, 3) := by decide +kernel
theorem dX8_sum_15 : decode cX8_sum 15 = .ok (.iconst 0, 1) := by decide +kernel
theorem dX8_sum_16 : decode cX8_sum 16 = .ok (.goto 4, 3) := by decide +kernel
theorem dX8_sum_19 : decode cX8_sum 19 = .ok (.iconst 1, 1) := by decide +kernel
theorem dX8_sum_20 : decode cX8_sum 20 = .ok (.putfield 86, 3) := by decide +kernel
theorem dX8_sum_23 : decode cX8_sum 23 = .ok (.aload_n 0, 1) := by decide +kernel
theorem dX8_sum_24 : decode cX8_sum 24 = .ok (.getfield 86, 3) := by decide +kernel
theorem dX8_sum_27 : decode cX8_sum 27 = .ok (.ifCond .le 7, 3) := by decide +kernel
theorem dX8_sum_30 : decode cX8_sum 30 = .ok (.iconst 0, 1) := by decide +kernel
theorem dX8_sum_31 : decode cX8_sum 31 = .ok (.goto 10, 3) := by decide +kernel
theorem dX8_sum_34 : decode cX8_sum 34 = .ok (.aload_n 0, 1) := by decide +kernel
theorem dX8_sum_35 : decode cX8_sum 35 = .ok (.iload_n 1, 1) := by decide +kernel
theorem dX8_sum_36 : decode cX8_sum 36 = .ok (.iload_n 1, 1) := by decide +kernel
theorem dX8_sum_37 : decode cX8_sum 37 = .ok (.iload_n 2, 1) := by decide +kernel
theorem dX8_sum_38 : decode cX8_sum 38 = .ok (.invokevirtual 167, 3) := by decide +kernel
theorem dX8_sum_41 : decode cX8_sum 41 = .ok (.ireturn, 1) := by decide +kernel
set_option maxRecDepth 20000 in
theorem ggX8_days_X8_isOwner : GoodIn wsX8_days wsX8_isOwner := goodIn_r _ [5, 6, 7, 4, 8] (by decide +kernel) (by decide +kernel)
set_option maxRecDepth 20000 in
theorem gX8_days_X8_isOwner : GoodIn wsX8_days (va_wsS RX8 110 yX8_isOwner wsX8_isOwner) := goodIn_app (goodIn_of _ (by decide +kernel)) ggX8_days_X8_isOwner
set_option maxRecDepth 20000 in
theorem ggX8_days_X8_isMonth : GoodIn wsX8_days wsX8_isMonth := goodIn_r _ [11, 6, 7, 4, 8] (by decide +kernel) (by decide +kernel)
set_option maxRecDepth 20000 in
theorem gX8_days_X8_isMonth : GoodIn wsX8_days (va_wsS RX8 164 yX8_isMonth wsX8_isMonth) := goodIn_app (goodIn_of _ (by decide +kernel)) ggX8_days_X8_isMonth
set_option maxRecDepth 20000 in
theorem ggX8_days_X8_unitDays : GoodIn wsX8_days wsX8_unitDays := goodIn_r _ [15, 16, 17, 18, 19, 6, 7, 4, 8, 20, 21, 22, 23, 24, 25, 26, 27, 28, 29, 30, 31, 32, 33, 34, 35, 36, 37, 38, 39, 40, 41, 42, 43, 44, 45, 46, 47, 48, 49, 50, 51, 52, 53] (by decide +kernel) (by decide +kernel)
set_option maxRecDepth 20000 in
theorem gX8_days_X8_unitDays : GoodIn wsX8_days (wsV RX8 155 RX8 yX8_unitDays wsX8_unitDays) := goodIn_app (goodIn_of _ (by decide +kernel)) ggX8_days_X8_unitDays
theorem dX8_days_0 : decode cX8_days 0 = .ok (.aload_n 0, 1) := by decide +kernel
theorem dX8_days_1 : decode cX8_days 1 = .ok (.iload_n 1, 1) := by decide +kernel
theorem dX8_days_2 : decode cX8_days 2 = .ok (.invokestatic 110, 3) := by decide +kernel
theorem dX8_days_5 : decode cX8_days 5 = .ok (.ifCond .eq 14, 3) := by decide +kernel
theorem dX8_days_8 : decode cX8_days 8 = .ok (.iload_n 2, 1) := by decide +kernel
theorem dX8_days_9 : decode cX8_days 9 = .ok (.invokestatic 164, 3) := by decide +kernel
theorem dX8_days_12 : decode cX8_days 12 = .ok (.ifCond .eq 7, 3) := by decide +kernel
theorem dX8_days_15 : decode cX8_days 15 = .ok (.iconst 0, 1) := by decide +kernel
theorem dX8_days_16 : decode cX8_days 16 = .ok (.goto 4, 3) := by decide +kernel
theorem dX8_days_19 : decode cX8_days 19 = .ok (.iconst 1, 1) := by decide +kernel
theorem dX8_days_20 : decode cX8_days 20 = .ok (.putfield 86, 3) := by decide +kernel
theorem dX8_days_23 : decode cX8_days 23 = .ok (.aload_n 0, 1) := by decide +kernel
theorem dX8_days_24 : decode cX8_days 24 = .ok (.getfield 86, 3) := by decide +kernel
theorem dX8_days_27 : decode cX8_days 27 = .ok (.ifCond .le 7, 3) := by decide +kernel
theorem dX8_days_30 : decode cX8_days 30 = .ok (.iconst 0, 1) := by decide +kernel
theorem dX8_days_31 : decode cX8_days 31 = .ok (.goto 9, 3) := by decide +kernel
theorem dX8_days_34 : decode cX8_days 34 = .ok (.aload_n 0, 1) := by decide +kernel
theorem dX8_days_35 : decode cX8_days 35 = .ok (.iload_n 1, 1) := by decide +kernel
theorem dX8_days_36 : decode cX8_days 36 = .ok (.iload_n 2, 1) := by decide +kernel
theorem dX8_days_37 : decode cX8_days 37 = .ok (.invokevirtual 155, 3) := by decide +kernel
theorem dX8_days_40 : decode cX8_days 40 = .ok (.ireturn, 1) := by decide +kernel
set_option maxRecDepth 20000 in
theorem ggX8_average_X8_isOwner : GoodIn wsX8_average wsX8_isOwner := goodIn_r _ [5, 6, 7, 4, 8] (by decide +kernel) (by decide +kernel)
set_option maxRecDepth 20000 in
theorem gX8_average_X8_isOwner : GoodIn wsX8_average (va_wsS RX8 110 yX8_isOwner wsX8_isOwner) := goodIn_app (goodIn_of _ (by decide +kernel)) ggX8_average_X8_isOwner
set_option maxRecDepth 20000 in
theorem ggX8_average_X8_isMonth : GoodIn wsX8_average wsX8_isMonth := goodIn_r _ [11, 6, 7, 4, 8] (by decide +kernel) (by decide +kernel)
set_option maxRecDepth 20000 in
theorem gX8_average_X8_isMonth : GoodIn wsX8_average (va_wsS RX8 164 yX8_isMonth wsX8_isMonth) := goodIn_app (goodIn_of _ (by decide +kernel)) ggX8_average_X8_isMonth
set_option maxRecDepth 20000 in
theorem ggX8_average_X8_unitDays : GoodIn wsX8_average wsX8_unitDays := goodIn_r _ [15, 16, 17, 18, 19, 6, 7, 4, 8, 44, 45, 46, 47, 48, 49, 50, 51, 52, 53, 54, 55, 56, 57, 58, 59, 60, 61, 62, 63, 64, 65, 66, 67, 68, 69, 70, 71, 72, 73, 74, 75, 76, 77] (by decide +kernel) (by decide +kernel)
set_option maxRecDepth 20000 in
theorem gX8_average_X8_unitDays : GoodIn wsX8_average (wsV RX8 155 RX8 yX8_unitDays wsX8_unitDays) := goodIn_app (goodIn_of _ (by decide +kernel)) ggX8_average_X8_unitDays
set_option maxRecDepth 20000 in
theorem ggX8_average_X8_storage : GoodIn wsX8_average wsX8_storage := goodIn_r _ [23, 16, 17, 18, 19, 24, 25, 26, 27, 28, 6, 7, 4, 8, 29, 30, 31, 32, 33, 34, 35, 36, 37, 38, 39, 40, 41, 42, 43, 12, 13, 14, 15, 44, 45, 46, 47, 48, 49, 50, 51, 52, 53, 54, 55, 56, 57, 58, 59, 60, 61, 62, 63, 64, 65, 66, 67, 68, 69, 70, 71, 72, 73, 74, 75, 76, 77] (by decide +kernel) (by decide +kernel)
set_option maxRecDepth 20000 in
theorem gX8_average_X8_storage : GoodIn wsX8_average (wsV RX8 158 RX8 yX8_storage wsX8_storage) := goodIn_app (goodIn_of _ (by decide +kernel)) ggX8_average_X8_storage
theorem dX8_average_0 : decode cX8_average 0 = .ok (.aload_n 0, 1) := by decide +kernel
theorem dX8_average_1 : decode cX8_average 1 = .ok (.iload_n 1, 1) := by decide +kernel
theorem dX8_average_2 : decode cX8_average 2 = .ok (.invokestatic 110, 3) := by decide +kernel
theorem dX8_average_5 : decode cX8_average 5 = .ok (.ifCond .eq 10, 3) := by decide +kernel
theorem dX8_average_8 : decode cX8_average 8 = .ok (.iload_n 2, 1) := by decide +kernel
theorem dX8_average_9 : decode cX8_average 9 = .ok (.invokestatic 164, 3) := by decide +kernel
theorem dX8_average_12 : decode cX8_average 12 = .ok (.ifCond .ne 7, 3) := by decide +kernel
theorem dX8_average_15 : decode cX8_average 15 = .ok (.iconst 1, 1) := by decide +kernel
theorem dX8_average_16 : decode cX8_average 16 = .ok (.goto 17, 3) := by decide +kernel
theorem dX8_average_19 : decode cX8_average 19 = .ok (.aload_n 0, 1) := by decide +kernel
theorem dX8_average_20 : decode cX8_average 20 = .ok (.iload_n 1, 1) := by decide +kernel
theorem dX8_average_21 : decode cX8_average 21 = .ok (.iload_n 2, 1) := by decide +kernel
theorem dX8_average_22 : decode cX8_average 22 = .ok (.invokevirtual 155, 3) := by decide +kernel
theorem dX8_average_25 : decode cX8_average 25 = .ok (.ifCond .ne 7, 3) := by decide +kernel
theorem dX8_average_28 : decode cX8_average 28 = .ok (.iconst 2, 1) := by decide +kernel
theorem dX8_average_29 : decode cX8_average 29 = .ok (.goto 4, 3) := by decide +kernel
theorem dX8_average_32 : decode cX8_average 32 = .ok (.iconst 0, 1) := by decide +kernel
theorem dX8_average_33 : decode cX8_average 33 = .ok (.putfield 86, 3) := by decide +kernel
theorem dX8_average_36 : decode cX8_average 36 = .ok (.aload_n 0, 1) := by decide +kernel
theorem dX8_average_37 : decode cX8_average 37 = .ok (.getfield 86, 3) := by decide +kernel
theorem dX8_average_40 : decode cX8_average 40 = .ok (.ifCond .le 7, 3) := by decide +kernel
theorem dX8_average_43 : decode cX8_average 43 = .ok (.iconst 0, 1) := by decide +kernel
theorem dX8_average_44 : decode cX8_average 44 = .ok (.goto 17, 3) := by decide +kernel
theorem dX8_average_47 : decode cX8_average 47 = .ok (.aload_n 0, 1) := by decide +kernel
theorem dX8_average_48 : decode cX8_average 48 = .ok (.iload_n 1, 1) := by decide +kernel
theorem dX8_average_49 : decode cX8_average 49 = .ok (.iload_n 1, 1) := by decide +kernel
theorem dX8_average_50 : decode cX8_average 50 = .ok (.iload_n 2, 1) := by decide +kernel
theorem dX8_average_51 : decode cX8_average 51 = .ok (.invokevirtual 158, 3) := by decide +kernel
theorem dX8_average_54 : decode cX8_average 54 = .ok (.aload_n 0, 1) := by decide +kernel
theorem dX8_average_55 : decode cX8_average 55 = .ok (.iload_n 1, 1) := by decide +kernel
theorem dX8_average_56 : decode cX8_average 56 = .ok (.iload_n 2, 1) := by decide +kernel
theorem dX8_average_57 : decode cX8_average 57 = .ok (.invokevirtual 155, 3) := by decide +kernel
theorem dX8_average_60 : decode cX8_average 60 = .ok (.idiv, 1) := by decide +kernel
theorem dX8_average_61 : decode cX8_average 61 = .ok (.ireturn, 1) := by decide +kernel
set_option maxRecDepth 20000 in
theorem ggX8_compare_X8_isOwner : GoodIn wsX8_compare wsX8_isOwner := goodIn_r _ [5, 6, 7, 4, 8] (by decide +kernel) (by decide +kernel)
set_option maxRecDepth 20000 in
theorem gX8_compare_X8_isOwner : GoodIn wsX8_compare (va_wsS RX8 110 yX8_isOwner wsX8_isOwner) := goodIn_app (goodIn_of _ (by decide +kernel)) ggX8_compare_X8_isOwner
set_option maxRecDepth 20000 in
theorem ggX8_compare_X8_isMonth : GoodIn wsX8_compare wsX8_isMonth := goodIn_r _ [11, 6, 7, 4, 8] (by decide +kernel) (by decide +kernel)
set_option maxRecDepth 20000 in
theorem gX8_compare_X8_isMonth : GoodIn wsX8_compare (va_wsS RX8 164 yX8_isMonth wsX8_isMonth) := goodIn_app (goodIn_of _ (by decide +kernel)) ggX8_compare_X8_isMonth
set_option maxRecDepth 20000 in
theorem ggX8_compare_X8_sumOf : GoodIn wsX8_compare wsX8_sumOf := goodIn_r _ [15, 16, 17, 18, 4, 19, 20, 21, 22, 23, 24, 25, 26, 27, 28, 6, 7, 8, 29, 30, 31, 32, 33, 34, 35, 36, 37, 38, 39, 40, 41, 42, 43, 44, 45, 46, 47, 48, 49, 50, 51, 52, 53, 54, 55, 56, 57, 58, 59, 60, 61, 62, 63, 64, 65, 66, 67, 68, 69, 70, 71, 72, 73, 74, 75, 76, 77, 78, 79, 80, 81, 82, 83, 84, 85, 86, 87, 88, 89, 90] (by decide +kernel) (by decide +kernel)
set_option maxRecDepth 20000 in
theorem gX8_compare_X8_sumOf : GoodIn wsX8_compare (wsV RX8 167 RX8 yX8_sumOf wsX8_sumOf) := goodIn_app (goodIn_of _ (by decide +kernel)) ggX8_compare_X8_sumOf
theorem dX8_compare_0 : decode cX8_compare 0 = .ok (.aload_n 0, 1) := by decide +kernel
theorem dX8_compare_1 : decode cX8_compare 1 = .ok (.iload_n 1, 1) := by decide +kernel
theorem dX8_compare_2 : decode cX8_compare 2 = .ok (.invokestatic 110, 3) := by decide +kernel
theorem dX8_compare_5 : decode cX8_compare 5 = .ok (.ifCond .eq 21, 3) := by decide +kernel
theorem dX8_compare_8 : decode cX8_compare 8 = .ok (.iload_n 2, 1) := by decide +kernel
theorem dX8_compare_9 : decode cX8_compare 9 = .ok (.invokestatic 110, 3) := by decide +kernel
theorem dX8_compare_12 : decode cX8_compare 12 = .ok (.ifCond .eq 14, 3) := by decide +kernel
theorem dX8_compare_15 : decode cX8_compare 15 = .ok (.iload_n 3, 1) := by decide +kernel
theorem dX8_compare_16 : decode cX8_compare 16 = .ok (.invokestatic 164, 3) := by decide +kernel
theorem dX8_compare_19 : decode cX8_compare 19 = .ok (.ifCond .eq 7, 3) := by decide +kernel
theorem dX8_compare_22 : decode cX8_compare 22 = .ok (.iconst 0, 1) := by decide +kernel
theorem dX8_compare_23 : decode cX8_compare 23 = .ok (.goto 4, 3) := by decide +kernel
theorem dX8_compare_26 : decode cX8_compare 26 = .ok (.iconst 1, 1) := by decide +kernel
theorem dX8_compare_27 : decode cX8_compare 27 = .ok (.putfield 86, 3) := by decide +kernel
theorem dX8_compare_30 : decode cX8_compare 30 = .ok (.aload_n 0, 1) := by decide +kernel
theorem dX8_compare_31 : decode cX8_compare 31 = .ok (.getfield 86, 3) := by decide +kernel
theorem dX8_compare_34 : decode cX8_compare 34 = .ok (.ifCond .le 7, 3) := by decide +kernel
theorem dX8_compare_37 : decode cX8_compare 37 = .ok (.iconst 0, 1) := by decide +kernel
theorem dX8_compare_38 : decode cX8_compare 38 = .ok (.goto 18, 3) := by decide +kernel
theorem dX8_compare_41 : decode cX8_compare 41 = .ok (.aload_n 0, 1) := by decide +kernel
theorem dX8_compare_42 : decode cX8_compare 42 = .ok (.iload_n 1, 1) := by decide +kernel
theorem dX8_compare_43 : decode cX8_compare 43 = .ok (.iload_n 2, 1) := by decide +kernel
theorem dX8_compare_44 : decode cX8_compare 44 = .ok (.iload_n 3, 1) := by decide +kernel
theorem dX8_compare_45 : decode cX8_compare 45 = .ok (.invokevirtual 167, 3) := by decide +kernel
theorem dX8_compare_48 : decode cX8_compare 48 = .ok (.aload_n 0, 1) := by decide +kernel
theorem dX8_compare_49 : decode cX8_compare 49 = .ok (.iload_n 1, 1) := by decide +kernel
theorem dX8_compare_50 : decode cX8_compare 50 = .ok (.iload_n 1, 1) := by decide +kernel
theorem dX8_compare_51 : decode cX8_compare 51 = .ok (.iload_n 3, 1) := by decide +kernel
theorem dX8_compare_52 : decode cX8_compare 52 = .ok (.invokevirtual 167, 3) := by decide +kernel
theorem dX8_compare_55 : decode cX8_compare 55 = .ok (.isub, 1) := by decide +kernel
theorem dX8_compare_56 : decode cX8_compare 56 = .ok (.ireturn, 1) := by decide +kernel
theorem dX8_keep_0 : decode cX8_keep 0 = .ok (.aload_n 0, 1) := by decide +kernel
theorem dX8_keep_1 : decode cX8_keep 1 = .ok (.getfield 67, 3) := by decide +kernel
theorem dX8_keep_4 : decode cX8_keep 4 = .ok (.aload_n 0, 1) := by decide +kernel
theorem dX8_keep_5 : decode cX8_keep 5 = .ok (.getfield 170, 3) := by decide +kernel
theorem dX8_keep_8 : decode cX8_keep 8 = .ok (.iload_n 1, 1) := by decide +kernel
theorem dX8_keep_9 : decode cX8_keep 9 = .ok (.iastore, 1) := by decide +kernel
theorem dX8_keep_10 : decode cX8_keep 10 = .ok (.aload_n 0, 1) := by decide +kernel
theorem dX8_keep_11 : decode cX8_keep 11 = .ok (.getfield 70, 3) := by decide +kernel
theorem dX8_keep_14 : decode cX8_keep 14 = .ok (.aload_n 0, 1) := by decide +kernel
theorem dX8_keep_15 : decode cX8_keep 15 = .ok (.getfield 170, 3) := by decide +kernel
theorem dX8_keep_18 : decode cX8_keep 18 = .ok (.iload_n 2, 1) := by decide +kernel
theorem dX8_keep_19 : decode cX8_keep 19 = .ok (.iastore, 1) := by decide +kernel
theorem dX8_keep_20 : decode cX8_keep 20 = .ok (.aload_n 0, 1) := by decide +kernel
theorem dX8_keep_21 : decode cX8_keep 21 = .ok (.getfield 73, 3) := by decide +kernel
theorem dX8_keep_24 : decode cX8_keep 24 = .ok (.aload_n 0, 1) := by decide +kernel
theorem dX8_keep_25 : decode cX8_keep 25 = .ok (.getfield 170, 3) := by decide +kernel
theorem dX8_keep_28 : decode cX8_keep 28 = .ok (.iload_n 3, 1) := by decide +kernel
theorem dX8_keep_29 : decode cX8_keep 29 = .ok (.iastore, 1) := by decide +kernel
theorem dX8_keep_30 : decode cX8_keep 30 = .ok (.aload_n 0, 1) := by decide +kernel
theorem dX8_keep_31 : decode cX8_keep 31 = .ok (.getfield 76, 3) := by decide +kernel
theorem dX8_keep_34 : decode cX8_keep 34 = .ok (.aload_n 0, 1) := by decide +kernel
theorem dX8_keep_35 : decode cX8_keep 35 = .ok (.getfield 170, 3) := by decide +kernel
theorem dX8_keep_38 : decode cX8_keep 38 = .ok (.iload 4, 2) := by decide +kernel
theorem dX8_keep_40 : decode cX8_keep 40 = .ok (.bastore, 1) := by decide +kernel
theorem dX8_keep_41 : decode cX8_keep 41 = .ok (.aload_n 0, 1) := by decide +kernel
theorem dX8_keep_42 : decode cX8_keep 42 = .ok (.dup, 1) := by decide +kernel
theorem dX8_keep_43 : decode cX8_keep 43 = .ok (.getfield 170, 3) := by decide +kernel
theorem dX8_keep_46 : decode cX8_keep 46 = .ok (.iconst 1, 1) := by decide +kernel
theorem dX8_keep_47 : decode cX8_keep 47 = .ok (.iadd, 1) := by decide +kernel
theorem dX8_keep_48 : decode cX8_keep 48 = .ok (.putfield 170, 3) := by decide +kernel
theorem dX8_keep_51 : decode cX8_keep 51 = .ok (.return_, 1) := by decide +kernel
set_option maxRecDepth 20000 in
theorem ggX8_bill_X8_isOwner : GoodIn wsX8_bill wsX8_isOwner := goodIn_r _ [6, 7, 8, 5, 9] (by decide +kernel) (by decide +kernel)
set_option maxRecDepth 20000 in
theorem gX8_bill_X8_isOwner : GoodIn wsX8_bill (va_wsS RX8 110 yX8_isOwner wsX8_isOwner) := goodIn_app (goodIn_of _ (by decide +kernel)) ggX8_bill_X8_isOwner
set_option maxRecDepth 20000 in
theorem ggX8_bill_X8_isMonth : GoodIn wsX8_bill wsX8_isMonth := goodIn_r _ [12, 7, 8, 5, 9] (by decide +kernel) (by decide +kernel)
set_option maxRecDepth 20000 in
theorem gX8_bill_X8_isMonth : GoodIn wsX8_bill (va_wsS RX8 164 yX8_isMonth wsX8_isMonth) := goodIn_app (goodIn_of _ (by decide +kernel)) ggX8_bill_X8_isMonth
set_option maxRecDepth 20000 in
theorem ggX8_bill_X8_sumOf : GoodIn wsX8_bill wsX8_sumOf := goodIn_r _ [16, 17, 18, 19, 5, 20, 21, 22, 23, 24, 25, 26, 27, 28, 29, 7, 8, 9, 30, 31, 32, 33, 34, 35, 36, 37, 38, 39, 40, 41, 42, 43, 44, 45, 46, 47, 48, 49, 50, 51, 52, 53, 54, 55, 56, 57, 67, 68, 69, 70, 71, 72, 73, 74, 75, 76, 77, 78, 79, 80, 81, 82, 83, 84, 85, 86, 87, 88, 89, 90, 91, 92, 93, 94, 95, 96, 97, 98, 99, 100] (by decide +kernel) (by decide +kernel)
set_option maxRecDepth 20000 in
theorem gX8_bill_X8_sumOf : GoodIn wsX8_bill (wsV RX8 167 RX8 yX8_sumOf wsX8_sumOf) := goodIn_app (goodIn_of _ (by decide +kernel)) ggX8_bill_X8_sumOf
set_option maxRecDepth 20000 in
theorem ggX8_bill_X8_keep : GoodIn wsX8_bill wsX8_keep := goodIn_r _ [61, 62, 63, 64, 65, 66, 67, 68, 69, 70, 71, 72, 73, 74, 75, 76, 77, 78, 79, 80, 81, 82, 83, 84, 85, 86, 87, 88, 89, 90, 91, 92, 93, 94, 95, 96, 97, 98, 99, 100] (by decide +kernel) (by decide +kernel)
set_option maxRecDepth 20000 in
theorem gX8_bill_X8_keep : GoodIn wsX8_bill (wsV RX8 173 RX8 yX8_keep wsX8_keep) := goodIn_app (goodIn_of _ (by decide +kernel)) ggX8_bill_X8_keep
theorem dX8_bill_0 : decode cX8_bill 0 = .ok (.aload_n 0, 1) := by decide +kernel
theorem dX8_bill_1 : decode cX8_bill 1 = .ok (.iload_n 1, 1) := by decide +kernel
theorem dX8_bill_2 : decode cX8_bill 2 = .ok (.invokestatic 110, 3) := by decide +kernel
theorem dX8_bill_5 : decode cX8_bill 5 = .ok (.ifCond .eq 10, 3) := by decide +kernel
theorem dX8_bill_8 : decode cX8_bill 8 = .ok (.iload_n 2, 1) := by decide +kernel
theorem dX8_bill_9 : decode cX8_bill 9 = .ok (.invokestatic 164, 3) := by decide +kernel
theorem dX8_bill_12 : decode cX8_bill 12 = .ok (.ifCond .ne 7, 3) := by decide +kernel
theorem dX8_bill_15 : decode cX8_bill 15 = .ok (.iconst 1, 1) := by decide +kernel
theorem dX8_bill_16 : decode cX8_bill 16 = .ok (.goto 4, 3) := by decide +kernel
theorem dX8_bill_19 : decode cX8_bill 19 = .ok (.iconst 0, 1) := by decide +kernel
theorem dX8_bill_20 : decode cX8_bill 20 = .ok (.putfield 86, 3) := by decide +kernel
theorem dX8_bill_23 : decode cX8_bill 23 = .ok (.aload_n 0, 1) := by decide +kernel
theorem dX8_bill_24 : decode cX8_bill 24 = .ok (.getfield 86, 3) := by decide +kernel
theorem dX8_bill_27 : decode cX8_bill 27 = .ok (.ifCond .ne 26, 3) := by decide +kernel
theorem dX8_bill_30 : decode cX8_bill 30 = .ok (.aload_n 0, 1) := by decide +kernel
theorem dX8_bill_31 : decode cX8_bill 31 = .ok (.aload_n 0, 1) := by decide +kernel
theorem dX8_bill_32 : decode cX8_bill 32 = .ok (.getfield 80, 3) := by decide +kernel
theorem dX8_bill_35 : decode cX8_bill 35 = .ok (.bipush 120, 2) := by decide +kernel
theorem dX8_bill_37 : decode cX8_bill 37 = .ok (.iload_n 1, 1) := by decide +kernel
theorem dX8_bill_38 : decode cX8_bill 38 = .ok (.imul, 1) := by decide +kernel
theorem dX8_bill_39 : decode cX8_bill 39 = .ok (.iload_n 2, 1) := by decide +kernel
theorem dX8_bill_40 : decode cX8_bill 40 = .ok (.iadd, 1) := by decide +kernel
theorem dX8_bill_41 : decode cX8_bill 41 = .ok (.baload, 1) := by decide +kernel
theorem dX8_bill_42 : decode cX8_bill 42 = .ok (.ifCond .eq 7, 3) := by decide +kernel
theorem dX8_bill_45 : decode cX8_bill 45 = .ok (.iconst 2, 1) := by decide +kernel
theorem dX8_bill_46 : decode cX8_bill 46 = .ok (.goto 4, 3) := by decide +kernel
theorem dX8_bill_49 : decode cX8_bill 49 = .ok (.iconst 0, 1) := by decide +kernel
theorem dX8_bill_50 : decode cX8_bill 50 = .ok (.putfield 86, 3) := by decide +kernel
theorem dX8_bill_53 : decode cX8_bill 53 = .ok (.aload_n 0, 1) := by decide +kernel
theorem dX8_bill_54 : decode cX8_bill 54 = .ok (.getfield 86, 3) := by decide +kernel
theorem dX8_bill_57 : decode cX8_bill 57 = .ok (.ifCond .le 5, 3) := by decide +kernel
theorem dX8_bill_60 : decode cX8_bill 60 = .ok (.iconst 0, 1) := by decide +kernel
theorem dX8_bill_61 : decode cX8_bill 61 = .ok (.ireturn, 1) := by decide +kernel
theorem dX8_bill_62 : decode cX8_bill 62 = .ok (.aload_n 0, 1) := by decide +kernel
theorem dX8_bill_63 : decode cX8_bill 63 = .ok (.getfield 80, 3) := by decide +kernel
theorem dX8_bill_66 : decode cX8_bill 66 = .ok (.bipush 120, 2) := by decide +kernel
theorem dX8_bill_68 : decode cX8_bill 68 = .ok (.iload_n 1, 1) := by decide +kernel
theorem dX8_bill_69 : decode cX8_bill 69 = .ok (.imul, 1) := by decide +kernel
theorem dX8_bill_70 : decode cX8_bill 70 = .ok (.iload_n 2, 1) := by decide +kernel
theorem dX8_bill_71 : decode cX8_bill 71 = .ok (.iadd, 1) := by decide +kernel
theorem dX8_bill_72 : decode cX8_bill 72 = .ok (.iconst 1, 1) := by decide +kernel
theorem dX8_bill_73 : decode cX8_bill 73 = .ok (.bastore, 1) := by decide +kernel
theorem dX8_bill_74 : decode cX8_bill 74 = .ok (.aload_n 0, 1) := by decide +kernel
theorem dX8_bill_75 : decode cX8_bill 75 = .ok (.iload_n 1, 1) := by decide +kernel
theorem dX8_bill_76 : decode cX8_bill 76 = .ok (.iload_n 2, 1) := by decide +kernel
theorem dX8_bill_77 : decode cX8_bill 77 = .ok (.aload_n 0, 1) := by decide +kernel
theorem dX8_bill_78 : decode cX8_bill 78 = .ok (.iload_n 1, 1) := by decide +kernel
theorem dX8_bill_79 : decode cX8_bill 79 = .ok (.iload_n 1, 1) := by decide +kernel
theorem dX8_bill_80 : decode cX8_bill 80 = .ok (.iload_n 2, 1) := by decide +kernel
theorem dX8_bill_81 : decode cX8_bill 81 = .ok (.invokevirtual 167, 3) := by decide +kernel
theorem dX8_bill_84 : decode cX8_bill 84 = .ok (.iconst 0, 1) := by decide +kernel
theorem dX8_bill_85 : decode cX8_bill 85 = .ok (.invokevirtual 173, 3) := by decide +kernel
theorem dX8_bill_88 : decode cX8_bill 88 = .ok (.aload_n 0, 1) := by decide +kernel
theorem dX8_bill_89 : decode cX8_bill 89 = .ok (.iload_n 1, 1) := by decide +kernel
theorem dX8_bill_90 : decode cX8_bill 90 = .ok (.iload_n 1, 1) := by decide +kernel
theorem dX8_bill_91 : decode cX8_bill 91 = .ok (.iload_n 2, 1) := by decide +kernel
theorem dX8_bill_92 : decode cX8_bill 92 = .ok (.invokevirtual 167, 3) := by decide +kernel
theorem dX8_bill_95 : decode cX8_bill 95 = .ok (.ireturn, 1) := by decide +kernel
set_option maxRecDepth 20000 in
theorem ggX8_correct_X8_isOwner : GoodIn wsX8_correct wsX8_isOwner := goodIn_r _ [10, 11, 12, 9, 13] (by decide +kernel) (by decide +kernel)
set_option maxRecDepth 20000 in
theorem gX8_correct_X8_isOwner : GoodIn wsX8_correct (va_wsS RX8 110 yX8_isOwner wsX8_isOwner) := goodIn_app (goodIn_of _ (by decide +kernel)) ggX8_correct_X8_isOwner
set_option maxRecDepth 20000 in
theorem ggX8_correct_X8_isMonth : GoodIn wsX8_correct wsX8_isMonth := goodIn_r _ [16, 11, 12, 9, 13] (by decide +kernel) (by decide +kernel)
set_option maxRecDepth 20000 in
theorem gX8_correct_X8_isMonth : GoodIn wsX8_correct (va_wsS RX8 164 yX8_isMonth wsX8_isMonth) := goodIn_app (goodIn_of _ (by decide +kernel)) ggX8_correct_X8_isMonth
set_option maxRecDepth 20000 in
theorem ggX8_correct_X8_sumOf : GoodIn wsX8_correct wsX8_sumOf := goodIn_r _ [20, 21, 22, 23, 9, 24, 25, 26, 27, 28, 29, 30, 31, 32, 33, 11, 12, 13, 34, 35, 36, 37, 38, 39, 40, 41, 42, 43, 44, 45, 46, 47, 48, 49, 50, 51, 52, 53, 54, 55, 56, 57, 58, 59, 60, 61, 67, 68, 69, 70, 71, 72, 73, 74, 75, 76, 77, 78, 79, 80, 81, 82, 83, 84, 85, 86, 87, 88, 89, 90, 91, 92, 93, 94, 95, 96, 97, 98, 99, 100] (by decide +kernel) (by decide +kernel)
set_option maxRecDepth 20000 in
theorem gX8_correct_X8_sumOf : GoodIn wsX8_correct (wsV RX8 167 RX8 yX8_sumOf wsX8_sumOf) := goodIn_app (goodIn_of _ (by decide +kernel)) ggX8_correct_X8_sumOf
set_option maxRecDepth 20000 in
theorem ggX8_correct_X8_keep : GoodIn wsX8_correct wsX8_keep := goodIn_r _ [65, 4, 3, 5, 6, 66, 67, 68, 69, 70, 71, 72, 73, 74, 75, 76, 77, 78, 79, 80, 81, 82, 83, 84, 85, 86, 87, 88, 89, 90, 91, 92, 93, 94, 95, 96, 97, 98, 99, 100] (by decide +kernel) (by decide +kernel)
set_option maxRecDepth 20000 in
theorem gX8_correct_X8_keep : GoodIn wsX8_correct (wsV RX8 173 RX8 yX8_keep wsX8_keep) := goodIn_app (goodIn_of _ (by decide +kernel)) ggX8_correct_X8_keep
theorem dX8_correct_0 : decode cX8_correct 0 = .ok (.aload_n 0, 1) := by decide +kernel
theorem dX8_correct_1 : decode cX8_correct 1 = .ok (.iload_n 1, 1) := by decide +kernel
theorem dX8_correct_2 : decode cX8_correct 2 = .ok (.invokestatic 110, 3) := by decide +kernel
theorem dX8_correct_5 : decode cX8_correct 5 = .ok (.ifCond .eq 10, 3) := by decide +kernel
theorem dX8_correct_8 : decode cX8_correct 8 = .ok (.iload_n 2, 1) := by decide +kernel
theorem dX8_correct_9 : decode cX8_correct 9 = .ok (.invokestatic 164, 3) := by decide +kernel
theorem dX8_correct_12 : decode cX8_correct 12 = .ok (.ifCond .ne 7, 3) := by decide +kernel
theorem dX8_correct_15 : decode cX8_correct 15 = .ok (.iconst 1, 1) := by decide +kernel
theorem dX8_correct_16 : decode cX8_correct 16 = .ok (.goto 4, 3) := by decide +kernel
theorem dX8_correct_19 : decode cX8_correct 19 = .ok (.iconst 0, 1) := by decide +kernel
theorem dX8_correct_20 : decode cX8_correct 20 = .ok (.putfield 86, 3) := by decide +kernel
theorem dX8_correct_23 : decode cX8_correct 23 = .ok (.aload_n 0, 1) := by decide +kernel
theorem dX8_correct_24 : decode cX8_correct 24 = .ok (.getfield 86, 3) := by decide +kernel
theorem dX8_correct_27 : decode cX8_correct 27 = .ok (.ifCond .ne 26, 3) := by decide +kernel
theorem dX8_correct_30 : decode cX8_correct 30 = .ok (.aload_n 0, 1) := by decide +kernel
theorem dX8_correct_31 : decode cX8_correct 31 = .ok (.aload_n 0, 1) := by decide +kernel
theorem dX8_correct_32 : decode cX8_correct 32 = .ok (.getfield 80, 3) := by decide +kernel
theorem dX8_correct_35 : decode cX8_correct 35 = .ok (.bipush 120, 2) := by decide +kernel
theorem dX8_correct_37 : decode cX8_correct 37 = .ok (.iload_n 1, 1) := by decide +kernel
theorem dX8_correct_38 : decode cX8_correct 38 = .ok (.imul, 1) := by decide +kernel
theorem dX8_correct_39 : decode cX8_correct 39 = .ok (.iload_n 2, 1) := by decide +kernel
theorem dX8_correct_40 : decode cX8_correct 40 = .ok (.iadd, 1) := by decide +kernel
theorem dX8_correct_41 : decode cX8_correct 41 = .ok (.baload, 1) := by decide +kernel
theorem dX8_correct_42 : decode cX8_correct 42 = .ok (.ifCond .ne 7, 3) := by decide +kernel
theorem dX8_correct_45 : decode cX8_correct 45 = .ok (.iconst 2, 1) := by decide +kernel
theorem dX8_correct_46 : decode cX8_correct 46 = .ok (.goto 4, 3) := by decide +kernel
theorem dX8_correct_49 : decode cX8_correct 49 = .ok (.iconst 0, 1) := by decide +kernel
theorem dX8_correct_50 : decode cX8_correct 50 = .ok (.putfield 86, 3) := by decide +kernel
theorem dX8_correct_53 : decode cX8_correct 53 = .ok (.aload_n 0, 1) := by decide +kernel
theorem dX8_correct_54 : decode cX8_correct 54 = .ok (.getfield 86, 3) := by decide +kernel
theorem dX8_correct_57 : decode cX8_correct 57 = .ok (.ifCond .le 5, 3) := by decide +kernel
theorem dX8_correct_60 : decode cX8_correct 60 = .ok (.iconst 0, 1) := by decide +kernel
theorem dX8_correct_61 : decode cX8_correct 61 = .ok (.ireturn, 1) := by decide +kernel
theorem dX8_correct_62 : decode cX8_correct 62 = .ok (.aload_n 0, 1) := by decide +kernel
theorem dX8_correct_63 : decode cX8_correct 63 = .ok (.iload_n 1, 1) := by decide +kernel
theorem dX8_correct_64 : decode cX8_correct 64 = .ok (.iload_n 1, 1) := by decide +kernel
theorem dX8_correct_65 : decode cX8_correct 65 = .ok (.iload_n 2, 1) := by decide +kernel
theorem dX8_correct_66 : decode cX8_correct 66 = .ok (.invokevirtual 167, 3) := by decide +kernel
theorem dX8_correct_69 : decode cX8_correct 69 = .ok (.istore_n 3, 1) := by decide +kernel
theorem dX8_correct_70 : decode cX8_correct 70 = .ok (.iconst 0, 1) := by decide +kernel
theorem dX8_correct_71 : decode cX8_correct 71 = .ok (.istore 4, 2) := by decide +kernel
theorem dX8_correct_73 : decode cX8_correct 73 = .ok (.iload 4, 2) := by decide +kernel
theorem dX8_correct_75 : decode cX8_correct 75 = .ok (.aload_n 0, 1) := by decide +kernel
theorem dX8_correct_76 : decode cX8_correct 76 = .ok (.getfield 170, 3) := by decide +kernel
theorem dX8_correct_79 : decode cX8_correct 79 = .ok (.if_icmp .ge 45, 3) := by decide +kernel
theorem dX8_correct_82 : decode cX8_correct 82 = .ok (.iload_n 3, 1) := by decide +kernel
theorem dX8_correct_83 : decode cX8_correct 83 = .ok (.aload_n 0, 1) := by decide +kernel
theorem dX8_correct_84 : decode cX8_correct 84 = .ok (.getfield 67, 3) := by decide +kernel
theorem dX8_correct_87 : decode cX8_correct 87 = .ok (.iload 4, 2) := by decide +kernel
theorem dX8_correct_89 : decode cX8_correct 89 = .ok (.iaload, 1) := by decide +kernel
theorem dX8_correct_90 : decode cX8_correct 90 = .ok (.iload_n 1, 1) := by decide +kernel
theorem dX8_correct_91 : decode cX8_correct 91 = .ok (.if_icmp .ne 24, 3) := by decide +kernel
theorem dX8_correct_94 : decode cX8_correct 94 = .ok (.aload_n 0, 1) := by decide +kernel
theorem dX8_correct_95 : decode cX8_correct 95 = .ok (.getfield 70, 3) := by decide +kernel
theorem dX8_correct_98 : decode cX8_correct 98 = .ok (.iload 4, 2) := by decide +kernel
theorem dX8_correct_100 : decode cX8_correct 100 = .ok (.iaload, 1) := by decide +kernel
theorem dX8_correct_101 : decode cX8_correct 101 = .ok (.iload_n 2, 1) := by decide +kernel
theorem dX8_correct_102 : decode cX8_correct 102 = .ok (.if_icmp .ne 13, 3) := by decide +kernel
theorem dX8_correct_105 : decode cX8_correct 105 = .ok (.aload_n 0, 1) := by decide +kernel
theorem dX8_correct_106 : decode cX8_correct 106 = .ok (.getfield 73, 3) := by decide +kernel
theorem dX8_correct_109 : decode cX8_correct 109 = .ok (.iload 4, 2) := by decide +kernel
theorem dX8_correct_111 : decode cX8_correct 111 = .ok (.iaload, 1) := by decide +kernel
theorem dX8_correct_112 : decode cX8_correct 112 = .ok (.goto 4, 3) := by decide +kernel
theorem dX8_correct_115 : decode cX8_correct 115 = .ok (.iconst 0, 1) := by decide +kernel
theorem dX8_correct_116 : decode cX8_correct 116 = .ok (.isub, 1) := by decide +kernel
theorem dX8_correct_117 : decode cX8_correct 117 = .ok (.istore_n 3, 1) := by decide +kernel
theorem dX8_correct_118 : decode cX8_correct 118 = .ok (.iinc 4 1, 3) := by decide +kernel
theorem dX8_correct_121 : decode cX8_correct 121 = .ok (.goto (-48), 3) := by decide +kernel
theorem dX8_correct_124 : decode cX8_correct 124 = .ok (.iload_n 3, 1) := by decide +kernel
theorem dX8_correct_125 : decode cX8_correct 125 = .ok (.ifCond .eq 11, 3) := by decide +kernel
theorem dX8_correct_128 : decode cX8_correct 128 = .ok (.aload_n 0, 1) := by decide +kernel
theorem dX8_correct_129 : decode cX8_correct 129 = .ok (.iload_n 1, 1) := by decide +kernel
theorem dX8_correct_130 : decode cX8_correct 130 = .ok (.iload_n 2, 1) := by decide +kernel
theorem dX8_correct_131 : decode cX8_correct 131 = .ok (.iload_n 3, 1) := by decide +kernel
theorem dX8_correct_132 : decode cX8_correct 132 = .ok (.iconst 1, 1) := by decide +kernel
theorem dX8_correct_133 : decode cX8_correct 133 = .ok (.invokevirtual 173, 3) := by decide +kernel
theorem dX8_correct_136 : decode cX8_correct 136 = .ok (.iload_n 3, 1) := by decide +kernel
theorem dX8_correct_137 : decode cX8_correct 137 = .ok (.ireturn, 1) := by decide +kernel
theorem dX8_rowOf_0 : decode cX8_rowOf 0 = .ok (.iload_n 2, 1) := by decide +kernel
theorem dX8_rowOf_1 : decode cX8_rowOf 1 = .ok (.istore_n 3, 1) := by decide +kernel
theorem dX8_rowOf_2 : decode cX8_rowOf 2 = .ok (.iconst 0, 1) := by decide +kernel
theorem dX8_rowOf_3 : decode cX8_rowOf 3 = .ok (.istore 4, 2) := by decide +kernel
theorem dX8_rowOf_5 : decode cX8_rowOf 5 = .ok (.iload 4, 2) := by decide +kernel
theorem dX8_rowOf_7 : decode cX8_rowOf 7 = .ok (.aload_n 0, 1) := by decide +kernel
theorem dX8_rowOf_8 : decode cX8_rowOf 8 = .ok (.getfield 170, 3) := by decide +kernel
theorem dX8_rowOf_11 : decode cX8_rowOf 11 = .ok (.if_icmp .ge 33, 3) := by decide +kernel
theorem dX8_rowOf_14 : decode cX8_rowOf 14 = .ok (.aload_n 0, 1) := by decide +kernel
theorem dX8_rowOf_15 : decode cX8_rowOf 15 = .ok (.getfield 67, 3) := by decide +kernel
theorem dX8_rowOf_18 : decode cX8_rowOf 18 = .ok (.iload 4, 2) := by decide +kernel
theorem dX8_rowOf_20 : decode cX8_rowOf 20 = .ok (.iaload, 1) := by decide +kernel
theorem dX8_rowOf_21 : decode cX8_rowOf 21 = .ok (.iload_n 1, 1) := by decide +kernel
theorem dX8_rowOf_22 : decode cX8_rowOf 22 = .ok (.if_icmp .eq 6, 3) := by decide +kernel
theorem dX8_rowOf_25 : decode cX8_rowOf 25 = .ok (.goto 13, 3) := by decide +kernel
theorem dX8_rowOf_28 : decode cX8_rowOf 28 = .ok (.iload_n 3, 1) := by decide +kernel
theorem dX8_rowOf_29 : decode cX8_rowOf 29 = .ok (.ifCond .ne 6, 3) := by decide +kernel
theorem dX8_rowOf_32 : decode cX8_rowOf 32 = .ok (.iload 4, 2) := by decide +kernel
theorem dX8_rowOf_34 : decode cX8_rowOf 34 = .ok (.ireturn, 1) := by decide +kernel
theorem dX8_rowOf_35 : decode cX8_rowOf 35 = .ok (.iinc 3 (-1), 3) := by decide +kernel
theorem dX8_rowOf_38 : decode cX8_rowOf 38 = .ok (.iinc 4 1, 3) := by decide +kernel
theorem dX8_rowOf_41 : decode cX8_rowOf 41 = .ok (.goto (-36), 3) := by decide +kernel
theorem dX8_rowOf_44 : decode cX8_rowOf 44 = .ok (.iconst (-1), 1) := by decide +kernel
theorem dX8_rowOf_45 : decode cX8_rowOf 45 = .ok (.ireturn, 1) := by decide +kernel
set_option maxRecDepth 20000 in
theorem ggX8_line__X8_isOwner : GoodIn wsX8_line_ wsX8_isOwner := goodIn_r _ [8, 9, 10, 7, 11] (by decide +kernel) (by decide +kernel)
set_option maxRecDepth 20000 in
theorem gX8_line__X8_isOwner : GoodIn wsX8_line_ (va_wsS RX8 110 yX8_isOwner wsX8_isOwner) := goodIn_app (goodIn_of _ (by decide +kernel)) ggX8_line__X8_isOwner
set_option maxRecDepth 20000 in
theorem ggX8_line__X8_rowOf : GoodIn wsX8_line_ wsX8_rowOf := goodIn_r _ [15, 16, 17, 18, 19, 20, 21, 22, 23, 24, 25, 26, 27, 28, 29, 30, 31, 32, 33, 34, 35, 36, 37, 38, 39, 40, 41, 42, 43, 44, 45, 46, 47, 48, 49, 50, 51] (by decide +kernel) (by decide +kernel)
set_option maxRecDepth 20000 in
theorem gX8_line__X8_rowOf : GoodIn wsX8_line_ (wsV RX8 177 RX8 yX8_rowOf wsX8_rowOf) := goodIn_app (goodIn_of _ (by decide +kernel)) ggX8_line__X8_rowOf
set_option maxRecDepth 20000 in
theorem ggX8_line__X8_in : GoodIn wsX8_line_ wsX8_in := goodIn_r _ [11] (by decide +kernel) (by decide +kernel)
set_option maxRecDepth 20000 in
theorem gX8_line__X8_in : GoodIn wsX8_line_ (va_wsS RX8 90 yX8_in wsX8_in) := goodIn_app (goodIn_of _ (by decide +kernel)) ggX8_line__X8_in
theorem dX8_line__0 : decode cX8_line_ 0 = .ok (.aload_n 0, 1) := by decide +kernel
theorem dX8_line__1 : decode cX8_line_ 1 = .ok (.iload_n 1, 1) := by decide +kernel
theorem dX8_line__2 : decode cX8_line_ 2 = .ok (.invokestatic 110, 3) := by decide +kernel
theorem dX8_line__5 : decode cX8_line_ 5 = .ok (.ifCond .ne 7, 3) := by decide +kernel
theorem dX8_line__8 : decode cX8_line_ 8 = .ok (.iconst 2, 1) := by decide +kernel
theorem dX8_line__9 : decode cX8_line_ 9 = .ok (.goto 35, 3) := by decide +kernel
theorem dX8_line__12 : decode cX8_line_ 12 = .ok (.iload_n 2, 1) := by decide +kernel
theorem dX8_line__13 : decode cX8_line_ 13 = .ok (.ifCond .lt 13, 3) := by decide +kernel
theorem dX8_line__16 : decode cX8_line_ 16 = .ok (.aload_n 0, 1) := by decide +kernel
theorem dX8_line__17 : decode cX8_line_ 17 = .ok (.iload_n 1, 1) := by decide +kernel
theorem dX8_line__18 : decode cX8_line_ 18 = .ok (.iload_n 2, 1) := by decide +kernel
theorem dX8_line__19 : decode cX8_line_ 19 = .ok (.invokevirtual 177, 3) := by decide +kernel
theorem dX8_line__22 : decode cX8_line_ 22 = .ok (.iconst (-1), 1) := by decide +kernel
theorem dX8_line__23 : decode cX8_line_ 23 = .ok (.if_icmp .ne 7, 3) := by decide +kernel
theorem dX8_line__26 : decode cX8_line_ 26 = .ok (.iconst 1, 1) := by decide +kernel
theorem dX8_line__27 : decode cX8_line_ 27 = .ok (.goto 17, 3) := by decide +kernel
theorem dX8_line__30 : decode cX8_line_ 30 = .ok (.iload_n 3, 1) := by decide +kernel
theorem dX8_line__31 : decode cX8_line_ 31 = .ok (.iconst 0, 1) := by decide +kernel
theorem dX8_line__32 : decode cX8_line_ 32 = .ok (.iconst 2, 1) := by decide +kernel
theorem dX8_line__33 : decode cX8_line_ 33 = .ok (.invokestatic 90, 3) := by decide +kernel
theorem dX8_line__36 : decode cX8_line_ 36 = .ok (.ifCond .ne 7, 3) := by decide +kernel
theorem dX8_line__39 : decode cX8_line_ 39 = .ok (.iconst 2, 1) := by decide +kernel
theorem dX8_line__40 : decode cX8_line_ 40 = .ok (.goto 4, 3) := by decide +kernel
theorem dX8_line__43 : decode cX8_line_ 43 = .ok (.iconst 0, 1) := by decide +kernel
theorem dX8_line__44 : decode cX8_line_ 44 = .ok (.putfield 86, 3) := by decide +kernel
theorem dX8_line__47 : decode cX8_line_ 47 = .ok (.aload_n 0, 1) := by decide +kernel
theorem dX8_line__48 : decode cX8_line_ 48 = .ok (.getfield 86, 3) := by decide +kernel
theorem dX8_line__51 : decode cX8_line_ 51 = .ok (.ifCond .le 5, 3) := by decide +kernel
theorem dX8_line__54 : decode cX8_line_ 54 = .ok (.iconst 0, 1) := by decide +kernel
theorem dX8_line__55 : decode cX8_line_ 55 = .ok (.ireturn, 1) := by decide +kernel
theorem dX8_line__56 : decode cX8_line_ 56 = .ok (.aload_n 0, 1) := by decide +kernel
theorem dX8_line__57 : decode cX8_line_ 57 = .ok (.iload_n 1, 1) := by decide +kernel
theorem dX8_line__58 : decode cX8_line_ 58 = .ok (.iload_n 2, 1) := by decide +kernel
theorem dX8_line__59 : decode cX8_line_ 59 = .ok (.invokevirtual 177, 3) := by decide +kernel
theorem dX8_line__62 : decode cX8_line_ 62 = .ok (.istore 4, 2) := by decide +kernel
theorem dX8_line__64 : decode cX8_line_ 64 = .ok (.iload_n 3, 1) := by decide +kernel
theorem dX8_line__65 : decode cX8_line_ 65 = .ok (.ifCond .ne 13, 3) := by decide +kernel
theorem dX8_line__68 : decode cX8_line_ 68 = .ok (.aload_n 0, 1) := by decide +kernel
theorem dX8_line__69 : decode cX8_line_ 69 = .ok (.getfield 70, 3) := by decide +kernel
theorem dX8_line__72 : decode cX8_line_ 72 = .ok (.iload 4, 2) := by decide +kernel
theorem dX8_line__74 : decode cX8_line_ 74 = .ok (.iaload, 1) := by decide +kernel
theorem dX8_line__75 : decode cX8_line_ 75 = .ok (.goto 33, 3) := by decide +kernel
theorem dX8_line__78 : decode cX8_line_ 78 = .ok (.iload_n 3, 1) := by decide +kernel
theorem dX8_line__79 : decode cX8_line_ 79 = .ok (.iconst 1, 1) := by decide +kernel
theorem dX8_line__80 : decode cX8_line_ 80 = .ok (.if_icmp .ne 13, 3) := by decide +kernel
theorem dX8_line__83 : decode cX8_line_ 83 = .ok (.aload_n 0, 1) := by decide +kernel
theorem dX8_line__84 : decode cX8_line_ 84 = .ok (.getfield 73, 3) := by decide +kernel
theorem dX8_line__87 : decode cX8_line_ 87 = .ok (.iload 4, 2) := by decide +kernel
theorem dX8_line__89 : decode cX8_line_ 89 = .ok (.iaload, 1) := by decide +kernel
theorem dX8_line__90 : decode cX8_line_ 90 = .ok (.goto 18, 3) := by decide +kernel
theorem dX8_line__93 : decode cX8_line_ 93 = .ok (.aload_n 0, 1) := by decide +kernel
theorem dX8_line__94 : decode cX8_line_ 94 = .ok (.getfield 76, 3) := by decide +kernel
theorem dX8_line__97 : decode cX8_line_ 97 = .ok (.iload 4, 2) := by decide +kernel
theorem dX8_line__99 : decode cX8_line_ 99 = .ok (.baload, 1) := by decide +kernel
theorem dX8_line__100 : decode cX8_line_ 100 = .ok (.ifCond .eq 7, 3) := by decide +kernel
theorem dX8_line__103 : decode cX8_line_ 103 = .ok (.iconst 1, 1) := by decide +kernel
theorem dX8_line__104 : decode cX8_line_ 104 = .ok (.goto 4, 3) := by decide +kernel
theorem dX8_line__107 : decode cX8_line_ 107 = .ok (.iconst 0, 1) := by decide +kernel
theorem dX8_line__108 : decode cX8_line_ 108 = .ok (.ireturn, 1) := by decide +kernel
set_option maxRecDepth 20000 in
theorem ggX8_billed_X8_isOwner : GoodIn wsX8_billed wsX8_isOwner := goodIn_r _ [8, 9, 10, 7, 11] (by decide +kernel) (by decide +kernel)
set_option maxRecDepth 20000 in
theorem gX8_billed_X8_isOwner : GoodIn wsX8_billed (va_wsS RX8 110 yX8_isOwner wsX8_isOwner) := goodIn_app (goodIn_of _ (by decide +kernel)) ggX8_billed_X8_isOwner
theorem dX8_billed_0 : decode cX8_billed 0 = .ok (.aload_n 0, 1) := by decide +kernel
theorem dX8_billed_1 : decode cX8_billed 1 = .ok (.iload_n 1, 1) := by decide +kernel
theorem dX8_billed_2 : decode cX8_billed 2 = .ok (.invokestatic 110, 3) := by decide +kernel
theorem dX8_billed_5 : decode cX8_billed 5 = .ok (.ifCond .eq 7, 3) := by decide +kernel
theorem dX8_billed_8 : decode cX8_billed 8 = .ok (.iconst 0, 1) := by decide +kernel
theorem dX8_billed_9 : decode cX8_billed 9 = .ok (.goto 4, 3) := by decide +kernel
theorem dX8_billed_12 : decode cX8_billed 12 = .ok (.iconst 1, 1) := by decide +kernel
theorem dX8_billed_13 : decode cX8_billed 13 = .ok (.putfield 86, 3) := by decide +kernel
theorem dX8_billed_16 : decode cX8_billed 16 = .ok (.iconst 0, 1) := by decide +kernel
theorem dX8_billed_17 : decode cX8_billed 17 = .ok (.istore_n 2, 1) := by decide +kernel
theorem dX8_billed_18 : decode cX8_billed 18 = .ok (.iconst 0, 1) := by decide +kernel
theorem dX8_billed_19 : decode cX8_billed 19 = .ok (.istore_n 3, 1) := by decide +kernel
theorem dX8_billed_20 : decode cX8_billed 20 = .ok (.iload_n 3, 1) := by decide +kernel
theorem dX8_billed_21 : decode cX8_billed 21 = .ok (.aload_n 0, 1) := by decide +kernel
theorem dX8_billed_22 : decode cX8_billed 22 = .ok (.getfield 170, 3) := by decide +kernel
theorem dX8_billed_25 : decode cX8_billed 25 = .ok (.if_icmp .ge 39, 3) := by decide +kernel
theorem dX8_billed_28 : decode cX8_billed 28 = .ok (.aload_n 0, 1) := by decide +kernel
theorem dX8_billed_29 : decode cX8_billed 29 = .ok (.getfield 86, 3) := by decide +kernel
theorem dX8_billed_32 : decode cX8_billed 32 = .ok (.ifCond .ne 32, 3) := by decide +kernel
theorem dX8_billed_35 : decode cX8_billed 35 = .ok (.iload_n 2, 1) := by decide +kernel
theorem dX8_billed_36 : decode cX8_billed 36 = .ok (.aload_n 0, 1) := by decide +kernel
theorem dX8_billed_37 : decode cX8_billed 37 = .ok (.getfield 67, 3) := by decide +kernel
theorem dX8_billed_40 : decode cX8_billed 40 = .ok (.iload_n 3, 1) := by decide +kernel
theorem dX8_billed_41 : decode cX8_billed 41 = .ok (.iaload, 1) := by decide +kernel
theorem dX8_billed_42 : decode cX8_billed 42 = .ok (.iload_n 1, 1) := by decide +kernel
theorem dX8_billed_43 : decode cX8_billed 43 = .ok (.if_icmp .ne 12, 3) := by decide +kernel
theorem dX8_billed_46 : decode cX8_billed 46 = .ok (.aload_n 0, 1) := by decide +kernel
theorem dX8_billed_47 : decode cX8_billed 47 = .ok (.getfield 73, 3) := by decide +kernel
theorem dX8_billed_50 : decode cX8_billed 50 = .ok (.iload_n 3, 1) := by decide +kernel
theorem dX8_billed_51 : decode cX8_billed 51 = .ok (.iaload, 1) := by decide +kernel
theorem dX8_billed_52 : decode cX8_billed 52 = .ok (.goto 4, 3) := by decide +kernel
theorem dX8_billed_55 : decode cX8_billed 55 = .ok (.iconst 0, 1) := by decide +kernel
theorem dX8_billed_56 : decode cX8_billed 56 = .ok (.iadd, 1) := by decide +kernel
theorem dX8_billed_57 : decode cX8_billed 57 = .ok (.istore_n 2, 1) := by decide +kernel
theorem dX8_billed_58 : decode cX8_billed 58 = .ok (.iinc 3 1, 3) := by decide +kernel
theorem dX8_billed_61 : decode cX8_billed 61 = .ok (.goto (-41), 3) := by decide +kernel
theorem dX8_billed_64 : decode cX8_billed 64 = .ok (.iload_n 2, 1) := by decide +kernel
theorem dX8_billed_65 : decode cX8_billed 65 = .ok (.ireturn, 1) := by decide +kernel
theorem dX8_put_0 : decode cX8_put 0 = .ok (.aload_n 0, 1) := by decide +kernel
theorem dX8_put_1 : decode cX8_put 1 = .ok (.getfield 83, 3) := by decide +kernel
theorem dX8_put_4 : decode cX8_put 4 = .ok (.aload_n 0, 1) := by decide +kernel
theorem dX8_put_5 : decode cX8_put 5 = .ok (.getfield 180, 3) := by decide +kernel
theorem dX8_put_8 : decode cX8_put 8 = .ok (.iload_n 1, 1) := by decide +kernel
theorem dX8_put_9 : decode cX8_put 9 = .ok (.iastore, 1) := by decide +kernel
theorem dX8_put_10 : decode cX8_put 10 = .ok (.aload_n 0, 1) := by decide +kernel
theorem dX8_put_11 : decode cX8_put 11 = .ok (.dup, 1) := by decide +kernel
theorem dX8_put_12 : decode cX8_put 12 = .ok (.getfield 180, 3) := by decide +kernel
theorem dX8_put_15 : decode cX8_put 15 = .ok (.iconst 1, 1) := by decide +kernel
theorem dX8_put_16 : decode cX8_put 16 = .ok (.iadd, 1) := by decide +kernel
theorem dX8_put_17 : decode cX8_put 17 = .ok (.putfield 180, 3) := by decide +kernel
theorem dX8_put_20 : decode cX8_put 20 = .ok (.return_, 1) := by decide +kernel
set_option maxRecDepth 20000 in
theorem ggX8_putNumber_X8_put : GoodIn wsX8_putNumber wsX8_put := goodIn_r _ [5, 6, 7, 8, 9, 10, 11, 12, 13, 14, 15, 16, 17, 18, 19, 20, 21, 22, 23, 24, 25, 26, 27, 28, 29, 30, 31, 32, 33, 34, 35, 36, 37, 38, 39, 40, 41] (by decide +kernel) (by decide +kernel)
set_option maxRecDepth 20000 in
theorem gX8_putNumber_X8_put : GoodIn wsX8_putNumber (wsV RX8 183 RX8 yX8_put wsX8_put) := goodIn_app (goodIn_of _ (by decide +kernel)) ggX8_putNumber_X8_put
theorem dX8_putNumber_0 : decode cX8_putNumber 0 = .ok (.aload_n 0, 1) := by decide +kernel
theorem dX8_putNumber_1 : decode cX8_putNumber 1 = .ok (.bipush 32, 2) := by decide +kernel
theorem dX8_putNumber_3 : decode cX8_putNumber 3 = .ok (.invokevirtual 183, 3) := by decide +kernel
theorem dX8_putNumber_6 : decode cX8_putNumber 6 = .ok (.iload_n 1, 1) := by decide +kernel
theorem dX8_putNumber_7 : decode cX8_putNumber 7 = .ok (.ifCond .ge 8, 3) := by decide +kernel
theorem dX8_putNumber_10 : decode cX8_putNumber 10 = .ok (.iload_n 1, 1) := by decide +kernel
theorem dX8_putNumber_11 : decode cX8_putNumber 11 = .ok (.ineg, 1) := by decide +kernel
theorem dX8_putNumber_12 : decode cX8_putNumber 12 = .ok (.goto 4, 3) := by decide +kernel
theorem dX8_putNumber_15 : decode cX8_putNumber 15 = .ok (.iload_n 1, 1) := by decide +kernel
theorem dX8_putNumber_16 : decode cX8_putNumber 16 = .ok (.istore_n 2, 1) := by decide +kernel
theorem dX8_putNumber_17 : decode cX8_putNumber 17 = .ok (.iload_n 1, 1) := by decide +kernel
theorem dX8_putNumber_18 : decode cX8_putNumber 18 = .ok (.ifCond .ge 9, 3) := by decide +kernel
theorem dX8_putNumber_21 : decode cX8_putNumber 21 = .ok (.aload_n 0, 1) := by decide +kernel
theorem dX8_putNumber_22 : decode cX8_putNumber 22 = .ok (.bipush 45, 2) := by decide +kernel
theorem dX8_putNumber_24 : decode cX8_putNumber 24 = .ok (.invokevirtual 183, 3) := by decide +kernel
theorem dX8_putNumber_27 : decode cX8_putNumber 27 = .ok (.iconst 1, 1) := by decide +kernel
theorem dX8_putNumber_28 : decode cX8_putNumber 28 = .ok (.istore_n 3, 1) := by decide +kernel
theorem dX8_putNumber_29 : decode cX8_putNumber 29 = .ok (.iload_n 2, 1) := by decide +kernel
theorem dX8_putNumber_30 : decode cX8_putNumber 30 = .ok (.iload_n 3, 1) := by decide +kernel
theorem dX8_putNumber_31 : decode cX8_putNumber 31 = .ok (.idiv, 1) := by decide +kernel
theorem dX8_putNumber_32 : decode cX8_putNumber 32 = .ok (.bipush 9, 2) := by decide +kernel
theorem dX8_putNumber_34 : decode cX8_putNumber 34 = .ok (.if_icmp .le 11, 3) := by decide +kernel
theorem dX8_putNumber_37 : decode cX8_putNumber 37 = .ok (.iload_n 3, 1) := by decide +kernel
theorem dX8_putNumber_38 : decode cX8_putNumber 38 = .ok (.bipush 10, 2) := by decide +kernel
theorem dX8_putNumber_40 : decode cX8_putNumber 40 = .ok (.imul, 1) := by decide +kernel
theorem dX8_putNumber_41 : decode cX8_putNumber 41 = .ok (.istore_n 3, 1) := by decide +kernel
theorem dX8_putNumber_42 : decode cX8_putNumber 42 = .ok (.goto (-13), 3) := by decide +kernel
theorem dX8_putNumber_45 : decode cX8_putNumber 45 = .ok (.iload_n 3, 1) := by decide +kernel
theorem dX8_putNumber_46 : decode cX8_putNumber 46 = .ok (.ifCond .le 24, 3) := by decide +kernel
theorem dX8_putNumber_49 : decode cX8_putNumber 49 = .ok (.aload_n 0, 1) := by decide +kernel
theorem dX8_putNumber_50 : decode cX8_putNumber 50 = .ok (.bipush 48, 2) := by decide +kernel
theorem dX8_putNumber_52 : decode cX8_putNumber 52 = .ok (.iload_n 2, 1) := by decide +kernel
theorem dX8_putNumber_53 : decode cX8_putNumber 53 = .ok (.iload_n 3, 1) := by decide +kernel
theorem dX8_putNumber_54 : decode cX8_putNumber 54 = .ok (.idiv, 1) := by decide +kernel
theorem dX8_putNumber_55 : decode cX8_putNumber 55 = .ok (.bipush 10, 2) := by decide +kernel
theorem dX8_putNumber_57 : decode cX8_putNumber 57 = .ok (.irem, 1) := by decide +kernel
theorem dX8_putNumber_58 : decode cX8_putNumber 58 = .ok (.iadd, 1) := by decide +kernel
theorem dX8_putNumber_59 : decode cX8_putNumber 59 = .ok (.invokevirtual 183, 3) := by decide +kernel
theorem dX8_putNumber_62 : decode cX8_putNumber 62 = .ok (.iload_n 3, 1) := by decide +kernel
theorem dX8_putNumber_63 : decode cX8_putNumber 63 = .ok (.bipush 10, 2) := by decide +kernel
theorem dX8_putNumber_65 : decode cX8_putNumber 65 = .ok (.idiv, 1) := by decide +kernel
theorem dX8_putNumber_66 : decode cX8_putNumber 66 = .ok (.istore_n 3, 1) := by decide +kernel
theorem dX8_putNumber_67 : decode cX8_putNumber 67 = .ok (.goto (-22), 3) := by decide +kernel
theorem dX8_putNumber_70 : decode cX8_putNumber 70 = .ok (.return_, 1) := by decide +kernel
set_option maxRecDepth 20000 in
theorem ggX8_print_X8_isOwner : GoodIn wsX8_print wsX8_isOwner := goodIn_r _ [11, 12, 13, 10, 14] (by decide +kernel) (by decide +kernel)
set_option maxRecDepth 20000 in
theorem gX8_print_X8_isOwner : GoodIn wsX8_print (va_wsS RX8 110 yX8_isOwner wsX8_isOwner) := goodIn_app (goodIn_of _ (by decide +kernel)) ggX8_print_X8_isOwner
set_option maxRecDepth 20000 in
theorem ggX8_print_X8_put : GoodIn wsX8_print wsX8_put := goodIn_r _ [18, 19, 2, 24, 25, 26, 27, 28, 29, 30, 31, 32, 33, 34, 35, 36, 37, 38, 39, 40, 41, 42, 43, 44, 45, 46, 47, 48, 49, 50, 51, 52, 53, 54, 55, 56, 57] (by decide +kernel) (by decide +kernel)
set_option maxRecDepth 20000 in
theorem gX8_print_X8_put : GoodIn wsX8_print (wsV RX8 183 RX8 yX8_put wsX8_put) := goodIn_app (goodIn_of _ (by decide +kernel)) ggX8_print_X8_put
set_option maxRecDepth 20000 in
theorem ggX8_print_X8_putNumber : GoodIn wsX8_print wsX8_putNumber := goodIn_r _ [23, 15, 16, 17, 10, 18, 19, 2, 24, 25, 26, 27, 28, 29, 30, 31, 32, 33, 34, 35, 36, 37, 38, 39, 40, 41, 42, 43, 44, 45, 46, 47, 48, 49, 50, 51, 52, 53, 54, 55, 56, 57] (by decide +kernel) (by decide +kernel)
set_option maxRecDepth 20000 in
theorem gX8_print_X8_putNumber : GoodIn wsX8_print (wsV RX8 187 RX8 yX8_putNumber wsX8_putNumber) := goodIn_app (goodIn_of _ (by decide +kernel)) ggX8_print_X8_putNumber
theorem dX8_print_0 : decode cX8_print 0 = .ok (.aload_n 0, 1) := by decide +kernel
theorem dX8_print_1 : decode cX8_print 1 = .ok (.iload_n 1, 1) := by decide +kernel
theorem dX8_print_2 : decode cX8_print 2 = .ok (.invokestatic 110, 3) := by decide +kernel
theorem dX8_print_5 : decode cX8_print 5 = .ok (.ifCond .eq 7, 3) := by decide +kernel
theorem dX8_print_8 : decode cX8_print 8 = .ok (.iconst 0, 1) := by decide +kernel
theorem dX8_print_9 : decode cX8_print 9 = .ok (.goto 4, 3) := by decide +kernel
theorem dX8_print_12 : decode cX8_print 12 = .ok (.iconst 1, 1) := by decide +kernel
theorem dX8_print_13 : decode cX8_print 13 = .ok (.putfield 86, 3) := by decide +kernel
theorem dX8_print_16 : decode cX8_print 16 = .ok (.aload_n 0, 1) := by decide +kernel
theorem dX8_print_17 : decode cX8_print 17 = .ok (.getfield 86, 3) := by decide +kernel
theorem dX8_print_20 : decode cX8_print 20 = .ok (.ifCond .le 5, 3) := by decide +kernel
theorem dX8_print_23 : decode cX8_print 23 = .ok (.iconst 0, 1) := by decide +kernel
theorem dX8_print_24 : decode cX8_print 24 = .ok (.ireturn, 1) := by decide +kernel
theorem dX8_print_25 : decode cX8_print 25 = .ok (.aload_n 0, 1) := by decide +kernel
theorem dX8_print_26 : decode cX8_print 26 = .ok (.iconst 0, 1) := by decide +kernel
theorem dX8_print_27 : decode cX8_print 27 = .ok (.putfield 180, 3) := by decide +kernel
theorem dX8_print_30 : decode cX8_print 30 = .ok (.iconst 0, 1) := by decide +kernel
theorem dX8_print_31 : decode cX8_print 31 = .ok (.istore_n 2, 1) := by decide +kernel
theorem dX8_print_32 : decode cX8_print 32 = .ok (.iload_n 2, 1) := by decide +kernel
theorem dX8_print_33 : decode cX8_print 33 = .ok (.aload_n 0, 1) := by decide +kernel
theorem dX8_print_34 : decode cX8_print 34 = .ok (.getfield 170, 3) := by decide +kernel
theorem dX8_print_37 : decode cX8_print 37 = .ok (.if_icmp .ge 68, 3) := by decide +kernel
theorem dX8_print_40 : decode cX8_print 40 = .ok (.aload_n 0, 1) := by decide +kernel
theorem dX8_print_41 : decode cX8_print 41 = .ok (.getfield 67, 3) := by decide +kernel
theorem dX8_print_44 : decode cX8_print 44 = .ok (.iload_n 2, 1) := by decide +kernel
theorem dX8_print_45 : decode cX8_print 45 = .ok (.iaload, 1) := by decide +kernel
theorem dX8_print_46 : decode cX8_print 46 = .ok (.iload_n 1, 1) := by decide +kernel
theorem dX8_print_47 : decode cX8_print 47 = .ok (.if_icmp .eq 6, 3) := by decide +kernel
theorem dX8_print_50 : decode cX8_print 50 = .ok (.goto 49, 3) := by decide +kernel
theorem dX8_print_53 : decode cX8_print 53 = .ok (.aload_n 0, 1) := by decide +kernel
theorem dX8_print_54 : decode cX8_print 54 = .ok (.aload_n 0, 1) := by decide +kernel
theorem dX8_print_55 : decode cX8_print 55 = .ok (.getfield 76, 3) := by decide +kernel
theorem dX8_print_58 : decode cX8_print 58 = .ok (.iload_n 2, 1) := by decide +kernel
theorem dX8_print_59 : decode cX8_print 59 = .ok (.baload, 1) := by decide +kernel
theorem dX8_print_60 : decode cX8_print 60 = .ok (.ifCond .eq 8, 3) := by decide +kernel
theorem dX8_print_63 : decode cX8_print 63 = .ok (.bipush 67, 2) := by decide +kernel
theorem dX8_print_65 : decode cX8_print 65 = .ok (.goto 5, 3) := by decide +kernel
theorem dX8_print_68 : decode cX8_print 68 = .ok (.bipush 66, 2) := by decide +kernel
theorem dX8_print_70 : decode cX8_print 70 = .ok (.invokevirtual 183, 3) := by decide +kernel
theorem dX8_print_73 : decode cX8_print 73 = .ok (.aload_n 0, 1) := by decide +kernel
theorem dX8_print_74 : decode cX8_print 74 = .ok (.aload_n 0, 1) := by decide +kernel
theorem dX8_print_75 : decode cX8_print 75 = .ok (.getfield 70, 3) := by decide +kernel
theorem dX8_print_78 : decode cX8_print 78 = .ok (.iload_n 2, 1) := by decide +kernel
theorem dX8_print_79 : decode cX8_print 79 = .ok (.iaload, 1) := by decide +kernel
theorem dX8_print_80 : decode cX8_print 80 = .ok (.invokevirtual 187, 3) := by decide +kernel
theorem dX8_print_83 : decode cX8_print 83 = .ok (.aload_n 0, 1) := by decide +kernel
theorem dX8_print_84 : decode cX8_print 84 = .ok (.aload_n 0, 1) := by decide +kernel
theorem dX8_print_85 : decode cX8_print 85 = .ok (.getfield 73, 3) := by decide +kernel
theorem dX8_print_88 : decode cX8_print 88 = .ok (.iload_n 2, 1) := by decide +kernel
theorem dX8_print_89 : decode cX8_print 89 = .ok (.iaload, 1) := by decide +kernel
theorem dX8_print_90 : decode cX8_print 90 = .ok (.invokevirtual 187, 3) := by decide +kernel
theorem dX8_print_93 : decode cX8_print 93 = .ok (.aload_n 0, 1) := by decide +kernel
theorem dX8_print_94 : decode cX8_print 94 = .ok (.bipush 10, 2) := by decide +kernel
theorem dX8_print_96 : decode cX8_print 96 = .ok (.invokevirtual 183, 3) := by decide +kernel
theorem dX8_print_99 : decode cX8_print 99 = .ok (.iinc 2 1, 3) := by decide +kernel
theorem dX8_print_102 : decode cX8_print 102 = .ok (.goto (-70), 3) := by decide +kernel
theorem dX8_print_105 : decode cX8_print 105 = .ok (.aload_n 0, 1) := by decide +kernel
theorem dX8_print_106 : decode cX8_print 106 = .ok (.getfield 180, 3) := by decide +kernel
theorem dX8_print_109 : decode cX8_print 109 = .ok (.ireturn, 1) := by decide +kernel
set_option maxRecDepth 20000 in
theorem ggX8_at_X8_in : GoodIn wsX8_at wsX8_in := goodIn_r _ [7] (by decide +kernel) (by decide +kernel)
set_option maxRecDepth 20000 in
theorem gX8_at_X8_in : GoodIn wsX8_at (va_wsS RX8 90 yX8_in wsX8_in) := goodIn_app (goodIn_of _ (by decide +kernel)) ggX8_at_X8_in
theorem dX8_at_0 : decode cX8_at 0 = .ok (.aload_n 0, 1) := by decide +kernel
theorem dX8_at_1 : decode cX8_at 1 = .ok (.iload_n 1, 1) := by decide +kernel
theorem dX8_at_2 : decode cX8_at 2 = .ok (.iconst 0, 1) := by decide +kernel
theorem dX8_at_3 : decode cX8_at 3 = .ok (.aload_n 0, 1) := by decide +kernel
theorem dX8_at_4 : decode cX8_at 4 = .ok (.getfield 180, 3) := by decide +kernel
theorem dX8_at_7 : decode cX8_at 7 = .ok (.iconst 1, 1) := by decide +kernel
theorem dX8_at_8 : decode cX8_at 8 = .ok (.isub, 1) := by decide +kernel
theorem dX8_at_9 : decode cX8_at 9 = .ok (.invokestatic 90, 3) := by decide +kernel
theorem dX8_at_12 : decode cX8_at 12 = .ok (.ifCond .eq 7, 3) := by decide +kernel
theorem dX8_at_15 : decode cX8_at 15 = .ok (.iconst 0, 1) := by decide +kernel
theorem dX8_at_16 : decode cX8_at 16 = .ok (.goto 4, 3) := by decide +kernel
theorem dX8_at_19 : decode cX8_at 19 = .ok (.iconst 1, 1) := by decide +kernel
theorem dX8_at_20 : decode cX8_at 20 = .ok (.putfield 86, 3) := by decide +kernel
theorem dX8_at_23 : decode cX8_at 23 = .ok (.aload_n 0, 1) := by decide +kernel
theorem dX8_at_24 : decode cX8_at 24 = .ok (.getfield 86, 3) := by decide +kernel
theorem dX8_at_27 : decode cX8_at 27 = .ok (.ifCond .le 7, 3) := by decide +kernel
theorem dX8_at_30 : decode cX8_at 30 = .ok (.iconst 0, 1) := by decide +kernel
theorem dX8_at_31 : decode cX8_at 31 = .ok (.goto 9, 3) := by decide +kernel
theorem dX8_at_34 : decode cX8_at 34 = .ok (.aload_n 0, 1) := by decide +kernel
theorem dX8_at_35 : decode cX8_at 35 = .ok (.getfield 83, 3) := by decide +kernel
theorem dX8_at_38 : decode cX8_at 38 = .ok (.iload_n 1, 1) := by decide +kernel
theorem dX8_at_39 : decode cX8_at 39 = .ok (.iaload, 1) := by decide +kernel
theorem dX8_at_40 : decode cX8_at 40 = .ok (.ireturn, 1) := by decide +kernel
theorem dX8_count_0 : decode cX8_count 0 = .ok (.aload_n 0, 1) := by decide +kernel
theorem dX8_count_1 : decode cX8_count 1 = .ok (.iconst 0, 1) := by decide +kernel
theorem dX8_count_2 : decode cX8_count 2 = .ok (.putfield 86, 3) := by decide +kernel
theorem dX8_count_5 : decode cX8_count 5 = .ok (.iload_n 1, 1) := by decide +kernel
theorem dX8_count_6 : decode cX8_count 6 = .ok (.ifCond .ne 8, 3) := by decide +kernel
theorem dX8_count_9 : decode cX8_count 9 = .ok (.aload_n 0, 1) := by decide +kernel
theorem dX8_count_10 : decode cX8_count 10 = .ok (.getfield 94, 3) := by decide +kernel
theorem dX8_count_13 : decode cX8_count 13 = .ok (.ireturn, 1) := by decide +kernel
theorem dX8_count_14 : decode cX8_count 14 = .ok (.iload_n 1, 1) := by decide +kernel
theorem dX8_count_15 : decode cX8_count 15 = .ok (.iconst 1, 1) := by decide +kernel
theorem dX8_count_16 : decode cX8_count 16 = .ok (.if_icmp .ne 8, 3) := by decide +kernel
theorem dX8_count_19 : decode cX8_count 19 = .ok (.aload_n 0, 1) := by decide +kernel
theorem dX8_count_20 : decode cX8_count 20 = .ok (.getfield 124, 3) := by decide +kernel
theorem dX8_count_23 : decode cX8_count 23 = .ok (.ireturn, 1) := by decide +kernel
theorem dX8_count_24 : decode cX8_count 24 = .ok (.iload_n 1, 1) := by decide +kernel
theorem dX8_count_25 : decode cX8_count 25 = .ok (.iconst 2, 1) := by decide +kernel
theorem dX8_count_26 : decode cX8_count 26 = .ok (.if_icmp .ne 8, 3) := by decide +kernel
theorem dX8_count_29 : decode cX8_count 29 = .ok (.aload_n 0, 1) := by decide +kernel
theorem dX8_count_30 : decode cX8_count 30 = .ok (.getfield 134, 3) := by decide +kernel
theorem dX8_count_33 : decode cX8_count 33 = .ok (.ireturn, 1) := by decide +kernel
theorem dX8_count_34 : decode cX8_count 34 = .ok (.iload_n 1, 1) := by decide +kernel
theorem dX8_count_35 : decode cX8_count 35 = .ok (.iconst 4, 1) := by decide +kernel
theorem dX8_count_36 : decode cX8_count 36 = .ok (.if_icmp .ne 8, 3) := by decide +kernel
theorem dX8_count_39 : decode cX8_count 39 = .ok (.aload_n 0, 1) := by decide +kernel
theorem dX8_count_40 : decode cX8_count 40 = .ok (.getfield 145, 3) := by decide +kernel
theorem dX8_count_43 : decode cX8_count 43 = .ok (.ireturn, 1) := by decide +kernel
theorem dX8_count_44 : decode cX8_count 44 = .ok (.iload_n 1, 1) := by decide +kernel
theorem dX8_count_45 : decode cX8_count 45 = .ok (.iconst 5, 1) := by decide +kernel
theorem dX8_count_46 : decode cX8_count 46 = .ok (.if_icmp .ne 8, 3) := by decide +kernel
theorem dX8_count_49 : decode cX8_count 49 = .ok (.aload_n 0, 1) := by decide +kernel
theorem dX8_count_50 : decode cX8_count 50 = .ok (.getfield 180, 3) := by decide +kernel
theorem dX8_count_53 : decode cX8_count 53 = .ok (.ireturn, 1) := by decide +kernel
theorem dX8_count_54 : decode cX8_count 54 = .ok (.iconst 0, 1) := by decide +kernel
theorem dX8_count_55 : decode cX8_count 55 = .ok (.istore_n 2, 1) := by decide +kernel
theorem dX8_count_56 : decode cX8_count 56 = .ok (.iconst 0, 1) := by decide +kernel
theorem dX8_count_57 : decode cX8_count 57 = .ok (.istore_n 3, 1) := by decide +kernel
theorem dX8_count_58 : decode cX8_count 58 = .ok (.iload_n 3, 1) := by decide +kernel
theorem dX8_count_59 : decode cX8_count 59 = .ok (.aload_n 0, 1) := by decide +kernel
theorem dX8_count_60 : decode cX8_count 60 = .ok (.getfield 134, 3) := by decide +kernel
theorem dX8_count_63 : decode cX8_count 63 = .ok (.if_icmp .ge 33, 3) := by decide +kernel
theorem dX8_count_66 : decode cX8_count 66 = .ok (.iload_n 2, 1) := by decide +kernel
theorem dX8_count_67 : decode cX8_count 67 = .ok (.iload_n 1, 1) := by decide +kernel
theorem dX8_count_68 : decode cX8_count 68 = .ok (.iconst 3, 1) := by decide +kernel
theorem dX8_count_69 : decode cX8_count 69 = .ok (.if_icmp .ne 18, 3) := by decide +kernel
theorem dX8_count_72 : decode cX8_count 72 = .ok (.aload_n 0, 1) := by decide +kernel
theorem dX8_count_73 : decode cX8_count 73 = .ok (.getfield 43, 3) := by decide +kernel
theorem dX8_count_76 : decode cX8_count 76 = .ok (.iload_n 3, 1) := by decide +kernel
theorem dX8_count_77 : decode cX8_count 77 = .ok (.iaload, 1) := by decide +kernel
theorem dX8_count_78 : decode cX8_count 78 = .ok (.ldc 137, 2) := by decide +kernel
theorem dX8_count_80 : decode cX8_count 80 = .ok (.if_icmp .ne 7, 3) := by decide +kernel
theorem dX8_count_83 : decode cX8_count 83 = .ok (.iconst 1, 1) := by decide +kernel
theorem dX8_count_84 : decode cX8_count 84 = .ok (.goto 4, 3) := by decide +kernel
theorem dX8_count_87 : decode cX8_count 87 = .ok (.iconst 0, 1) := by decide +kernel
theorem dX8_count_88 : decode cX8_count 88 = .ok (.iadd, 1) := by decide +kernel
theorem dX8_count_89 : decode cX8_count 89 = .ok (.istore_n 2, 1) := by decide +kernel
theorem dX8_count_90 : decode cX8_count 90 = .ok (.iinc 3 1, 3) := by decide +kernel
theorem dX8_count_93 : decode cX8_count 93 = .ok (.goto (-35), 3) := by decide +kernel
theorem dX8_count_96 : decode cX8_count 96 = .ok (.iconst 0, 1) := by decide +kernel
theorem dX8_count_97 : decode cX8_count 97 = .ok (.istore_n 3, 1) := by decide +kernel
theorem dX8_count_98 : decode cX8_count 98 = .ok (.iload_n 3, 1) := by decide +kernel
theorem dX8_count_99 : decode cX8_count 99 = .ok (.aload_n 0, 1) := by decide +kernel
theorem dX8_count_100 : decode cX8_count 100 = .ok (.getfield 124, 3) := by decide +kernel
theorem dX8_count_103 : decode cX8_count 103 = .ok (.if_icmp .ge 26, 3) := by decide +kernel
theorem dX8_count_106 : decode cX8_count 106 = .ok (.iload_n 1, 1) := by decide +kernel
theorem dX8_count_107 : decode cX8_count 107 = .ok (.bipush 6, 2) := by decide +kernel
theorem dX8_count_109 : decode cX8_count 109 = .ok (.if_icmp .ne 20, 3) := by decide +kernel
theorem dX8_count_112 : decode cX8_count 112 = .ok (.iload_n 2, 1) := by decide +kernel
theorem dX8_count_113 : decode cX8_count 113 = .ok (.iconst 1, 1) := by decide +kernel
theorem dX8_count_114 : decode cX8_count 114 = .ok (.aload_n 0, 1) := by decide +kernel
theorem dX8_count_115 : decode cX8_count 115 = .ok (.getfield 16, 3) := by decide +kernel
theorem dX8_count_118 : decode cX8_count 118 = .ok (.iload_n 3, 1) := by decide +kernel
theorem dX8_count_119 : decode cX8_count 119 = .ok (.iaload, 1) := by decide +kernel
theorem dX8_count_120 : decode cX8_count 120 = .ok (.ishl, 1) := by decide +kernel
theorem dX8_count_121 : decode cX8_count 121 = .ok (.ior, 1) := by decide +kernel
theorem dX8_count_122 : decode cX8_count 122 = .ok (.istore_n 2, 1) := by decide +kernel
theorem dX8_count_123 : decode cX8_count 123 = .ok (.iinc 3 1, 3) := by decide +kernel
theorem dX8_count_126 : decode cX8_count 126 = .ok (.goto (-28), 3) := by decide +kernel
theorem dX8_count_129 : decode cX8_count 129 = .ok (.iload_n 1, 1) := by decide +kernel
theorem dX8_count_130 : decode cX8_count 130 = .ok (.iconst 3, 1) := by decide +kernel
theorem dX8_count_131 : decode cX8_count 131 = .ok (.if_icmp .eq 9, 3) := by decide +kernel
theorem dX8_count_134 : decode cX8_count 134 = .ok (.iload_n 1, 1) := by decide +kernel
theorem dX8_count_135 : decode cX8_count 135 = .ok (.bipush 6, 2) := by decide +kernel
theorem dX8_count_137 : decode cX8_count 137 = .ok (.if_icmp .ne 7, 3) := by decide +kernel
theorem dX8_count_140 : decode cX8_count 140 = .ok (.iload_n 2, 1) := by decide +kernel
theorem dX8_count_141 : decode cX8_count 141 = .ok (.goto 4, 3) := by decide +kernel
theorem dX8_count_144 : decode cX8_count 144 = .ok (.iconst (-1), 1) := by decide +kernel
theorem dX8_count_145 : decode cX8_count 145 = .ok (.ireturn, 1) := by decide +kernel

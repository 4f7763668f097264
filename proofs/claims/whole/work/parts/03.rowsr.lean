theorem dX5_init_0 : decode cX5_init 0 = .ok (.aload_n 0, 1) := by decide +kernel
theorem dX5_init_1 : decode cX5_init 1 = .ok (.invokespecial 1, 3) := by decide +kernel
theorem dX5_init_4 : decode cX5_init 4 = .ok (.aload_n 0, 1) := by decide +kernel
theorem dX5_init_5 : decode cX5_init 5 = .ok (.iconst 4, 1) := by decide +kernel
theorem dX5_init_6 : decode cX5_init 6 = .ok (.newarray .int, 2) := by decide +kernel
theorem dX5_init_8 : decode cX5_init 8 = .ok (.putfield 7, 3) := by decide +kernel
theorem dX5_init_11 : decode cX5_init 11 = .ok (.aload_n 0, 1) := by decide +kernel
theorem dX5_init_12 : decode cX5_init 12 = .ok (.bipush 12, 2) := by decide +kernel
theorem dX5_init_14 : decode cX5_init 14 = .ok (.putfield 13, 3) := by decide +kernel
theorem dX5_init_17 : decode cX5_init 17 = .ok (.aload_n 0, 1) := by decide +kernel
theorem dX5_init_18 : decode cX5_init 18 = .ok (.bipush 18, 2) := by decide +kernel
theorem dX5_init_20 : decode cX5_init 20 = .ok (.putfield 17, 3) := by decide +kernel
theorem dX5_init_23 : decode cX5_init 23 = .ok (.aload_n 0, 1) := by decide +kernel
theorem dX5_init_24 : decode cX5_init 24 = .ok (.bipush 16, 2) := by decide +kernel
theorem dX5_init_26 : decode cX5_init 26 = .ok (.newarray .int, 2) := by decide +kernel
theorem dX5_init_28 : decode cX5_init 28 = .ok (.putfield 20, 3) := by decide +kernel
theorem dX5_init_31 : decode cX5_init 31 = .ok (.aload_n 0, 1) := by decide +kernel
theorem dX5_init_32 : decode cX5_init 32 = .ok (.sipush 2500, 3) := by decide +kernel
theorem dX5_init_35 : decode cX5_init 35 = .ok (.putfield 23, 3) := by decide +kernel
theorem dX5_init_38 : decode cX5_init 38 = .ok (.aload_n 0, 1) := by decide +kernel
theorem dX5_init_39 : decode cX5_init 39 = .ok (.iconst 4, 1) := by decide +kernel
theorem dX5_init_40 : decode cX5_init 40 = .ok (.newarray .int, 2) := by decide +kernel
theorem dX5_init_42 : decode cX5_init 42 = .ok (.putfield 26, 3) := by decide +kernel
theorem dX5_init_45 : decode cX5_init 45 = .ok (.aload_n 0, 1) := by decide +kernel
theorem dX5_init_46 : decode cX5_init 46 = .ok (.iconst 4, 1) := by decide +kernel
theorem dX5_init_47 : decode cX5_init 47 = .ok (.newarray .boolean, 2) := by decide +kernel
theorem dX5_init_49 : decode cX5_init 49 = .ok (.putfield 29, 3) := by decide +kernel
theorem dX5_init_52 : decode cX5_init 52 = .ok (.aload_n 0, 1) := by decide +kernel
theorem dX5_init_53 : decode cX5_init 53 = .ok (.iconst 4, 1) := by decide +kernel
theorem dX5_init_54 : decode cX5_init 54 = .ok (.newarray .int, 2) := by decide +kernel
theorem dX5_init_56 : decode cX5_init 56 = .ok (.putfield 33, 3) := by decide +kernel
theorem dX5_init_59 : decode cX5_init 59 = .ok (.aload_n 0, 1) := by decide +kernel
theorem dX5_init_60 : decode cX5_init 60 = .ok (.iconst 4, 1) := by decide +kernel
theorem dX5_init_61 : decode cX5_init 61 = .ok (.newarray .int, 2) := by decide +kernel
theorem dX5_init_63 : decode cX5_init 63 = .ok (.putfield 36, 3) := by decide +kernel
theorem dX5_init_66 : decode cX5_init 66 = .ok (.aload_n 0, 1) := by decide +kernel
theorem dX5_init_67 : decode cX5_init 67 = .ok (.iconst 4, 1) := by decide +kernel
theorem dX5_init_68 : decode cX5_init 68 = .ok (.newarray .int, 2) := by decide +kernel
theorem dX5_init_70 : decode cX5_init 70 = .ok (.putfield 39, 3) := by decide +kernel
theorem dX5_init_73 : decode cX5_init 73 = .ok (.aload_n 0, 1) := by decide +kernel
theorem dX5_init_74 : decode cX5_init 74 = .ok (.iconst 4, 1) := by decide +kernel
theorem dX5_init_75 : decode cX5_init 75 = .ok (.newarray .int, 2) := by decide +kernel
theorem dX5_init_77 : decode cX5_init 77 = .ok (.putfield 42, 3) := by decide +kernel
theorem dX5_init_80 : decode cX5_init 80 = .ok (.aload_n 0, 1) := by decide +kernel
theorem dX5_init_81 : decode cX5_init 81 = .ok (.bipush 32, 2) := by decide +kernel
theorem dX5_init_83 : decode cX5_init 83 = .ok (.newarray .int, 2) := by decide +kernel
theorem dX5_init_85 : decode cX5_init 85 = .ok (.putfield 45, 3) := by decide +kernel
theorem dX5_init_88 : decode cX5_init 88 = .ok (.aload_n 0, 1) := by decide +kernel
theorem dX5_init_89 : decode cX5_init 89 = .ok (.bipush 32, 2) := by decide +kernel
theorem dX5_init_91 : decode cX5_init 91 = .ok (.newarray .boolean, 2) := by decide +kernel
theorem dX5_init_93 : decode cX5_init 93 = .ok (.putfield 48, 3) := by decide +kernel
theorem dX5_init_96 : decode cX5_init 96 = .ok (.aload_n 0, 1) := by decide +kernel
theorem dX5_init_97 : decode cX5_init 97 = .ok (.iconst 4, 1) := by decide +kernel
theorem dX5_init_98 : decode cX5_init 98 = .ok (.newarray .int, 2) := by decide +kernel
theorem dX5_init_100 : decode cX5_init 100 = .ok (.putfield 51, 3) := by decide +kernel
theorem dX5_init_103 : decode cX5_init 103 = .ok (.aload_n 0, 1) := by decide +kernel
theorem dX5_init_104 : decode cX5_init 104 = .ok (.iconst 4, 1) := by decide +kernel
theorem dX5_init_105 : decode cX5_init 105 = .ok (.newarray .int, 2) := by decide +kernel
theorem dX5_init_107 : decode cX5_init 107 = .ok (.putfield 54, 3) := by decide +kernel
theorem dX5_init_110 : decode cX5_init 110 = .ok (.aload_n 0, 1) := by decide +kernel
theorem dX5_init_111 : decode cX5_init 111 = .ok (.iconst 4, 1) := by decide +kernel
theorem dX5_init_112 : decode cX5_init 112 = .ok (.newarray .int, 2) := by decide +kernel
theorem dX5_init_114 : decode cX5_init 114 = .ok (.putfield 57, 3) := by decide +kernel
theorem dX5_init_117 : decode cX5_init 117 = .ok (.aload_n 0, 1) := by decide +kernel
theorem dX5_init_118 : decode cX5_init 118 = .ok (.iconst 4, 1) := by decide +kernel
theorem dX5_init_119 : decode cX5_init 119 = .ok (.newarray .int, 2) := by decide +kernel
theorem dX5_init_121 : decode cX5_init 121 = .ok (.putfield 60, 3) := by decide +kernel
theorem dX5_init_124 : decode cX5_init 124 = .ok (.aload_n 0, 1) := by decide +kernel
theorem dX5_init_125 : decode cX5_init 125 = .ok (.bipush 24, 2) := by decide +kernel
theorem dX5_init_127 : decode cX5_init 127 = .ok (.newarray .int, 2) := by decide +kernel
theorem dX5_init_129 : decode cX5_init 129 = .ok (.putfield 63, 3) := by decide +kernel
theorem dX5_init_132 : decode cX5_init 132 = .ok (.aload_n 0, 1) := by decide +kernel
theorem dX5_init_133 : decode cX5_init 133 = .ok (.bipush 24, 2) := by decide +kernel
theorem dX5_init_135 : decode cX5_init 135 = .ok (.newarray .int, 2) := by decide +kernel
theorem dX5_init_137 : decode cX5_init 137 = .ok (.putfield 66, 3) := by decide +kernel
theorem dX5_init_140 : decode cX5_init 140 = .ok (.aload_n 0, 1) := by decide +kernel
theorem dX5_init_141 : decode cX5_init 141 = .ok (.iconst 4, 1) := by decide +kernel
theorem dX5_init_142 : decode cX5_init 142 = .ok (.newarray .int, 2) := by decide +kernel
theorem dX5_init_144 : decode cX5_init 144 = .ok (.putfield 69, 3) := by decide +kernel
theorem dX5_init_147 : decode cX5_init 147 = .ok (.aload_n 0, 1) := by decide +kernel
theorem dX5_init_148 : decode cX5_init 148 = .ok (.iconst 4, 1) := by decide +kernel
theorem dX5_init_149 : decode cX5_init 149 = .ok (.newarray .int, 2) := by decide +kernel
theorem dX5_init_151 : decode cX5_init 151 = .ok (.putfield 72, 3) := by decide +kernel
theorem dX5_init_154 : decode cX5_init 154 = .ok (.aload_n 0, 1) := by decide +kernel
theorem dX5_init_155 : decode cX5_init 155 = .ok (.iconst 4, 1) := by decide +kernel
theorem dX5_init_156 : decode cX5_init 156 = .ok (.newarray .int, 2) := by decide +kernel
theorem dX5_init_158 : decode cX5_init 158 = .ok (.putfield 75, 3) := by decide +kernel
theorem dX5_init_161 : decode cX5_init 161 = .ok (.aload_n 0, 1) := by decide +kernel
theorem dX5_init_162 : decode cX5_init 162 = .ok (.iconst 4, 1) := by decide +kernel
theorem dX5_init_163 : decode cX5_init 163 = .ok (.newarray .int, 2) := by decide +kernel
theorem dX5_init_165 : decode cX5_init 165 = .ok (.putfield 78, 3) := by decide +kernel
theorem dX5_init_168 : decode cX5_init 168 = .ok (.aload_n 0, 1) := by decide +kernel
theorem dX5_init_169 : decode cX5_init 169 = .ok (.iconst 4, 1) := by decide +kernel
theorem dX5_init_170 : decode cX5_init 170 = .ok (.newarray .int, 2) := by decide +kernel
theorem dX5_init_172 : decode cX5_init 172 = .ok (.putfield 81, 3) := by decide +kernel
theorem dX5_init_175 : decode cX5_init 175 = .ok (.aload_n 0, 1) := by decide +kernel
theorem dX5_init_176 : decode cX5_init 176 = .ok (.iconst 4, 1) := by decide +kernel
theorem dX5_init_177 : decode cX5_init 177 = .ok (.newarray .int, 2) := by decide +kernel
theorem dX5_init_179 : decode cX5_init 179 = .ok (.putfield 84, 3) := by decide +kernel
theorem dX5_init_182 : decode cX5_init 182 = .ok (.iconst 0, 1) := by decide +kernel
theorem dX5_init_183 : decode cX5_init 183 = .ok (.istore_n 1, 1) := by decide +kernel
theorem dX5_init_184 : decode cX5_init 184 = .ok (.iload_n 1, 1) := by decide +kernel
theorem dX5_init_185 : decode cX5_init 185 = .ok (.iconst 4, 1) := by decide +kernel
theorem dX5_init_186 : decode cX5_init 186 = .ok (.if_icmp .ge 25, 3) := by decide +kernel
theorem dX5_init_189 : decode cX5_init 189 = .ok (.aload_n 0, 1) := by decide +kernel
theorem dX5_init_190 : decode cX5_init 190 = .ok (.getfield 7, 3) := by decide +kernel
theorem dX5_init_193 : decode cX5_init 193 = .ok (.iload_n 1, 1) := by decide +kernel
theorem dX5_init_194 : decode cX5_init 194 = .ok (.sipush 10000, 3) := by decide +kernel
theorem dX5_init_197 : decode cX5_init 197 = .ok (.iastore, 1) := by decide +kernel
theorem dX5_init_198 : decode cX5_init 198 = .ok (.aload_n 0, 1) := by decide +kernel
theorem dX5_init_199 : decode cX5_init 199 = .ok (.getfield 29, 3) := by decide +kernel
theorem dX5_init_202 : decode cX5_init 202 = .ok (.iload_n 1, 1) := by decide +kernel
theorem dX5_init_203 : decode cX5_init 203 = .ok (.iconst 1, 1) := by decide +kernel
theorem dX5_init_204 : decode cX5_init 204 = .ok (.bastore, 1) := by decide +kernel
theorem dX5_init_205 : decode cX5_init 205 = .ok (.iinc 1 1, 3) := by decide +kernel
theorem dX5_init_208 : decode cX5_init 208 = .ok (.goto (-24), 3) := by decide +kernel
theorem dX5_init_211 : decode cX5_init 211 = .ok (.iconst 2, 1) := by decide +kernel
theorem dX5_init_212 : decode cX5_init 212 = .ok (.istore_n 1, 1) := by decide +kernel
theorem dX5_init_213 : decode cX5_init 213 = .ok (.iload_n 1, 1) := by decide +kernel
theorem dX5_init_214 : decode cX5_init 214 = .ok (.bipush 16, 2) := by decide +kernel
theorem dX5_init_216 : decode cX5_init 216 = .ok (.if_icmp .ge 17, 3) := by decide +kernel
theorem dX5_init_219 : decode cX5_init 219 = .ok (.aload_n 0, 1) := by decide +kernel
theorem dX5_init_220 : decode cX5_init 220 = .ok (.getfield 20, 3) := by decide +kernel
theorem dX5_init_223 : decode cX5_init 223 = .ok (.iload_n 1, 1) := by decide +kernel
theorem dX5_init_224 : decode cX5_init 224 = .ok (.bipush 100, 2) := by decide +kernel
theorem dX5_init_226 : decode cX5_init 226 = .ok (.iastore, 1) := by decide +kernel
theorem dX5_init_227 : decode cX5_init 227 = .ok (.iinc 1 1, 3) := by decide +kernel
theorem dX5_init_230 : decode cX5_init 230 = .ok (.goto (-17), 3) := by decide +kernel
theorem dX5_init_233 : decode cX5_init 233 = .ok (.return_, 1) := by decide +kernel
theorem dX5_thrown_0 : decode cX5_thrown 0 = .ok (.aload_n 0, 1) := by decide +kernel
theorem dX5_thrown_1 : decode cX5_thrown 1 = .ok (.getfield 87, 3) := by decide +kernel
theorem dX5_thrown_4 : decode cX5_thrown 4 = .ok (.ireturn, 1) := by decide +kernel
theorem dX5_holds_0 : decode cX5_holds 0 = .ok (.aload_n 0, 1) := by decide +kernel
theorem dX5_holds_1 : decode cX5_holds 1 = .ok (.iload_n 1, 1) := by decide +kernel
theorem dX5_holds_2 : decode cX5_holds 2 = .ok (.putfield 87, 3) := by decide +kernel
theorem dX5_holds_5 : decode cX5_holds 5 = .ok (.iload_n 1, 1) := by decide +kernel
theorem dX5_holds_6 : decode cX5_holds 6 = .ok (.ifCond .ne 7, 3) := by decide +kernel
theorem dX5_holds_9 : decode cX5_holds 9 = .ok (.iconst 1, 1) := by decide +kernel
theorem dX5_holds_10 : decode cX5_holds 10 = .ok (.goto 4, 3) := by decide +kernel
theorem dX5_holds_13 : decode cX5_holds 13 = .ok (.iconst 0, 1) := by decide +kernel
theorem dX5_holds_14 : decode cX5_holds 14 = .ok (.ireturn, 1) := by decide +kernel
theorem dX5_in_0 : decode cX5_in 0 = .ok (.iload_n 0, 1) := by decide +kernel
theorem dX5_in_1 : decode cX5_in 1 = .ok (.iload_n 1, 1) := by decide +kernel
theorem dX5_in_2 : decode cX5_in 2 = .ok (.if_icmp .lt 12, 3) := by decide +kernel
theorem dX5_in_5 : decode cX5_in 5 = .ok (.iload_n 0, 1) := by decide +kernel
theorem dX5_in_6 : decode cX5_in 6 = .ok (.iload_n 2, 1) := by decide +kernel
theorem dX5_in_7 : decode cX5_in 7 = .ok (.if_icmp .gt 7, 3) := by decide +kernel
theorem dX5_in_10 : decode cX5_in 10 = .ok (.iconst 1, 1) := by decide +kernel
theorem dX5_in_11 : decode cX5_in 11 = .ok (.goto 4, 3) := by decide +kernel
theorem dX5_in_14 : decode cX5_in 14 = .ok (.iconst 0, 1) := by decide +kernel
theorem dX5_in_15 : decode cX5_in 15 = .ok (.ireturn, 1) := by decide +kernel
set_option maxRecDepth 20000 in
theorem ggX5_isStudent_X5_in : GoodIn wsX5_isStudent wsX5_in := goodIn_r _ [4] (by decide +kernel) (by decide +kernel)
set_option maxRecDepth 20000 in
theorem gX5_isStudent_X5_in : GoodIn wsX5_isStudent (va_wsS RX5 90 yX5_in wsX5_in) := goodIn_app (goodIn_of _ (by decide +kernel)) ggX5_isStudent_X5_in
theorem dX5_isStudent_0 : decode cX5_isStudent 0 = .ok (.iload_n 0, 1) := by decide +kernel
theorem dX5_isStudent_1 : decode cX5_isStudent 1 = .ok (.iconst 0, 1) := by decide +kernel
theorem dX5_isStudent_2 : decode cX5_isStudent 2 = .ok (.iconst 3, 1) := by decide +kernel
theorem dX5_isStudent_3 : decode cX5_isStudent 3 = .ok (.invokestatic 90, 3) := by decide +kernel
theorem dX5_isStudent_6 : decode cX5_isStudent 6 = .ok (.ireturn, 1) := by decide +kernel
theorem dX5_least_0 : decode cX5_least 0 = .ok (.iload_n 0, 1) := by decide +kernel
theorem dX5_least_1 : decode cX5_least 1 = .ok (.iload_n 1, 1) := by decide +kernel
theorem dX5_least_2 : decode cX5_least 2 = .ok (.if_icmp .ge 7, 3) := by decide +kernel
theorem dX5_least_5 : decode cX5_least 5 = .ok (.iload_n 0, 1) := by decide +kernel
theorem dX5_least_6 : decode cX5_least 6 = .ok (.goto 4, 3) := by decide +kernel
theorem dX5_least_9 : decode cX5_least 9 = .ok (.iload_n 1, 1) := by decide +kernel
theorem dX5_least_10 : decode cX5_least 10 = .ok (.ireturn, 1) := by decide +kernel
theorem dX5_rateOf_0 : decode cX5_rateOf 0 = .ok (.iconst 2, 1) := by decide +kernel
theorem dX5_rateOf_1 : decode cX5_rateOf 1 = .ok (.iload_n 0, 1) := by decide +kernel
theorem dX5_rateOf_2 : decode cX5_rateOf 2 = .ok (.imul, 1) := by decide +kernel
theorem dX5_rateOf_3 : decode cX5_rateOf 3 = .ok (.iload_n 1, 1) := by decide +kernel
theorem dX5_rateOf_4 : decode cX5_rateOf 4 = .ok (.ifCond .eq 7, 3) := by decide +kernel
theorem dX5_rateOf_7 : decode cX5_rateOf 7 = .ok (.iconst 1, 1) := by decide +kernel
theorem dX5_rateOf_8 : decode cX5_rateOf 8 = .ok (.goto 4, 3) := by decide +kernel
theorem dX5_rateOf_11 : decode cX5_rateOf 11 = .ok (.iconst 0, 1) := by decide +kernel
theorem dX5_rateOf_12 : decode cX5_rateOf 12 = .ok (.iadd, 1) := by decide +kernel
theorem dX5_rateOf_13 : decode cX5_rateOf 13 = .ok (.ireturn, 1) := by decide +kernel
set_option maxRecDepth 20000 in
theorem ggX5_setRate_X5_in : GoodIn wsX5_setRate wsX5_in := goodIn_r _ [6] (by decide +kernel) (by decide +kernel)
set_option maxRecDepth 20000 in
theorem gX5_setRate_X5_in : GoodIn wsX5_setRate (va_wsS RX5 90 yX5_in wsX5_in) := goodIn_app (goodIn_of _ (by decide +kernel)) ggX5_setRate_X5_in
set_option maxRecDepth 20000 in
theorem ggX5_setRate_X5_holds : GoodIn wsX5_setRate wsX5_holds := goodIn_r _ [10, 11, 15, 16, 17, 18, 19, 20, 21, 22, 23, 24, 25, 26, 27, 28, 29, 30, 31, 32, 33, 34, 35, 36, 37, 38, 39, 40, 41, 42, 43] (by decide +kernel) (by decide +kernel)
set_option maxRecDepth 20000 in
theorem gX5_setRate_X5_holds : GoodIn wsX5_setRate (wsV RX5 95 RX5 yX5_holds wsX5_holds) := goodIn_app (goodIn_of _ (by decide +kernel)) ggX5_setRate_X5_holds
set_option maxRecDepth 20000 in
theorem ggX5_setRate_X5_rateOf : GoodIn wsX5_setRate wsX5_rateOf := goodIn_r _ [14] (by decide +kernel) (by decide +kernel)
set_option maxRecDepth 20000 in
theorem gX5_setRate_X5_rateOf : GoodIn wsX5_setRate (va_wsS RX5 99 yX5_rateOf wsX5_rateOf) := goodIn_app (goodIn_of _ (by decide +kernel)) ggX5_setRate_X5_rateOf
theorem dX5_setRate_0 : decode cX5_setRate 0 = .ok (.aload_n 0, 1) := by decide +kernel
theorem dX5_setRate_1 : decode cX5_setRate 1 = .ok (.iload_n 1, 1) := by decide +kernel
theorem dX5_setRate_2 : decode cX5_setRate 2 = .ok (.iconst 0, 1) := by decide +kernel
theorem dX5_setRate_3 : decode cX5_setRate 3 = .ok (.iconst 1, 1) := by decide +kernel
theorem dX5_setRate_4 : decode cX5_setRate 4 = .ok (.invokestatic 90, 3) := by decide +kernel
theorem dX5_setRate_7 : decode cX5_setRate 7 = .ok (.ifCond .eq 17, 3) := by decide +kernel
theorem dX5_setRate_10 : decode cX5_setRate 10 = .ok (.iload_n 3, 1) := by decide +kernel
theorem dX5_setRate_11 : decode cX5_setRate 11 = .ok (.iconst 0, 1) := by decide +kernel
theorem dX5_setRate_12 : decode cX5_setRate 12 = .ok (.ldc 94, 2) := by decide +kernel
theorem dX5_setRate_14 : decode cX5_setRate 14 = .ok (.invokestatic 90, 3) := by decide +kernel
theorem dX5_setRate_17 : decode cX5_setRate 17 = .ok (.ifCond .eq 7, 3) := by decide +kernel
theorem dX5_setRate_20 : decode cX5_setRate 20 = .ok (.iconst 0, 1) := by decide +kernel
theorem dX5_setRate_21 : decode cX5_setRate 21 = .ok (.goto 4, 3) := by decide +kernel
theorem dX5_setRate_24 : decode cX5_setRate 24 = .ok (.iconst 1, 1) := by decide +kernel
theorem dX5_setRate_25 : decode cX5_setRate 25 = .ok (.invokevirtual 95, 3) := by decide +kernel
theorem dX5_setRate_28 : decode cX5_setRate 28 = .ok (.ifCond .ne 5, 3) := by decide +kernel
theorem dX5_setRate_31 : decode cX5_setRate 31 = .ok (.iconst 0, 1) := by decide +kernel
theorem dX5_setRate_32 : decode cX5_setRate 32 = .ok (.ireturn, 1) := by decide +kernel
theorem dX5_setRate_33 : decode cX5_setRate 33 = .ok (.aload_n 0, 1) := by decide +kernel
theorem dX5_setRate_34 : decode cX5_setRate 34 = .ok (.getfield 7, 3) := by decide +kernel
theorem dX5_setRate_37 : decode cX5_setRate 37 = .ok (.iload_n 1, 1) := by decide +kernel
theorem dX5_setRate_38 : decode cX5_setRate 38 = .ok (.iload_n 2, 1) := by decide +kernel
theorem dX5_setRate_39 : decode cX5_setRate 39 = .ok (.invokestatic 99, 3) := by decide +kernel
theorem dX5_setRate_42 : decode cX5_setRate 42 = .ok (.iaload, 1) := by decide +kernel
theorem dX5_setRate_43 : decode cX5_setRate 43 = .ok (.istore 4, 2) := by decide +kernel
theorem dX5_setRate_45 : decode cX5_setRate 45 = .ok (.aload_n 0, 1) := by decide +kernel
theorem dX5_setRate_46 : decode cX5_setRate 46 = .ok (.getfield 7, 3) := by decide +kernel
theorem dX5_setRate_49 : decode cX5_setRate 49 = .ok (.iload_n 1, 1) := by decide +kernel
theorem dX5_setRate_50 : decode cX5_setRate 50 = .ok (.iload_n 2, 1) := by decide +kernel
theorem dX5_setRate_51 : decode cX5_setRate 51 = .ok (.invokestatic 99, 3) := by decide +kernel
theorem dX5_setRate_54 : decode cX5_setRate 54 = .ok (.iload_n 3, 1) := by decide +kernel
theorem dX5_setRate_55 : decode cX5_setRate 55 = .ok (.iastore, 1) := by decide +kernel
theorem dX5_setRate_56 : decode cX5_setRate 56 = .ok (.iload 4, 2) := by decide +kernel
theorem dX5_setRate_58 : decode cX5_setRate 58 = .ok (.ireturn, 1) := by decide +kernel
set_option maxRecDepth 20000 in
theorem ggX5_setBand_X5_in : GoodIn wsX5_setBand wsX5_in := goodIn_r _ [6] (by decide +kernel) (by decide +kernel)
set_option maxRecDepth 20000 in
theorem gX5_setBand_X5_in : GoodIn wsX5_setBand (va_wsS RX5 90 yX5_in wsX5_in) := goodIn_app (goodIn_of _ (by decide +kernel)) ggX5_setBand_X5_in
set_option maxRecDepth 20000 in
theorem ggX5_setBand_X5_holds : GoodIn wsX5_setBand wsX5_holds := goodIn_r _ [10, 11, 12, 13, 14, 15, 16, 17, 18, 19, 20, 21, 22, 23, 24, 25, 26, 27, 28, 29, 30, 31, 32, 33, 34, 35, 36, 37, 38, 39, 40] (by decide +kernel) (by decide +kernel)
set_option maxRecDepth 20000 in
theorem gX5_setBand_X5_holds : GoodIn wsX5_setBand (wsV RX5 95 RX5 yX5_holds wsX5_holds) := goodIn_app (goodIn_of _ (by decide +kernel)) ggX5_setBand_X5_holds
theorem dX5_setBand_0 : decode cX5_setBand 0 = .ok (.aload_n 0, 1) := by decide +kernel
theorem dX5_setBand_1 : decode cX5_setBand 1 = .ok (.iload_n 1, 1) := by decide +kernel
theorem dX5_setBand_2 : decode cX5_setBand 2 = .ok (.iconst 1, 1) := by decide +kernel
theorem dX5_setBand_3 : decode cX5_setBand 3 = .ok (.bipush 30, 2) := by decide +kernel
theorem dX5_setBand_5 : decode cX5_setBand 5 = .ok (.invokestatic 90, 3) := by decide +kernel
theorem dX5_setBand_8 : decode cX5_setBand 8 = .ok (.ifCond .eq 17, 3) := by decide +kernel
theorem dX5_setBand_11 : decode cX5_setBand 11 = .ok (.iload_n 2, 1) := by decide +kernel
theorem dX5_setBand_12 : decode cX5_setBand 12 = .ok (.iload_n 1, 1) := by decide +kernel
theorem dX5_setBand_13 : decode cX5_setBand 13 = .ok (.bipush 30, 2) := by decide +kernel
theorem dX5_setBand_15 : decode cX5_setBand 15 = .ok (.invokestatic 90, 3) := by decide +kernel
theorem dX5_setBand_18 : decode cX5_setBand 18 = .ok (.ifCond .eq 7, 3) := by decide +kernel
theorem dX5_setBand_21 : decode cX5_setBand 21 = .ok (.iconst 0, 1) := by decide +kernel
theorem dX5_setBand_22 : decode cX5_setBand 22 = .ok (.goto 4, 3) := by decide +kernel
theorem dX5_setBand_25 : decode cX5_setBand 25 = .ok (.iconst 1, 1) := by decide +kernel
theorem dX5_setBand_26 : decode cX5_setBand 26 = .ok (.invokevirtual 95, 3) := by decide +kernel
theorem dX5_setBand_29 : decode cX5_setBand 29 = .ok (.ifCond .eq 13, 3) := by decide +kernel
theorem dX5_setBand_32 : decode cX5_setBand 32 = .ok (.aload_n 0, 1) := by decide +kernel
theorem dX5_setBand_33 : decode cX5_setBand 33 = .ok (.iload_n 1, 1) := by decide +kernel
theorem dX5_setBand_34 : decode cX5_setBand 34 = .ok (.putfield 13, 3) := by decide +kernel
theorem dX5_setBand_37 : decode cX5_setBand 37 = .ok (.aload_n 0, 1) := by decide +kernel
theorem dX5_setBand_38 : decode cX5_setBand 38 = .ok (.iload_n 2, 1) := by decide +kernel
theorem dX5_setBand_39 : decode cX5_setBand 39 = .ok (.putfield 17, 3) := by decide +kernel
theorem dX5_setBand_42 : decode cX5_setBand 42 = .ok (.return_, 1) := by decide +kernel
set_option maxRecDepth 20000 in
theorem ggX5_setShare_X5_in : GoodIn wsX5_setShare wsX5_in := goodIn_r _ [5] (by decide +kernel) (by decide +kernel)
set_option maxRecDepth 20000 in
theorem gX5_setShare_X5_in : GoodIn wsX5_setShare (va_wsS RX5 90 yX5_in wsX5_in) := goodIn_app (goodIn_of _ (by decide +kernel)) ggX5_setShare_X5_in
set_option maxRecDepth 20000 in
theorem ggX5_setShare_X5_holds : GoodIn wsX5_setShare wsX5_holds := goodIn_r _ [9, 10, 11, 12, 13, 14, 15, 16, 17, 18, 19, 20, 21, 22, 23, 24, 25, 26, 27, 28, 29, 30, 31, 32, 33, 34, 35, 36, 37, 38, 39] (by decide +kernel) (by decide +kernel)
set_option maxRecDepth 20000 in
theorem gX5_setShare_X5_holds : GoodIn wsX5_setShare (wsV RX5 95 RX5 yX5_holds wsX5_holds) := goodIn_app (goodIn_of _ (by decide +kernel)) ggX5_setShare_X5_holds
theorem dX5_setShare_0 : decode cX5_setShare 0 = .ok (.aload_n 0, 1) := by decide +kernel
theorem dX5_setShare_1 : decode cX5_setShare 1 = .ok (.iload_n 1, 1) := by decide +kernel
theorem dX5_setShare_2 : decode cX5_setShare 2 = .ok (.iconst 0, 1) := by decide +kernel
theorem dX5_setShare_3 : decode cX5_setShare 3 = .ok (.bipush 15, 2) := by decide +kernel
theorem dX5_setShare_5 : decode cX5_setShare 5 = .ok (.invokestatic 90, 3) := by decide +kernel
theorem dX5_setShare_8 : decode cX5_setShare 8 = .ok (.ifCond .eq 17, 3) := by decide +kernel
theorem dX5_setShare_11 : decode cX5_setShare 11 = .ok (.iload_n 2, 1) := by decide +kernel
theorem dX5_setShare_12 : decode cX5_setShare 12 = .ok (.iconst 0, 1) := by decide +kernel
theorem dX5_setShare_13 : decode cX5_setShare 13 = .ok (.bipush 100, 2) := by decide +kernel
theorem dX5_setShare_15 : decode cX5_setShare 15 = .ok (.invokestatic 90, 3) := by decide +kernel
theorem dX5_setShare_18 : decode cX5_setShare 18 = .ok (.ifCond .eq 7, 3) := by decide +kernel
theorem dX5_setShare_21 : decode cX5_setShare 21 = .ok (.iconst 0, 1) := by decide +kernel
theorem dX5_setShare_22 : decode cX5_setShare 22 = .ok (.goto 4, 3) := by decide +kernel
theorem dX5_setShare_25 : decode cX5_setShare 25 = .ok (.iconst 1, 1) := by decide +kernel
theorem dX5_setShare_26 : decode cX5_setShare 26 = .ok (.invokevirtual 95, 3) := by decide +kernel
theorem dX5_setShare_29 : decode cX5_setShare 29 = .ok (.ifCond .ne 5, 3) := by decide +kernel
theorem dX5_setShare_32 : decode cX5_setShare 32 = .ok (.iconst 0, 1) := by decide +kernel
theorem dX5_setShare_33 : decode cX5_setShare 33 = .ok (.ireturn, 1) := by decide +kernel
theorem dX5_setShare_34 : decode cX5_setShare 34 = .ok (.aload_n 0, 1) := by decide +kernel
theorem dX5_setShare_35 : decode cX5_setShare 35 = .ok (.getfield 20, 3) := by decide +kernel
theorem dX5_setShare_38 : decode cX5_setShare 38 = .ok (.iload_n 1, 1) := by decide +kernel
theorem dX5_setShare_39 : decode cX5_setShare 39 = .ok (.iaload, 1) := by decide +kernel
theorem dX5_setShare_40 : decode cX5_setShare 40 = .ok (.istore_n 3, 1) := by decide +kernel
theorem dX5_setShare_41 : decode cX5_setShare 41 = .ok (.aload_n 0, 1) := by decide +kernel
theorem dX5_setShare_42 : decode cX5_setShare 42 = .ok (.getfield 20, 3) := by decide +kernel
theorem dX5_setShare_45 : decode cX5_setShare 45 = .ok (.iload_n 1, 1) := by decide +kernel
theorem dX5_setShare_46 : decode cX5_setShare 46 = .ok (.iload_n 2, 1) := by decide +kernel
theorem dX5_setShare_47 : decode cX5_setShare 47 = .ok (.iastore, 1) := by decide +kernel
theorem dX5_setShare_48 : decode cX5_setShare 48 = .ok (.iload_n 3, 1) := by decide +kernel
theorem dX5_setShare_49 : decode cX5_setShare 49 = .ok (.ireturn, 1) := by decide +kernel
set_option maxRecDepth 20000 in
theorem ggX5_setFees_X5_in : GoodIn wsX5_setFees wsX5_in := goodIn_r _ [8] (by decide +kernel) (by decide +kernel)
set_option maxRecDepth 20000 in
theorem gX5_setFees_X5_in : GoodIn wsX5_setFees (va_wsS RX5 90 yX5_in wsX5_in) := goodIn_app (goodIn_of _ (by decide +kernel)) ggX5_setFees_X5_in
set_option maxRecDepth 20000 in
theorem ggX5_setFees_X5_holds : GoodIn wsX5_setFees wsX5_holds := goodIn_r _ [12, 13, 14, 15, 16, 17, 18, 19, 20, 21, 22, 23, 24, 25, 26, 27, 28, 29, 30, 31, 32, 33, 34, 35, 36, 37, 38, 39, 40, 41, 42] (by decide +kernel) (by decide +kernel)
set_option maxRecDepth 20000 in
theorem gX5_setFees_X5_holds : GoodIn wsX5_setFees (wsV RX5 95 RX5 yX5_holds wsX5_holds) := goodIn_app (goodIn_of _ (by decide +kernel)) ggX5_setFees_X5_holds
theorem dX5_setFees_0 : decode cX5_setFees 0 = .ok (.aload_n 0, 1) := by decide +kernel
theorem dX5_setFees_1 : decode cX5_setFees 1 = .ok (.iload_n 1, 1) := by decide +kernel
theorem dX5_setFees_2 : decode cX5_setFees 2 = .ok (.iconst 0, 1) := by decide +kernel
theorem dX5_setFees_3 : decode cX5_setFees 3 = .ok (.ldc 94, 2) := by decide +kernel
theorem dX5_setFees_5 : decode cX5_setFees 5 = .ok (.invokestatic 90, 3) := by decide +kernel
theorem dX5_setFees_8 : decode cX5_setFees 8 = .ok (.ifCond .eq 17, 3) := by decide +kernel
theorem dX5_setFees_11 : decode cX5_setFees 11 = .ok (.iload_n 2, 1) := by decide +kernel
theorem dX5_setFees_12 : decode cX5_setFees 12 = .ok (.iconst 0, 1) := by decide +kernel
theorem dX5_setFees_13 : decode cX5_setFees 13 = .ok (.ldc 103, 2) := by decide +kernel
theorem dX5_setFees_15 : decode cX5_setFees 15 = .ok (.invokestatic 90, 3) := by decide +kernel
theorem dX5_setFees_18 : decode cX5_setFees 18 = .ok (.ifCond .eq 7, 3) := by decide +kernel
theorem dX5_setFees_21 : decode cX5_setFees 21 = .ok (.iconst 0, 1) := by decide +kernel
theorem dX5_setFees_22 : decode cX5_setFees 22 = .ok (.goto 4, 3) := by decide +kernel
theorem dX5_setFees_25 : decode cX5_setFees 25 = .ok (.iconst 1, 1) := by decide +kernel
theorem dX5_setFees_26 : decode cX5_setFees 26 = .ok (.invokevirtual 95, 3) := by decide +kernel
theorem dX5_setFees_29 : decode cX5_setFees 29 = .ok (.ifCond .eq 13, 3) := by decide +kernel
theorem dX5_setFees_32 : decode cX5_setFees 32 = .ok (.aload_n 0, 1) := by decide +kernel
theorem dX5_setFees_33 : decode cX5_setFees 33 = .ok (.iload_n 1, 1) := by decide +kernel
theorem dX5_setFees_34 : decode cX5_setFees 34 = .ok (.putfield 23, 3) := by decide +kernel
theorem dX5_setFees_37 : decode cX5_setFees 37 = .ok (.aload_n 0, 1) := by decide +kernel
theorem dX5_setFees_38 : decode cX5_setFees 38 = .ok (.iload_n 2, 1) := by decide +kernel
theorem dX5_setFees_39 : decode cX5_setFees 39 = .ok (.putfield 104, 3) := by decide +kernel
theorem dX5_setFees_42 : decode cX5_setFees 42 = .ok (.return_, 1) := by decide +kernel
set_option maxRecDepth 20000 in
theorem ggX5_setStudent_X5_isStudent : GoodIn wsX5_setStudent wsX5_isStudent := goodIn_r _ [8, 9, 10, 7, 11] (by decide +kernel) (by decide +kernel)
set_option maxRecDepth 20000 in
theorem gX5_setStudent_X5_isStudent : GoodIn wsX5_setStudent (va_wsS RX5 107 yX5_isStudent wsX5_isStudent) := goodIn_app (goodIn_of _ (by decide +kernel)) ggX5_setStudent_X5_isStudent
set_option maxRecDepth 20000 in
theorem ggX5_setStudent_X5_in : GoodIn wsX5_setStudent wsX5_in := goodIn_r _ [11] (by decide +kernel) (by decide +kernel)
set_option maxRecDepth 20000 in
theorem gX5_setStudent_X5_in : GoodIn wsX5_setStudent (va_wsS RX5 90 yX5_in wsX5_in) := goodIn_app (goodIn_of _ (by decide +kernel)) ggX5_setStudent_X5_in
set_option maxRecDepth 20000 in
theorem ggX5_setStudent_X5_holds : GoodIn wsX5_setStudent wsX5_holds := goodIn_r _ [15, 16, 17, 18, 19, 20, 21, 22, 23, 24, 25, 26, 27, 28, 29, 30, 31, 32, 33, 34, 35, 36, 37, 38, 39, 40, 41, 42, 43, 44, 45] (by decide +kernel) (by decide +kernel)
set_option maxRecDepth 20000 in
theorem gX5_setStudent_X5_holds : GoodIn wsX5_setStudent (wsV RX5 95 RX5 yX5_holds wsX5_holds) := goodIn_app (goodIn_of _ (by decide +kernel)) ggX5_setStudent_X5_holds
theorem dX5_setStudent_0 : decode cX5_setStudent 0 = .ok (.aload_n 0, 1) := by decide +kernel
theorem dX5_setStudent_1 : decode cX5_setStudent 1 = .ok (.iload_n 1, 1) := by decide +kernel
theorem dX5_setStudent_2 : decode cX5_setStudent 2 = .ok (.invokestatic 107, 3) := by decide +kernel
theorem dX5_setStudent_5 : decode cX5_setStudent 5 = .ok (.ifCond .ne 7, 3) := by decide +kernel
theorem dX5_setStudent_8 : decode cX5_setStudent 8 = .ok (.iconst 1, 1) := by decide +kernel
theorem dX5_setStudent_9 : decode cX5_setStudent 9 = .ok (.goto 28, 3) := by decide +kernel
theorem dX5_setStudent_12 : decode cX5_setStudent 12 = .ok (.iload_n 2, 1) := by decide +kernel
theorem dX5_setStudent_13 : decode cX5_setStudent 13 = .ok (.iconst 0, 1) := by decide +kernel
theorem dX5_setStudent_14 : decode cX5_setStudent 14 = .ok (.iconst 1, 1) := by decide +kernel
theorem dX5_setStudent_15 : decode cX5_setStudent 15 = .ok (.invokestatic 90, 3) := by decide +kernel
theorem dX5_setStudent_18 : decode cX5_setStudent 18 = .ok (.ifCond .eq 18, 3) := by decide +kernel
theorem dX5_setStudent_21 : decode cX5_setStudent 21 = .ok (.iload 4, 2) := by decide +kernel
theorem dX5_setStudent_23 : decode cX5_setStudent 23 = .ok (.iconst 0, 1) := by decide +kernel
theorem dX5_setStudent_24 : decode cX5_setStudent 24 = .ok (.ldc 103, 2) := by decide +kernel
theorem dX5_setStudent_26 : decode cX5_setStudent 26 = .ok (.invokestatic 90, 3) := by decide +kernel
theorem dX5_setStudent_29 : decode cX5_setStudent 29 = .ok (.ifCond .eq 7, 3) := by decide +kernel
theorem dX5_setStudent_32 : decode cX5_setStudent 32 = .ok (.iconst 0, 1) := by decide +kernel
theorem dX5_setStudent_33 : decode cX5_setStudent 33 = .ok (.goto 4, 3) := by decide +kernel
theorem dX5_setStudent_36 : decode cX5_setStudent 36 = .ok (.iconst 2, 1) := by decide +kernel
theorem dX5_setStudent_37 : decode cX5_setStudent 37 = .ok (.invokevirtual 95, 3) := by decide +kernel
theorem dX5_setStudent_40 : decode cX5_setStudent 40 = .ok (.ifCond .eq 25, 3) := by decide +kernel
theorem dX5_setStudent_43 : decode cX5_setStudent 43 = .ok (.aload_n 0, 1) := by decide +kernel
theorem dX5_setStudent_44 : decode cX5_setStudent 44 = .ok (.getfield 26, 3) := by decide +kernel
theorem dX5_setStudent_47 : decode cX5_setStudent 47 = .ok (.iload_n 1, 1) := by decide +kernel
theorem dX5_setStudent_48 : decode cX5_setStudent 48 = .ok (.iload_n 2, 1) := by decide +kernel
theorem dX5_setStudent_49 : decode cX5_setStudent 49 = .ok (.iastore, 1) := by decide +kernel
theorem dX5_setStudent_50 : decode cX5_setStudent 50 = .ok (.aload_n 0, 1) := by decide +kernel
theorem dX5_setStudent_51 : decode cX5_setStudent 51 = .ok (.getfield 29, 3) := by decide +kernel
theorem dX5_setStudent_54 : decode cX5_setStudent 54 = .ok (.iload_n 1, 1) := by decide +kernel
theorem dX5_setStudent_55 : decode cX5_setStudent 55 = .ok (.iload_n 3, 1) := by decide +kernel
theorem dX5_setStudent_56 : decode cX5_setStudent 56 = .ok (.bastore, 1) := by decide +kernel
theorem dX5_setStudent_57 : decode cX5_setStudent 57 = .ok (.aload_n 0, 1) := by decide +kernel
theorem dX5_setStudent_58 : decode cX5_setStudent 58 = .ok (.getfield 33, 3) := by decide +kernel
theorem dX5_setStudent_61 : decode cX5_setStudent 61 = .ok (.iload_n 1, 1) := by decide +kernel
theorem dX5_setStudent_62 : decode cX5_setStudent 62 = .ok (.iload 4, 2) := by decide +kernel
theorem dX5_setStudent_64 : decode cX5_setStudent 64 = .ok (.iastore, 1) := by decide +kernel
theorem dX5_setStudent_65 : decode cX5_setStudent 65 = .ok (.return_, 1) := by decide +kernel
set_option maxRecDepth 20000 in
theorem ggX5_setSponsor_X5_isStudent : GoodIn wsX5_setSponsor wsX5_isStudent := goodIn_r _ [7, 8, 9, 6, 10] (by decide +kernel) (by decide +kernel)
set_option maxRecDepth 20000 in
theorem gX5_setSponsor_X5_isStudent : GoodIn wsX5_setSponsor (va_wsS RX5 107 yX5_isStudent wsX5_isStudent) := goodIn_app (goodIn_of _ (by decide +kernel)) ggX5_setSponsor_X5_isStudent
set_option maxRecDepth 20000 in
theorem ggX5_setSponsor_X5_in : GoodIn wsX5_setSponsor wsX5_in := goodIn_r _ [10] (by decide +kernel) (by decide +kernel)
set_option maxRecDepth 20000 in
theorem gX5_setSponsor_X5_in : GoodIn wsX5_setSponsor (va_wsS RX5 90 yX5_in wsX5_in) := goodIn_app (goodIn_of _ (by decide +kernel)) ggX5_setSponsor_X5_in
set_option maxRecDepth 20000 in
theorem ggX5_setSponsor_X5_holds : GoodIn wsX5_setSponsor wsX5_holds := goodIn_r _ [14, 15, 16, 17, 18, 19, 20, 21, 22, 23, 24, 25, 26, 27, 28, 29, 30, 31, 32, 33, 34, 35, 36, 37, 38, 39, 40, 41, 42, 43, 44] (by decide +kernel) (by decide +kernel)
set_option maxRecDepth 20000 in
theorem gX5_setSponsor_X5_holds : GoodIn wsX5_setSponsor (wsV RX5 95 RX5 yX5_holds wsX5_holds) := goodIn_app (goodIn_of _ (by decide +kernel)) ggX5_setSponsor_X5_holds
theorem dX5_setSponsor_0 : decode cX5_setSponsor 0 = .ok (.aload_n 0, 1) := by decide +kernel
theorem dX5_setSponsor_1 : decode cX5_setSponsor 1 = .ok (.iload_n 1, 1) := by decide +kernel
theorem dX5_setSponsor_2 : decode cX5_setSponsor 2 = .ok (.invokestatic 107, 3) := by decide +kernel
theorem dX5_setSponsor_5 : decode cX5_setSponsor 5 = .ok (.ifCond .ne 7, 3) := by decide +kernel
theorem dX5_setSponsor_8 : decode cX5_setSponsor 8 = .ok (.iconst 1, 1) := by decide +kernel
theorem dX5_setSponsor_9 : decode cX5_setSponsor 9 = .ok (.goto 28, 3) := by decide +kernel
theorem dX5_setSponsor_12 : decode cX5_setSponsor 12 = .ok (.iload_n 2, 1) := by decide +kernel
theorem dX5_setSponsor_13 : decode cX5_setSponsor 13 = .ok (.iconst 0, 1) := by decide +kernel
theorem dX5_setSponsor_14 : decode cX5_setSponsor 14 = .ok (.bipush 7, 2) := by decide +kernel
theorem dX5_setSponsor_16 : decode cX5_setSponsor 16 = .ok (.invokestatic 90, 3) := by decide +kernel
theorem dX5_setSponsor_19 : decode cX5_setSponsor 19 = .ok (.ifCond .eq 17, 3) := by decide +kernel
theorem dX5_setSponsor_22 : decode cX5_setSponsor 22 = .ok (.iload_n 3, 1) := by decide +kernel
theorem dX5_setSponsor_23 : decode cX5_setSponsor 23 = .ok (.iconst 0, 1) := by decide +kernel
theorem dX5_setSponsor_24 : decode cX5_setSponsor 24 = .ok (.ldc 103, 2) := by decide +kernel
theorem dX5_setSponsor_26 : decode cX5_setSponsor 26 = .ok (.invokestatic 90, 3) := by decide +kernel
theorem dX5_setSponsor_29 : decode cX5_setSponsor 29 = .ok (.ifCond .eq 7, 3) := by decide +kernel
theorem dX5_setSponsor_32 : decode cX5_setSponsor 32 = .ok (.iconst 0, 1) := by decide +kernel
theorem dX5_setSponsor_33 : decode cX5_setSponsor 33 = .ok (.goto 4, 3) := by decide +kernel
theorem dX5_setSponsor_36 : decode cX5_setSponsor 36 = .ok (.iconst 2, 1) := by decide +kernel
theorem dX5_setSponsor_37 : decode cX5_setSponsor 37 = .ok (.invokevirtual 95, 3) := by decide +kernel
theorem dX5_setSponsor_40 : decode cX5_setSponsor 40 = .ok (.ifCond .eq 17, 3) := by decide +kernel
theorem dX5_setSponsor_43 : decode cX5_setSponsor 43 = .ok (.aload_n 0, 1) := by decide +kernel
theorem dX5_setSponsor_44 : decode cX5_setSponsor 44 = .ok (.getfield 36, 3) := by decide +kernel
theorem dX5_setSponsor_47 : decode cX5_setSponsor 47 = .ok (.iload_n 1, 1) := by decide +kernel
theorem dX5_setSponsor_48 : decode cX5_setSponsor 48 = .ok (.iload_n 2, 1) := by decide +kernel
theorem dX5_setSponsor_49 : decode cX5_setSponsor 49 = .ok (.iastore, 1) := by decide +kernel
theorem dX5_setSponsor_50 : decode cX5_setSponsor 50 = .ok (.aload_n 0, 1) := by decide +kernel
theorem dX5_setSponsor_51 : decode cX5_setSponsor 51 = .ok (.getfield 39, 3) := by decide +kernel
theorem dX5_setSponsor_54 : decode cX5_setSponsor 54 = .ok (.iload_n 1, 1) := by decide +kernel
theorem dX5_setSponsor_55 : decode cX5_setSponsor 55 = .ok (.iload_n 3, 1) := by decide +kernel
theorem dX5_setSponsor_56 : decode cX5_setSponsor 56 = .ok (.iastore, 1) := by decide +kernel
theorem dX5_setSponsor_57 : decode cX5_setSponsor 57 = .ok (.return_, 1) := by decide +kernel
theorem dX5_creditsOf_0 : decode cX5_creditsOf 0 = .ok (.iconst 0, 1) := by decide +kernel
theorem dX5_creditsOf_1 : decode cX5_creditsOf 1 = .ok (.istore_n 2, 1) := by decide +kernel
theorem dX5_creditsOf_2 : decode cX5_creditsOf 2 = .ok (.bipush 8, 2) := by decide +kernel
theorem dX5_creditsOf_4 : decode cX5_creditsOf 4 = .ok (.iload_n 1, 1) := by decide +kernel
theorem dX5_creditsOf_5 : decode cX5_creditsOf 5 = .ok (.imul, 1) := by decide +kernel
theorem dX5_creditsOf_6 : decode cX5_creditsOf 6 = .ok (.istore_n 3, 1) := by decide +kernel
theorem dX5_creditsOf_7 : decode cX5_creditsOf 7 = .ok (.iload_n 3, 1) := by decide +kernel
theorem dX5_creditsOf_8 : decode cX5_creditsOf 8 = .ok (.bipush 8, 2) := by decide +kernel
theorem dX5_creditsOf_10 : decode cX5_creditsOf 10 = .ok (.iload_n 1, 1) := by decide +kernel
theorem dX5_creditsOf_11 : decode cX5_creditsOf 11 = .ok (.imul, 1) := by decide +kernel
theorem dX5_creditsOf_12 : decode cX5_creditsOf 12 = .ok (.aload_n 0, 1) := by decide +kernel
theorem dX5_creditsOf_13 : decode cX5_creditsOf 13 = .ok (.getfield 42, 3) := by decide +kernel
theorem dX5_creditsOf_16 : decode cX5_creditsOf 16 = .ok (.iload_n 1, 1) := by decide +kernel
theorem dX5_creditsOf_17 : decode cX5_creditsOf 17 = .ok (.iaload, 1) := by decide +kernel
theorem dX5_creditsOf_18 : decode cX5_creditsOf 18 = .ok (.iadd, 1) := by decide +kernel
theorem dX5_creditsOf_19 : decode cX5_creditsOf 19 = .ok (.if_icmp .ge 31, 3) := by decide +kernel
theorem dX5_creditsOf_22 : decode cX5_creditsOf 22 = .ok (.iload_n 2, 1) := by decide +kernel
theorem dX5_creditsOf_23 : decode cX5_creditsOf 23 = .ok (.aload_n 0, 1) := by decide +kernel
theorem dX5_creditsOf_24 : decode cX5_creditsOf 24 = .ok (.getfield 48, 3) := by decide +kernel
theorem dX5_creditsOf_27 : decode cX5_creditsOf 27 = .ok (.iload_n 3, 1) := by decide +kernel
theorem dX5_creditsOf_28 : decode cX5_creditsOf 28 = .ok (.baload, 1) := by decide +kernel
theorem dX5_creditsOf_29 : decode cX5_creditsOf 29 = .ok (.ifCond .eq 7, 3) := by decide +kernel
theorem dX5_creditsOf_32 : decode cX5_creditsOf 32 = .ok (.iconst 0, 1) := by decide +kernel
theorem dX5_creditsOf_33 : decode cX5_creditsOf 33 = .ok (.goto 9, 3) := by decide +kernel
theorem dX5_creditsOf_36 : decode cX5_creditsOf 36 = .ok (.aload_n 0, 1) := by decide +kernel
theorem dX5_creditsOf_37 : decode cX5_creditsOf 37 = .ok (.getfield 45, 3) := by decide +kernel
theorem dX5_creditsOf_40 : decode cX5_creditsOf 40 = .ok (.iload_n 3, 1) := by decide +kernel
theorem dX5_creditsOf_41 : decode cX5_creditsOf 41 = .ok (.iaload, 1) := by decide +kernel
theorem dX5_creditsOf_42 : decode cX5_creditsOf 42 = .ok (.iadd, 1) := by decide +kernel
theorem dX5_creditsOf_43 : decode cX5_creditsOf 43 = .ok (.istore_n 2, 1) := by decide +kernel
theorem dX5_creditsOf_44 : decode cX5_creditsOf 44 = .ok (.iinc 3 1, 3) := by decide +kernel
theorem dX5_creditsOf_47 : decode cX5_creditsOf 47 = .ok (.goto (-40), 3) := by decide +kernel
theorem dX5_creditsOf_50 : decode cX5_creditsOf 50 = .ok (.iload_n 2, 1) := by decide +kernel
theorem dX5_creditsOf_51 : decode cX5_creditsOf 51 = .ok (.ireturn, 1) := by decide +kernel
set_option maxRecDepth 20000 in
theorem ggX5_price_X5_rateOf : GoodIn wsX5_price wsX5_rateOf := goodIn_r _ [9] (by decide +kernel) (by decide +kernel)
set_option maxRecDepth 20000 in
theorem gX5_price_X5_rateOf : GoodIn wsX5_price (va_wsS RX5 99 yX5_rateOf wsX5_rateOf) := goodIn_app (goodIn_of _ (by decide +kernel)) ggX5_price_X5_rateOf
theorem dX5_price_0 : decode cX5_price 0 = .ok (.iload_n 2, 1) := by decide +kernel
theorem dX5_price_1 : decode cX5_price 1 = .ok (.aload_n 0, 1) := by decide +kernel
theorem dX5_price_2 : decode cX5_price 2 = .ok (.getfield 13, 3) := by decide +kernel
theorem dX5_price_5 : decode cX5_price 5 = .ok (.if_icmp .gt 7, 3) := by decide +kernel
theorem dX5_price_8 : decode cX5_price 8 = .ok (.iload_n 2, 1) := by decide +kernel
theorem dX5_price_9 : decode cX5_price 9 = .ok (.goto 29, 3) := by decide +kernel
theorem dX5_price_12 : decode cX5_price 12 = .ok (.iload_n 2, 1) := by decide +kernel
theorem dX5_price_13 : decode cX5_price 13 = .ok (.aload_n 0, 1) := by decide +kernel
theorem dX5_price_14 : decode cX5_price 14 = .ok (.getfield 17, 3) := by decide +kernel
theorem dX5_price_17 : decode cX5_price 17 = .ok (.if_icmp .gt 10, 3) := by decide +kernel
theorem dX5_price_20 : decode cX5_price 20 = .ok (.aload_n 0, 1) := by decide +kernel
theorem dX5_price_21 : decode cX5_price 21 = .ok (.getfield 13, 3) := by decide +kernel
theorem dX5_price_24 : decode cX5_price 24 = .ok (.goto 14, 3) := by decide +kernel
theorem dX5_price_27 : decode cX5_price 27 = .ok (.aload_n 0, 1) := by decide +kernel
theorem dX5_price_28 : decode cX5_price 28 = .ok (.getfield 13, 3) := by decide +kernel
theorem dX5_price_31 : decode cX5_price 31 = .ok (.iload_n 2, 1) := by decide +kernel
theorem dX5_price_32 : decode cX5_price 32 = .ok (.iadd, 1) := by decide +kernel
theorem dX5_price_33 : decode cX5_price 33 = .ok (.aload_n 0, 1) := by decide +kernel
theorem dX5_price_34 : decode cX5_price 34 = .ok (.getfield 17, 3) := by decide +kernel
theorem dX5_price_37 : decode cX5_price 37 = .ok (.isub, 1) := by decide +kernel
theorem dX5_price_38 : decode cX5_price 38 = .ok (.istore_n 3, 1) := by decide +kernel
theorem dX5_price_39 : decode cX5_price 39 = .ok (.iload_n 3, 1) := by decide +kernel
theorem dX5_price_40 : decode cX5_price 40 = .ok (.aload_n 0, 1) := by decide +kernel
theorem dX5_price_41 : decode cX5_price 41 = .ok (.getfield 7, 3) := by decide +kernel
theorem dX5_price_44 : decode cX5_price 44 = .ok (.aload_n 0, 1) := by decide +kernel
theorem dX5_price_45 : decode cX5_price 45 = .ok (.getfield 26, 3) := by decide +kernel
theorem dX5_price_48 : decode cX5_price 48 = .ok (.iload_n 1, 1) := by decide +kernel
theorem dX5_price_49 : decode cX5_price 49 = .ok (.iaload, 1) := by decide +kernel
theorem dX5_price_50 : decode cX5_price 50 = .ok (.aload_n 0, 1) := by decide +kernel
theorem dX5_price_51 : decode cX5_price 51 = .ok (.getfield 29, 3) := by decide +kernel
theorem dX5_price_54 : decode cX5_price 54 = .ok (.iload_n 1, 1) := by decide +kernel
theorem dX5_price_55 : decode cX5_price 55 = .ok (.baload, 1) := by decide +kernel
theorem dX5_price_56 : decode cX5_price 56 = .ok (.invokestatic 99, 3) := by decide +kernel
theorem dX5_price_59 : decode cX5_price 59 = .ok (.iaload, 1) := by decide +kernel
theorem dX5_price_60 : decode cX5_price 60 = .ok (.imul, 1) := by decide +kernel
theorem dX5_price_61 : decode cX5_price 61 = .ok (.ireturn, 1) := by decide +kernel
set_option maxRecDepth 20000 in
theorem ggX5_chargedOf_X5_creditsOf : GoodIn wsX5_chargedOf wsX5_creditsOf := goodIn_r _ [8, 9, 10, 11, 24, 25, 26, 27, 28, 29, 30, 31, 32, 33, 34, 35, 36, 37, 38, 39, 40, 41, 42, 43, 44, 45, 46, 47, 48, 49, 50, 51, 52] (by decide +kernel) (by decide +kernel)
set_option maxRecDepth 20000 in
theorem gX5_chargedOf_X5_creditsOf : GoodIn wsX5_chargedOf (wsV RX5 110 RX5 yX5_creditsOf wsX5_creditsOf) := goodIn_app (goodIn_of _ (by decide +kernel)) ggX5_chargedOf_X5_creditsOf
set_option maxRecDepth 20000 in
theorem ggX5_chargedOf_X5_price : GoodIn wsX5_chargedOf wsX5_price := goodIn_r _ [15, 16, 17, 18, 19, 20, 21, 22, 7, 23, 24, 25, 26, 27, 28, 29, 30, 31, 32, 33, 34, 35, 36, 37, 38, 39, 40, 41, 42, 43, 44, 45, 46, 47, 48, 49, 50, 51, 52] (by decide +kernel) (by decide +kernel)
set_option maxRecDepth 20000 in
theorem gX5_chargedOf_X5_price : GoodIn wsX5_chargedOf (wsV RX5 114 RX5 yX5_price wsX5_price) := goodIn_app (goodIn_of _ (by decide +kernel)) ggX5_chargedOf_X5_price
theorem dX5_chargedOf_0 : decode cX5_chargedOf 0 = .ok (.iload_n 2, 1) := by decide +kernel
theorem dX5_chargedOf_1 : decode cX5_chargedOf 1 = .ok (.ifCond .ne 23, 3) := by decide +kernel
theorem dX5_chargedOf_4 : decode cX5_chargedOf 4 = .ok (.aload_n 0, 1) := by decide +kernel
theorem dX5_chargedOf_5 : decode cX5_chargedOf 5 = .ok (.iload_n 1, 1) := by decide +kernel
theorem dX5_chargedOf_6 : decode cX5_chargedOf 6 = .ok (.aload_n 0, 1) := by decide +kernel
theorem dX5_chargedOf_7 : decode cX5_chargedOf 7 = .ok (.iload_n 1, 1) := by decide +kernel
theorem dX5_chargedOf_8 : decode cX5_chargedOf 8 = .ok (.invokevirtual 110, 3) := by decide +kernel
theorem dX5_chargedOf_11 : decode cX5_chargedOf 11 = .ok (.invokevirtual 114, 3) := by decide +kernel
theorem dX5_chargedOf_14 : decode cX5_chargedOf 14 = .ok (.aload_n 0, 1) := by decide +kernel
theorem dX5_chargedOf_15 : decode cX5_chargedOf 15 = .ok (.getfield 51, 3) := by decide +kernel
theorem dX5_chargedOf_18 : decode cX5_chargedOf 18 = .ok (.iload_n 1, 1) := by decide +kernel
theorem dX5_chargedOf_19 : decode cX5_chargedOf 19 = .ok (.iaload, 1) := by decide +kernel
theorem dX5_chargedOf_20 : decode cX5_chargedOf 20 = .ok (.iadd, 1) := by decide +kernel
theorem dX5_chargedOf_21 : decode cX5_chargedOf 21 = .ok (.goto 23, 3) := by decide +kernel
theorem dX5_chargedOf_24 : decode cX5_chargedOf 24 = .ok (.iload_n 2, 1) := by decide +kernel
theorem dX5_chargedOf_25 : decode cX5_chargedOf 25 = .ok (.iconst 1, 1) := by decide +kernel
theorem dX5_chargedOf_26 : decode cX5_chargedOf 26 = .ok (.if_icmp .ne 12, 3) := by decide +kernel
theorem dX5_chargedOf_29 : decode cX5_chargedOf 29 = .ok (.aload_n 0, 1) := by decide +kernel
theorem dX5_chargedOf_30 : decode cX5_chargedOf 30 = .ok (.getfield 54, 3) := by decide +kernel
theorem dX5_chargedOf_33 : decode cX5_chargedOf 33 = .ok (.iload_n 1, 1) := by decide +kernel
theorem dX5_chargedOf_34 : decode cX5_chargedOf 34 = .ok (.iaload, 1) := by decide +kernel
theorem dX5_chargedOf_35 : decode cX5_chargedOf 35 = .ok (.goto 9, 3) := by decide +kernel
theorem dX5_chargedOf_38 : decode cX5_chargedOf 38 = .ok (.aload_n 0, 1) := by decide +kernel
theorem dX5_chargedOf_39 : decode cX5_chargedOf 39 = .ok (.getfield 57, 3) := by decide +kernel
theorem dX5_chargedOf_42 : decode cX5_chargedOf 42 = .ok (.iload_n 1, 1) := by decide +kernel
theorem dX5_chargedOf_43 : decode cX5_chargedOf 43 = .ok (.iaload, 1) := by decide +kernel
theorem dX5_chargedOf_44 : decode cX5_chargedOf 44 = .ok (.ireturn, 1) := by decide +kernel
set_option maxRecDepth 20000 in
theorem ggX5_all_X5_chargedOf : GoodIn wsX5_all wsX5_chargedOf := goodIn_r _ [5, 6, 7, 8, 9, 10, 11, 4, 12, 13, 14, 15, 16, 17, 18, 19, 20, 21, 22, 23, 24, 25, 26, 27, 28, 29, 30, 31, 32, 33, 34, 35, 36, 37, 38, 39, 40, 41, 42, 43, 44, 45, 46, 47, 48, 49, 50, 51, 52, 53, 54, 55, 56] (by decide +kernel) (by decide +kernel)
set_option maxRecDepth 20000 in
theorem gX5_all_X5_chargedOf : GoodIn wsX5_all (wsV RX5 118 RX5 yX5_chargedOf wsX5_chargedOf) := goodIn_app (goodIn_of _ (by decide +kernel)) ggX5_all_X5_chargedOf
theorem dX5_all_0 : decode cX5_all 0 = .ok (.aload_n 0, 1) := by decide +kernel
theorem dX5_all_1 : decode cX5_all 1 = .ok (.iload_n 1, 1) := by decide +kernel
theorem dX5_all_2 : decode cX5_all 2 = .ok (.iconst 0, 1) := by decide +kernel
theorem dX5_all_3 : decode cX5_all 3 = .ok (.invokevirtual 118, 3) := by decide +kernel
theorem dX5_all_6 : decode cX5_all 6 = .ok (.aload_n 0, 1) := by decide +kernel
theorem dX5_all_7 : decode cX5_all 7 = .ok (.iload_n 1, 1) := by decide +kernel
theorem dX5_all_8 : decode cX5_all 8 = .ok (.iconst 1, 1) := by decide +kernel
theorem dX5_all_9 : decode cX5_all 9 = .ok (.invokevirtual 118, 3) := by decide +kernel
theorem dX5_all_12 : decode cX5_all 12 = .ok (.iadd, 1) := by decide +kernel
theorem dX5_all_13 : decode cX5_all 13 = .ok (.aload_n 0, 1) := by decide +kernel
theorem dX5_all_14 : decode cX5_all 14 = .ok (.iload_n 1, 1) := by decide +kernel
theorem dX5_all_15 : decode cX5_all 15 = .ok (.iconst 2, 1) := by decide +kernel
theorem dX5_all_16 : decode cX5_all 16 = .ok (.invokevirtual 118, 3) := by decide +kernel
theorem dX5_all_19 : decode cX5_all 19 = .ok (.iadd, 1) := by decide +kernel
theorem dX5_all_20 : decode cX5_all 20 = .ok (.ireturn, 1) := by decide +kernel
set_option maxRecDepth 20000 in
theorem ggX5_sponsoredOf_X5_chargedOf : GoodIn wsX5_sponsoredOf wsX5_chargedOf := goodIn_r _ [7, 8, 9, 10, 11, 12, 13, 6, 14, 15, 16, 17, 18, 19, 20, 21, 22, 23, 24, 25, 26, 27, 28, 29, 33, 34, 35, 36, 37, 38, 39, 40, 41, 42, 43, 44, 45, 46, 47, 48, 49, 50, 51, 52, 53, 54, 55, 56, 57, 58, 59, 60, 61] (by decide +kernel) (by decide +kernel)
set_option maxRecDepth 20000 in
theorem gX5_sponsoredOf_X5_chargedOf : GoodIn wsX5_sponsoredOf (wsV RX5 118 RX5 yX5_chargedOf wsX5_chargedOf) := goodIn_app (goodIn_of _ (by decide +kernel)) ggX5_sponsoredOf_X5_chargedOf
set_option maxRecDepth 20000 in
theorem ggX5_sponsoredOf_X5_least : GoodIn wsX5_sponsoredOf wsX5_least := goodIn_r _ [32] (by decide +kernel) (by decide +kernel)
set_option maxRecDepth 20000 in
theorem gX5_sponsoredOf_X5_least : GoodIn wsX5_sponsoredOf (va_wsS RX5 121 yX5_least wsX5_least) := goodIn_app (goodIn_of _ (by decide +kernel)) ggX5_sponsoredOf_X5_least
theorem dX5_sponsoredOf_0 : decode cX5_sponsoredOf 0 = .ok (.iconst 0, 1) := by decide +kernel
theorem dX5_sponsoredOf_1 : decode cX5_sponsoredOf 1 = .ok (.istore_n 2, 1) := by decide +kernel
theorem dX5_sponsoredOf_2 : decode cX5_sponsoredOf 2 = .ok (.iconst 0, 1) := by decide +kernel
theorem dX5_sponsoredOf_3 : decode cX5_sponsoredOf 3 = .ok (.istore_n 3, 1) := by decide +kernel
theorem dX5_sponsoredOf_4 : decode cX5_sponsoredOf 4 = .ok (.iload_n 3, 1) := by decide +kernel
theorem dX5_sponsoredOf_5 : decode cX5_sponsoredOf 5 = .ok (.iconst 2, 1) := by decide +kernel
theorem dX5_sponsoredOf_6 : decode cX5_sponsoredOf 6 = .ok (.if_icmp .gt 36, 3) := by decide +kernel
theorem dX5_sponsoredOf_9 : decode cX5_sponsoredOf 9 = .ok (.iload_n 2, 1) := by decide +kernel
theorem dX5_sponsoredOf_10 : decode cX5_sponsoredOf 10 = .ok (.aload_n 0, 1) := by decide +kernel
theorem dX5_sponsoredOf_11 : decode cX5_sponsoredOf 11 = .ok (.getfield 36, 3) := by decide +kernel
theorem dX5_sponsoredOf_14 : decode cX5_sponsoredOf 14 = .ok (.iload_n 1, 1) := by decide +kernel
theorem dX5_sponsoredOf_15 : decode cX5_sponsoredOf 15 = .ok (.iaload, 1) := by decide +kernel
theorem dX5_sponsoredOf_16 : decode cX5_sponsoredOf 16 = .ok (.iload_n 3, 1) := by decide +kernel
theorem dX5_sponsoredOf_17 : decode cX5_sponsoredOf 17 = .ok (.ishr, 1) := by decide +kernel
theorem dX5_sponsoredOf_18 : decode cX5_sponsoredOf 18 = .ok (.iconst 1, 1) := by decide +kernel
theorem dX5_sponsoredOf_19 : decode cX5_sponsoredOf 19 = .ok (.iand, 1) := by decide +kernel
theorem dX5_sponsoredOf_20 : decode cX5_sponsoredOf 20 = .ok (.iconst 1, 1) := by decide +kernel
theorem dX5_sponsoredOf_21 : decode cX5_sponsoredOf 21 = .ok (.if_icmp .ne 12, 3) := by decide +kernel
theorem dX5_sponsoredOf_24 : decode cX5_sponsoredOf 24 = .ok (.aload_n 0, 1) := by decide +kernel
theorem dX5_sponsoredOf_25 : decode cX5_sponsoredOf 25 = .ok (.iload_n 1, 1) := by decide +kernel
theorem dX5_sponsoredOf_26 : decode cX5_sponsoredOf 26 = .ok (.iload_n 3, 1) := by decide +kernel
theorem dX5_sponsoredOf_27 : decode cX5_sponsoredOf 27 = .ok (.invokevirtual 118, 3) := by decide +kernel
theorem dX5_sponsoredOf_30 : decode cX5_sponsoredOf 30 = .ok (.goto 4, 3) := by decide +kernel
theorem dX5_sponsoredOf_33 : decode cX5_sponsoredOf 33 = .ok (.iconst 0, 1) := by decide +kernel
theorem dX5_sponsoredOf_34 : decode cX5_sponsoredOf 34 = .ok (.iadd, 1) := by decide +kernel
theorem dX5_sponsoredOf_35 : decode cX5_sponsoredOf 35 = .ok (.istore_n 2, 1) := by decide +kernel
theorem dX5_sponsoredOf_36 : decode cX5_sponsoredOf 36 = .ok (.iinc 3 1, 3) := by decide +kernel
theorem dX5_sponsoredOf_39 : decode cX5_sponsoredOf 39 = .ok (.goto (-35), 3) := by decide +kernel
theorem dX5_sponsoredOf_42 : decode cX5_sponsoredOf 42 = .ok (.iload_n 2, 1) := by decide +kernel
theorem dX5_sponsoredOf_43 : decode cX5_sponsoredOf 43 = .ok (.aload_n 0, 1) := by decide +kernel
theorem dX5_sponsoredOf_44 : decode cX5_sponsoredOf 44 = .ok (.getfield 39, 3) := by decide +kernel
theorem dX5_sponsoredOf_47 : decode cX5_sponsoredOf 47 = .ok (.iload_n 1, 1) := by decide +kernel
theorem dX5_sponsoredOf_48 : decode cX5_sponsoredOf 48 = .ok (.iaload, 1) := by decide +kernel
theorem dX5_sponsoredOf_49 : decode cX5_sponsoredOf 49 = .ok (.invokestatic 121, 3) := by decide +kernel
theorem dX5_sponsoredOf_52 : decode cX5_sponsoredOf 52 = .ok (.ireturn, 1) := by decide +kernel
set_option maxRecDepth 20000 in
theorem ggX5_usedOf_X5_all : GoodIn wsX5_usedOf wsX5_all := goodIn_r _ [9, 10, 11, 12, 8, 13, 14, 15, 16, 17, 18, 19, 20, 21, 22, 23, 24, 25, 26, 27, 28, 29, 30, 31, 32, 33, 34, 35, 45, 46, 47, 48, 49, 50, 51, 52, 53, 54, 55, 56, 57, 58, 59, 60, 61, 62, 63, 64, 65, 66, 67, 68, 69, 70, 71, 72, 73] (by decide +kernel) (by decide +kernel)
set_option maxRecDepth 20000 in
theorem gX5_usedOf_X5_all : GoodIn wsX5_usedOf (wsV RX5 124 RX5 yX5_all wsX5_all) := goodIn_app (goodIn_of _ (by decide +kernel)) ggX5_usedOf_X5_all
set_option maxRecDepth 20000 in
theorem ggX5_usedOf_X5_sponsoredOf : GoodIn wsX5_usedOf wsX5_sponsoredOf := goodIn_r _ [39, 40, 41, 10, 11, 12, 8, 13, 14, 15, 16, 17, 18, 19, 20, 21, 22, 23, 24, 25, 26, 27, 28, 29, 30, 31, 32, 33, 34, 35, 42, 43, 44, 45, 46, 47, 48, 49, 50, 51, 52, 53, 54, 55, 56, 57, 58, 59, 60, 61, 62, 63, 64, 65, 66, 67, 68, 69, 70, 71, 72, 73] (by decide +kernel) (by decide +kernel)
set_option maxRecDepth 20000 in
theorem gX5_usedOf_X5_sponsoredOf : GoodIn wsX5_usedOf (wsV RX5 127 RX5 yX5_sponsoredOf wsX5_sponsoredOf) := goodIn_app (goodIn_of _ (by decide +kernel)) ggX5_usedOf_X5_sponsoredOf
set_option maxRecDepth 20000 in
theorem ggX5_usedOf_X5_least : GoodIn wsX5_usedOf wsX5_least := goodIn_r _ [44] (by decide +kernel) (by decide +kernel)
set_option maxRecDepth 20000 in
theorem gX5_usedOf_X5_least : GoodIn wsX5_usedOf (va_wsS RX5 121 yX5_least wsX5_least) := goodIn_app (goodIn_of _ (by decide +kernel)) ggX5_usedOf_X5_least
theorem dX5_usedOf_0 : decode cX5_usedOf 0 = .ok (.aload_n 0, 1) := by decide +kernel
theorem dX5_usedOf_1 : decode cX5_usedOf 1 = .ok (.iload_n 1, 1) := by decide +kernel
theorem dX5_usedOf_2 : decode cX5_usedOf 2 = .ok (.invokevirtual 124, 3) := by decide +kernel
theorem dX5_usedOf_5 : decode cX5_usedOf 5 = .ok (.aload_n 0, 1) := by decide +kernel
theorem dX5_usedOf_6 : decode cX5_usedOf 6 = .ok (.iload_n 1, 1) := by decide +kernel
theorem dX5_usedOf_7 : decode cX5_usedOf 7 = .ok (.invokevirtual 127, 3) := by decide +kernel
theorem dX5_usedOf_10 : decode cX5_usedOf 10 = .ok (.isub, 1) := by decide +kernel
theorem dX5_usedOf_11 : decode cX5_usedOf 11 = .ok (.istore_n 3, 1) := by decide +kernel
theorem dX5_usedOf_12 : decode cX5_usedOf 12 = .ok (.aload_n 0, 1) := by decide +kernel
theorem dX5_usedOf_13 : decode cX5_usedOf 13 = .ok (.getfield 33, 3) := by decide +kernel
theorem dX5_usedOf_16 : decode cX5_usedOf 16 = .ok (.iload_n 1, 1) := by decide +kernel
theorem dX5_usedOf_17 : decode cX5_usedOf 17 = .ok (.iaload, 1) := by decide +kernel
theorem dX5_usedOf_18 : decode cX5_usedOf 18 = .ok (.istore 4, 2) := by decide +kernel
theorem dX5_usedOf_20 : decode cX5_usedOf 20 = .ok (.iconst 0, 1) := by decide +kernel
theorem dX5_usedOf_21 : decode cX5_usedOf 21 = .ok (.istore 5, 2) := by decide +kernel
theorem dX5_usedOf_23 : decode cX5_usedOf 23 = .ok (.iconst 0, 1) := by decide +kernel
theorem dX5_usedOf_24 : decode cX5_usedOf 24 = .ok (.istore 6, 2) := by decide +kernel
theorem dX5_usedOf_26 : decode cX5_usedOf 26 = .ok (.iload 6, 2) := by decide +kernel
theorem dX5_usedOf_28 : decode cX5_usedOf 28 = .ok (.bipush 18, 2) := by decide +kernel
theorem dX5_usedOf_30 : decode cX5_usedOf 30 = .ok (.if_icmp .ge 147, 3) := by decide +kernel
theorem dX5_usedOf_33 : decode cX5_usedOf 33 = .ok (.iload 6, 2) := by decide +kernel
theorem dX5_usedOf_35 : decode cX5_usedOf 35 = .ok (.bipush 6, 2) := by decide +kernel
theorem dX5_usedOf_37 : decode cX5_usedOf 37 = .ok (.idiv, 1) := by decide +kernel
theorem dX5_usedOf_38 : decode cX5_usedOf 38 = .ok (.istore 7, 2) := by decide +kernel
theorem dX5_usedOf_40 : decode cX5_usedOf 40 = .ok (.bipush 6, 2) := by decide +kernel
theorem dX5_usedOf_42 : decode cX5_usedOf 42 = .ok (.iload_n 1, 1) := by decide +kernel
theorem dX5_usedOf_43 : decode cX5_usedOf 43 = .ok (.imul, 1) := by decide +kernel
theorem dX5_usedOf_44 : decode cX5_usedOf 44 = .ok (.iload 6, 2) := by decide +kernel
theorem dX5_usedOf_46 : decode cX5_usedOf 46 = .ok (.bipush 6, 2) := by decide +kernel
theorem dX5_usedOf_48 : decode cX5_usedOf 48 = .ok (.irem, 1) := by decide +kernel
theorem dX5_usedOf_49 : decode cX5_usedOf 49 = .ok (.iadd, 1) := by decide +kernel
theorem dX5_usedOf_50 : decode cX5_usedOf 50 = .ok (.istore 8, 2) := by decide +kernel
theorem dX5_usedOf_52 : decode cX5_usedOf 52 = .ok (.iload 6, 2) := by decide +kernel
theorem dX5_usedOf_54 : decode cX5_usedOf 54 = .ok (.bipush 6, 2) := by decide +kernel
theorem dX5_usedOf_56 : decode cX5_usedOf 56 = .ok (.irem, 1) := by decide +kernel
theorem dX5_usedOf_57 : decode cX5_usedOf 57 = .ok (.aload_n 0, 1) := by decide +kernel
theorem dX5_usedOf_58 : decode cX5_usedOf 58 = .ok (.getfield 60, 3) := by decide +kernel
theorem dX5_usedOf_61 : decode cX5_usedOf 61 = .ok (.iload_n 1, 1) := by decide +kernel
theorem dX5_usedOf_62 : decode cX5_usedOf 62 = .ok (.iaload, 1) := by decide +kernel
theorem dX5_usedOf_63 : decode cX5_usedOf 63 = .ok (.if_icmp .ge 19, 3) := by decide +kernel
theorem dX5_usedOf_66 : decode cX5_usedOf 66 = .ok (.aload_n 0, 1) := by decide +kernel
theorem dX5_usedOf_67 : decode cX5_usedOf 67 = .ok (.getfield 63, 3) := by decide +kernel
theorem dX5_usedOf_70 : decode cX5_usedOf 70 = .ok (.iload 8, 2) := by decide +kernel
theorem dX5_usedOf_72 : decode cX5_usedOf 72 = .ok (.iaload, 1) := by decide +kernel
theorem dX5_usedOf_73 : decode cX5_usedOf 73 = .ok (.iload 7, 2) := by decide +kernel
theorem dX5_usedOf_75 : decode cX5_usedOf 75 = .ok (.if_icmp .ne 7, 3) := by decide +kernel
theorem dX5_usedOf_78 : decode cX5_usedOf 78 = .ok (.iconst 1, 1) := by decide +kernel
theorem dX5_usedOf_79 : decode cX5_usedOf 79 = .ok (.goto 4, 3) := by decide +kernel
theorem dX5_usedOf_82 : decode cX5_usedOf 82 = .ok (.iconst 0, 1) := by decide +kernel
theorem dX5_usedOf_83 : decode cX5_usedOf 83 = .ok (.istore 9, 2) := by decide +kernel
theorem dX5_usedOf_85 : decode cX5_usedOf 85 = .ok (.iload 9, 2) := by decide +kernel
theorem dX5_usedOf_87 : decode cX5_usedOf 87 = .ok (.ifCond .eq 17, 3) := by decide +kernel
theorem dX5_usedOf_90 : decode cX5_usedOf 90 = .ok (.aload_n 0, 1) := by decide +kernel
theorem dX5_usedOf_91 : decode cX5_usedOf 91 = .ok (.getfield 66, 3) := by decide +kernel
theorem dX5_usedOf_94 : decode cX5_usedOf 94 = .ok (.iload 8, 2) := by decide +kernel
theorem dX5_usedOf_96 : decode cX5_usedOf 96 = .ok (.iaload, 1) := by decide +kernel
theorem dX5_usedOf_97 : decode cX5_usedOf 97 = .ok (.iload_n 3, 1) := by decide +kernel
theorem dX5_usedOf_98 : decode cX5_usedOf 98 = .ok (.invokestatic 121, 3) := by decide +kernel
theorem dX5_usedOf_101 : decode cX5_usedOf 101 = .ok (.goto 4, 3) := by decide +kernel
theorem dX5_usedOf_104 : decode cX5_usedOf 104 = .ok (.iconst 0, 1) := by decide +kernel
theorem dX5_usedOf_105 : decode cX5_usedOf 105 = .ok (.istore 10, 2) := by decide +kernel
theorem dX5_usedOf_107 : decode cX5_usedOf 107 = .ok (.iload 7, 2) := by decide +kernel
theorem dX5_usedOf_109 : decode cX5_usedOf 109 = .ok (.ifCond .ne 13, 3) := by decide +kernel
theorem dX5_usedOf_112 : decode cX5_usedOf 112 = .ok (.iload 10, 2) := by decide +kernel
theorem dX5_usedOf_114 : decode cX5_usedOf 114 = .ok (.iload 4, 2) := by decide +kernel
theorem dX5_usedOf_116 : decode cX5_usedOf 116 = .ok (.invokestatic 121, 3) := by decide +kernel
theorem dX5_usedOf_119 : decode cX5_usedOf 119 = .ok (.goto 5, 3) := by decide +kernel
theorem dX5_usedOf_122 : decode cX5_usedOf 122 = .ok (.iload 10, 2) := by decide +kernel
theorem dX5_usedOf_124 : decode cX5_usedOf 124 = .ok (.istore 10, 2) := by decide +kernel
theorem dX5_usedOf_126 : decode cX5_usedOf 126 = .ok (.iload 4, 2) := by decide +kernel
theorem dX5_usedOf_128 : decode cX5_usedOf 128 = .ok (.iload 7, 2) := by decide +kernel
theorem dX5_usedOf_130 : decode cX5_usedOf 130 = .ok (.ifCond .ne 8, 3) := by decide +kernel
theorem dX5_usedOf_133 : decode cX5_usedOf 133 = .ok (.iload 10, 2) := by decide +kernel
theorem dX5_usedOf_135 : decode cX5_usedOf 135 = .ok (.goto 4, 3) := by decide +kernel
theorem dX5_usedOf_138 : decode cX5_usedOf 138 = .ok (.iconst 0, 1) := by decide +kernel
theorem dX5_usedOf_139 : decode cX5_usedOf 139 = .ok (.isub, 1) := by decide +kernel
theorem dX5_usedOf_140 : decode cX5_usedOf 140 = .ok (.istore 4, 2) := by decide +kernel
theorem dX5_usedOf_142 : decode cX5_usedOf 142 = .ok (.iload_n 3, 1) := by decide +kernel
theorem dX5_usedOf_143 : decode cX5_usedOf 143 = .ok (.iload 10, 2) := by decide +kernel
theorem dX5_usedOf_145 : decode cX5_usedOf 145 = .ok (.isub, 1) := by decide +kernel
theorem dX5_usedOf_146 : decode cX5_usedOf 146 = .ok (.istore_n 3, 1) := by decide +kernel
theorem dX5_usedOf_147 : decode cX5_usedOf 147 = .ok (.iload 5, 2) := by decide +kernel
theorem dX5_usedOf_149 : decode cX5_usedOf 149 = .ok (.iload 10, 2) := by decide +kernel
theorem dX5_usedOf_151 : decode cX5_usedOf 151 = .ok (.iadd, 1) := by decide +kernel
theorem dX5_usedOf_152 : decode cX5_usedOf 152 = .ok (.istore 5, 2) := by decide +kernel
theorem dX5_usedOf_154 : decode cX5_usedOf 154 = .ok (.iload 9, 2) := by decide +kernel
theorem dX5_usedOf_156 : decode cX5_usedOf 156 = .ok (.ifCond .eq 15, 3) := by decide +kernel
theorem dX5_usedOf_159 : decode cX5_usedOf 159 = .ok (.iload 6, 2) := by decide +kernel
theorem dX5_usedOf_161 : decode cX5_usedOf 161 = .ok (.bipush 6, 2) := by decide +kernel
theorem dX5_usedOf_163 : decode cX5_usedOf 163 = .ok (.irem, 1) := by decide +kernel
theorem dX5_usedOf_164 : decode cX5_usedOf 164 = .ok (.iload_n 2, 1) := by decide +kernel
theorem dX5_usedOf_165 : decode cX5_usedOf 165 = .ok (.if_icmp .ne 6, 3) := by decide +kernel
theorem dX5_usedOf_168 : decode cX5_usedOf 168 = .ok (.iload 10, 2) := by decide +kernel
theorem dX5_usedOf_170 : decode cX5_usedOf 170 = .ok (.ireturn, 1) := by decide +kernel
theorem dX5_usedOf_171 : decode cX5_usedOf 171 = .ok (.iinc 6 1, 3) := by decide +kernel
theorem dX5_usedOf_174 : decode cX5_usedOf 174 = .ok (.goto (-148), 3) := by decide +kernel
theorem dX5_usedOf_177 : decode cX5_usedOf 177 = .ok (.iload 5, 2) := by decide +kernel
theorem dX5_usedOf_179 : decode cX5_usedOf 179 = .ok (.ireturn, 1) := by decide +kernel
set_option maxRecDepth 20000 in
theorem ggX5_owedOf_X5_all : GoodIn wsX5_owedOf wsX5_all := goodIn_r _ [6, 7, 8, 9, 5, 10, 11, 12, 13, 14, 15, 16, 17, 18, 19, 20, 21, 22, 23, 24, 25, 26, 27, 28, 29, 30, 31, 32, 50, 51, 52, 53, 54, 55, 56, 57, 58, 59, 60, 61, 62, 63, 64, 65, 66, 67, 68, 69, 70, 71, 72, 73, 74, 75, 76, 77, 78] (by decide +kernel) (by decide +kernel)
set_option maxRecDepth 20000 in
theorem gX5_owedOf_X5_all : GoodIn wsX5_owedOf (wsV RX5 124 RX5 yX5_all wsX5_all) := goodIn_app (goodIn_of _ (by decide +kernel)) ggX5_owedOf_X5_all
set_option maxRecDepth 20000 in
theorem ggX5_owedOf_X5_sponsoredOf : GoodIn wsX5_owedOf wsX5_sponsoredOf := goodIn_r _ [36, 37, 38, 7, 8, 9, 5, 10, 11, 12, 13, 14, 15, 16, 17, 18, 19, 20, 21, 22, 23, 24, 25, 26, 27, 28, 29, 30, 31, 32, 39, 40, 41, 50, 51, 52, 53, 54, 55, 56, 57, 58, 59, 60, 61, 62, 63, 64, 65, 66, 67, 68, 69, 70, 71, 72, 73, 74, 75, 76, 77, 78] (by decide +kernel) (by decide +kernel)
set_option maxRecDepth 20000 in
theorem gX5_owedOf_X5_sponsoredOf : GoodIn wsX5_owedOf (wsV RX5 127 RX5 yX5_sponsoredOf wsX5_sponsoredOf) := goodIn_app (goodIn_of _ (by decide +kernel)) ggX5_owedOf_X5_sponsoredOf
set_option maxRecDepth 20000 in
theorem ggX5_owedOf_X5_usedOf : GoodIn wsX5_owedOf wsX5_usedOf := goodIn_r _ [45, 46, 47, 48, 49, 2, 3, 4, 5, 6, 7, 8, 9, 10, 11, 12, 13, 14, 15, 16, 17, 18, 19, 20, 21, 22, 23, 24, 25, 26, 27, 28, 29, 30, 31, 32, 33, 34, 35, 36, 37, 38, 39, 40, 41, 50, 51, 52, 53, 54, 55, 56, 57, 58, 59, 60, 61, 62, 63, 64, 65, 66, 67, 68, 69, 70, 71, 72, 73, 74, 75, 76, 77, 78] (by decide +kernel) (by decide +kernel)
set_option maxRecDepth 20000 in
theorem gX5_owedOf_X5_usedOf : GoodIn wsX5_owedOf (wsV RX5 130 RX5 yX5_usedOf wsX5_usedOf) := goodIn_app (goodIn_of _ (by decide +kernel)) ggX5_owedOf_X5_usedOf
theorem dX5_owedOf_0 : decode cX5_owedOf 0 = .ok (.aload_n 0, 1) := by decide +kernel
theorem dX5_owedOf_1 : decode cX5_owedOf 1 = .ok (.iload_n 1, 1) := by decide +kernel
theorem dX5_owedOf_2 : decode cX5_owedOf 2 = .ok (.invokevirtual 124, 3) := by decide +kernel
theorem dX5_owedOf_5 : decode cX5_owedOf 5 = .ok (.aload_n 0, 1) := by decide +kernel
theorem dX5_owedOf_6 : decode cX5_owedOf 6 = .ok (.iload_n 1, 1) := by decide +kernel
theorem dX5_owedOf_7 : decode cX5_owedOf 7 = .ok (.invokevirtual 127, 3) := by decide +kernel
theorem dX5_owedOf_10 : decode cX5_owedOf 10 = .ok (.isub, 1) := by decide +kernel
theorem dX5_owedOf_11 : decode cX5_owedOf 11 = .ok (.aload_n 0, 1) := by decide +kernel
theorem dX5_owedOf_12 : decode cX5_owedOf 12 = .ok (.iload_n 1, 1) := by decide +kernel
theorem dX5_owedOf_13 : decode cX5_owedOf 13 = .ok (.iconst (-1), 1) := by decide +kernel
theorem dX5_owedOf_14 : decode cX5_owedOf 14 = .ok (.invokevirtual 130, 3) := by decide +kernel
theorem dX5_owedOf_17 : decode cX5_owedOf 17 = .ok (.isub, 1) := by decide +kernel
theorem dX5_owedOf_18 : decode cX5_owedOf 18 = .ok (.aload_n 0, 1) := by decide +kernel
theorem dX5_owedOf_19 : decode cX5_owedOf 19 = .ok (.getfield 69, 3) := by decide +kernel
theorem dX5_owedOf_22 : decode cX5_owedOf 22 = .ok (.iload_n 1, 1) := by decide +kernel
theorem dX5_owedOf_23 : decode cX5_owedOf 23 = .ok (.iaload, 1) := by decide +kernel
theorem dX5_owedOf_24 : decode cX5_owedOf 24 = .ok (.isub, 1) := by decide +kernel
theorem dX5_owedOf_25 : decode cX5_owedOf 25 = .ok (.ireturn, 1) := by decide +kernel
set_option maxRecDepth 20000 in
theorem ggX5_take_X5_isStudent : GoodIn wsX5_take wsX5_isStudent := goodIn_r _ [7, 8, 9, 6, 10] (by decide +kernel) (by decide +kernel)
set_option maxRecDepth 20000 in
theorem gX5_take_X5_isStudent : GoodIn wsX5_take (va_wsS RX5 107 yX5_isStudent wsX5_isStudent) := goodIn_app (goodIn_of _ (by decide +kernel)) ggX5_take_X5_isStudent
set_option maxRecDepth 20000 in
theorem ggX5_take_X5_in : GoodIn wsX5_take wsX5_in := goodIn_r _ [10] (by decide +kernel) (by decide +kernel)
set_option maxRecDepth 20000 in
theorem gX5_take_X5_in : GoodIn wsX5_take (va_wsS RX5 90 yX5_in wsX5_in) := goodIn_app (goodIn_of _ (by decide +kernel)) ggX5_take_X5_in
set_option maxRecDepth 20000 in
theorem ggX5_take_X5_holds : GoodIn wsX5_take wsX5_holds := goodIn_r _ [14, 15, 16, 17, 18, 19, 20, 21, 22, 23, 24, 25, 26, 27, 28, 29, 30, 31, 32, 33, 34, 35, 36, 37, 38, 39, 40, 41, 42, 43, 44] (by decide +kernel) (by decide +kernel)
set_option maxRecDepth 20000 in
theorem gX5_take_X5_holds : GoodIn wsX5_take (wsV RX5 95 RX5 yX5_holds wsX5_holds) := goodIn_app (goodIn_of _ (by decide +kernel)) ggX5_take_X5_holds
theorem dX5_take_0 : decode cX5_take 0 = .ok (.aload_n 0, 1) := by decide +kernel
theorem dX5_take_1 : decode cX5_take 1 = .ok (.iload_n 1, 1) := by decide +kernel
theorem dX5_take_2 : decode cX5_take 2 = .ok (.invokestatic 107, 3) := by decide +kernel
theorem dX5_take_5 : decode cX5_take 5 = .ok (.ifCond .ne 7, 3) := by decide +kernel
theorem dX5_take_8 : decode cX5_take 8 = .ok (.iconst 1, 1) := by decide +kernel
theorem dX5_take_9 : decode cX5_take 9 = .ok (.goto 33, 3) := by decide +kernel
theorem dX5_take_12 : decode cX5_take 12 = .ok (.iload_n 2, 1) := by decide +kernel
theorem dX5_take_13 : decode cX5_take 13 = .ok (.iconst 1, 1) := by decide +kernel
theorem dX5_take_14 : decode cX5_take 14 = .ok (.bipush 10, 2) := by decide +kernel
theorem dX5_take_16 : decode cX5_take 16 = .ok (.invokestatic 90, 3) := by decide +kernel
theorem dX5_take_19 : decode cX5_take 19 = .ok (.ifCond .ne 7, 3) := by decide +kernel
theorem dX5_take_22 : decode cX5_take 22 = .ok (.iconst 2, 1) := by decide +kernel
theorem dX5_take_23 : decode cX5_take 23 = .ok (.goto 19, 3) := by decide +kernel
theorem dX5_take_26 : decode cX5_take 26 = .ok (.aload_n 0, 1) := by decide +kernel
theorem dX5_take_27 : decode cX5_take 27 = .ok (.getfield 42, 3) := by decide +kernel
theorem dX5_take_30 : decode cX5_take 30 = .ok (.iload_n 1, 1) := by decide +kernel
theorem dX5_take_31 : decode cX5_take 31 = .ok (.iaload, 1) := by decide +kernel
theorem dX5_take_32 : decode cX5_take 32 = .ok (.bipush 8, 2) := by decide +kernel
theorem dX5_take_34 : decode cX5_take 34 = .ok (.if_icmp .ne 7, 3) := by decide +kernel
theorem dX5_take_37 : decode cX5_take 37 = .ok (.iconst 3, 1) := by decide +kernel
theorem dX5_take_38 : decode cX5_take 38 = .ok (.goto 4, 3) := by decide +kernel
theorem dX5_take_41 : decode cX5_take 41 = .ok (.iconst 0, 1) := by decide +kernel
theorem dX5_take_42 : decode cX5_take 42 = .ok (.invokevirtual 95, 3) := by decide +kernel
theorem dX5_take_45 : decode cX5_take 45 = .ok (.ifCond .ne 5, 3) := by decide +kernel
theorem dX5_take_48 : decode cX5_take 48 = .ok (.iconst 0, 1) := by decide +kernel
theorem dX5_take_49 : decode cX5_take 49 = .ok (.ireturn, 1) := by decide +kernel
theorem dX5_take_50 : decode cX5_take 50 = .ok (.bipush 8, 2) := by decide +kernel
theorem dX5_take_52 : decode cX5_take 52 = .ok (.iload_n 1, 1) := by decide +kernel
theorem dX5_take_53 : decode cX5_take 53 = .ok (.imul, 1) := by decide +kernel
theorem dX5_take_54 : decode cX5_take 54 = .ok (.aload_n 0, 1) := by decide +kernel
theorem dX5_take_55 : decode cX5_take 55 = .ok (.getfield 42, 3) := by decide +kernel
theorem dX5_take_58 : decode cX5_take 58 = .ok (.iload_n 1, 1) := by decide +kernel
theorem dX5_take_59 : decode cX5_take 59 = .ok (.iaload, 1) := by decide +kernel
theorem dX5_take_60 : decode cX5_take 60 = .ok (.iadd, 1) := by decide +kernel
theorem dX5_take_61 : decode cX5_take 61 = .ok (.istore_n 3, 1) := by decide +kernel
theorem dX5_take_62 : decode cX5_take 62 = .ok (.aload_n 0, 1) := by decide +kernel
theorem dX5_take_63 : decode cX5_take 63 = .ok (.getfield 45, 3) := by decide +kernel
theorem dX5_take_66 : decode cX5_take 66 = .ok (.iload_n 3, 1) := by decide +kernel
theorem dX5_take_67 : decode cX5_take 67 = .ok (.iload_n 2, 1) := by decide +kernel
theorem dX5_take_68 : decode cX5_take 68 = .ok (.iastore, 1) := by decide +kernel
theorem dX5_take_69 : decode cX5_take 69 = .ok (.aload_n 0, 1) := by decide +kernel
theorem dX5_take_70 : decode cX5_take 70 = .ok (.getfield 48, 3) := by decide +kernel
theorem dX5_take_73 : decode cX5_take 73 = .ok (.iload_n 3, 1) := by decide +kernel
theorem dX5_take_74 : decode cX5_take 74 = .ok (.iconst 0, 1) := by decide +kernel
theorem dX5_take_75 : decode cX5_take 75 = .ok (.bastore, 1) := by decide +kernel
theorem dX5_take_76 : decode cX5_take 76 = .ok (.aload_n 0, 1) := by decide +kernel
theorem dX5_take_77 : decode cX5_take 77 = .ok (.getfield 42, 3) := by decide +kernel
theorem dX5_take_80 : decode cX5_take 80 = .ok (.iload_n 1, 1) := by decide +kernel
theorem dX5_take_81 : decode cX5_take 81 = .ok (.dup2, 1) := by decide +kernel
theorem dX5_take_82 : decode cX5_take 82 = .ok (.iaload, 1) := by decide +kernel
theorem dX5_take_83 : decode cX5_take 83 = .ok (.iconst 1, 1) := by decide +kernel
theorem dX5_take_84 : decode cX5_take 84 = .ok (.iadd, 1) := by decide +kernel
theorem dX5_take_85 : decode cX5_take 85 = .ok (.iastore, 1) := by decide +kernel
theorem dX5_take_86 : decode cX5_take 86 = .ok (.aload_n 0, 1) := by decide +kernel
theorem dX5_take_87 : decode cX5_take 87 = .ok (.getfield 42, 3) := by decide +kernel
theorem dX5_take_90 : decode cX5_take 90 = .ok (.iload_n 1, 1) := by decide +kernel
theorem dX5_take_91 : decode cX5_take 91 = .ok (.iaload, 1) := by decide +kernel
theorem dX5_take_92 : decode cX5_take 92 = .ok (.iconst 1, 1) := by decide +kernel
theorem dX5_take_93 : decode cX5_take 93 = .ok (.isub, 1) := by decide +kernel
theorem dX5_take_94 : decode cX5_take 94 = .ok (.ireturn, 1) := by decide +kernel
set_option maxRecDepth 20000 in
theorem ggX5_drops_X5_creditsOf : GoodIn wsX5_drops wsX5_creditsOf := goodIn_r _ [10, 11, 1, 12, 25, 26, 27, 28, 29, 30, 31, 32, 33, 34, 35, 36, 37, 38, 39, 40, 41, 42, 43, 44, 45, 46, 47, 48, 49, 50, 51, 52, 53] (by decide +kernel) (by decide +kernel)
set_option maxRecDepth 20000 in
theorem gX5_drops_X5_creditsOf : GoodIn wsX5_drops (wsV RX5 110 RX5 yX5_creditsOf wsX5_creditsOf) := goodIn_app (goodIn_of _ (by decide +kernel)) ggX5_drops_X5_creditsOf
set_option maxRecDepth 20000 in
theorem ggX5_drops_X5_price : GoodIn wsX5_drops wsX5_price := goodIn_r _ [16, 17, 18, 19, 20, 21, 22, 23, 9, 24, 25, 26, 27, 28, 29, 30, 31, 32, 33, 34, 35, 36, 37, 38, 39, 40, 41, 42, 43, 44, 45, 46, 47, 48, 49, 50, 51, 52, 53] (by decide +kernel) (by decide +kernel)
set_option maxRecDepth 20000 in
theorem gX5_drops_X5_price : GoodIn wsX5_drops (wsV RX5 114 RX5 yX5_price wsX5_price) := goodIn_app (goodIn_of _ (by decide +kernel)) ggX5_drops_X5_price
theorem dX5_drops_0 : decode cX5_drops 0 = .ok (.aload_n 0, 1) := by decide +kernel
theorem dX5_drops_1 : decode cX5_drops 1 = .ok (.iload_n 1, 1) := by decide +kernel
theorem dX5_drops_2 : decode cX5_drops 2 = .ok (.aload_n 0, 1) := by decide +kernel
theorem dX5_drops_3 : decode cX5_drops 3 = .ok (.iload_n 1, 1) := by decide +kernel
theorem dX5_drops_4 : decode cX5_drops 4 = .ok (.invokevirtual 110, 3) := by decide +kernel
theorem dX5_drops_7 : decode cX5_drops 7 = .ok (.invokevirtual 114, 3) := by decide +kernel
theorem dX5_drops_10 : decode cX5_drops 10 = .ok (.istore_n 3, 1) := by decide +kernel
theorem dX5_drops_11 : decode cX5_drops 11 = .ok (.aload_n 0, 1) := by decide +kernel
theorem dX5_drops_12 : decode cX5_drops 12 = .ok (.getfield 48, 3) := by decide +kernel
theorem dX5_drops_15 : decode cX5_drops 15 = .ok (.bipush 8, 2) := by decide +kernel
theorem dX5_drops_17 : decode cX5_drops 17 = .ok (.iload_n 1, 1) := by decide +kernel
theorem dX5_drops_18 : decode cX5_drops 18 = .ok (.imul, 1) := by decide +kernel
theorem dX5_drops_19 : decode cX5_drops 19 = .ok (.iload_n 2, 1) := by decide +kernel
theorem dX5_drops_20 : decode cX5_drops 20 = .ok (.iadd, 1) := by decide +kernel
theorem dX5_drops_21 : decode cX5_drops 21 = .ok (.iconst 1, 1) := by decide +kernel
theorem dX5_drops_22 : decode cX5_drops 22 = .ok (.bastore, 1) := by decide +kernel
theorem dX5_drops_23 : decode cX5_drops 23 = .ok (.iload_n 3, 1) := by decide +kernel
theorem dX5_drops_24 : decode cX5_drops 24 = .ok (.aload_n 0, 1) := by decide +kernel
theorem dX5_drops_25 : decode cX5_drops 25 = .ok (.iload_n 1, 1) := by decide +kernel
theorem dX5_drops_26 : decode cX5_drops 26 = .ok (.aload_n 0, 1) := by decide +kernel
theorem dX5_drops_27 : decode cX5_drops 27 = .ok (.iload_n 1, 1) := by decide +kernel
theorem dX5_drops_28 : decode cX5_drops 28 = .ok (.invokevirtual 110, 3) := by decide +kernel
theorem dX5_drops_31 : decode cX5_drops 31 = .ok (.invokevirtual 114, 3) := by decide +kernel
theorem dX5_drops_34 : decode cX5_drops 34 = .ok (.isub, 1) := by decide +kernel
theorem dX5_drops_35 : decode cX5_drops 35 = .ok (.i2l, 1) := by decide +kernel
theorem dX5_drops_36 : decode cX5_drops 36 = .ok (.aload_n 0, 1) := by decide +kernel
theorem dX5_drops_37 : decode cX5_drops 37 = .ok (.getfield 20, 3) := by decide +kernel
theorem dX5_drops_40 : decode cX5_drops 40 = .ok (.aload_n 0, 1) := by decide +kernel
theorem dX5_drops_41 : decode cX5_drops 41 = .ok (.getfield 133, 3) := by decide +kernel
theorem dX5_drops_44 : decode cX5_drops 44 = .ok (.iaload, 1) := by decide +kernel
theorem dX5_drops_45 : decode cX5_drops 45 = .ok (.i2l, 1) := by decide +kernel
theorem dX5_drops_46 : decode cX5_drops 46 = .ok (.lmul, 1) := by decide +kernel
theorem dX5_drops_47 : decode cX5_drops 47 = .ok (.ldc2_w 136, 3) := by decide +kernel
theorem dX5_drops_50 : decode cX5_drops 50 = .ok (.ldiv, 1) := by decide +kernel
theorem dX5_drops_51 : decode cX5_drops 51 = .ok (.l2i, 1) := by decide +kernel
theorem dX5_drops_52 : decode cX5_drops 52 = .ok (.istore 4, 2) := by decide +kernel
theorem dX5_drops_54 : decode cX5_drops 54 = .ok (.aload_n 0, 1) := by decide +kernel
theorem dX5_drops_55 : decode cX5_drops 55 = .ok (.getfield 51, 3) := by decide +kernel
theorem dX5_drops_58 : decode cX5_drops 58 = .ok (.iload_n 1, 1) := by decide +kernel
theorem dX5_drops_59 : decode cX5_drops 59 = .ok (.dup2, 1) := by decide +kernel
theorem dX5_drops_60 : decode cX5_drops 60 = .ok (.iaload, 1) := by decide +kernel
theorem dX5_drops_61 : decode cX5_drops 61 = .ok (.iload 4, 2) := by decide +kernel
theorem dX5_drops_63 : decode cX5_drops 63 = .ok (.iadd, 1) := by decide +kernel
theorem dX5_drops_64 : decode cX5_drops 64 = .ok (.iastore, 1) := by decide +kernel
theorem dX5_drops_65 : decode cX5_drops 65 = .ok (.iload 4, 2) := by decide +kernel
theorem dX5_drops_67 : decode cX5_drops 67 = .ok (.ireturn, 1) := by decide +kernel
set_option maxRecDepth 20000 in
theorem ggX5_drop_X5_isStudent : GoodIn wsX5_drop wsX5_isStudent := goodIn_r _ [6, 7, 8, 5, 9] (by decide +kernel) (by decide +kernel)
set_option maxRecDepth 20000 in
theorem gX5_drop_X5_isStudent : GoodIn wsX5_drop (va_wsS RX5 107 yX5_isStudent wsX5_isStudent) := goodIn_app (goodIn_of _ (by decide +kernel)) ggX5_drop_X5_isStudent
set_option maxRecDepth 20000 in
theorem ggX5_drop_X5_in : GoodIn wsX5_drop wsX5_in := goodIn_r _ [9] (by decide +kernel) (by decide +kernel)
set_option maxRecDepth 20000 in
theorem gX5_drop_X5_in : GoodIn wsX5_drop (va_wsS RX5 90 yX5_in wsX5_in) := goodIn_app (goodIn_of _ (by decide +kernel)) ggX5_drop_X5_in
set_option maxRecDepth 20000 in
theorem ggX5_drop_X5_holds : GoodIn wsX5_drop wsX5_holds := goodIn_r _ [13, 14, 40, 41, 42, 43, 44, 45, 46, 47, 48, 49, 50, 51, 52, 53, 54, 55, 56, 57, 58, 59, 60, 61, 62, 63, 64, 65, 66, 67, 68] (by decide +kernel) (by decide +kernel)
set_option maxRecDepth 20000 in
theorem gX5_drop_X5_holds : GoodIn wsX5_drop (wsV RX5 95 RX5 yX5_holds wsX5_holds) := goodIn_app (goodIn_of _ (by decide +kernel)) ggX5_drop_X5_holds
set_option maxRecDepth 20000 in
theorem ggX5_drop_X5_drops : GoodIn wsX5_drop wsX5_drops := goodIn_r _ [18, 2, 19, 20, 21, 22, 23, 24, 25, 5, 26, 1, 27, 28, 29, 30, 31, 32, 33, 34, 35, 36, 37, 38, 39, 40, 41, 42, 43, 44, 45, 46, 47, 48, 49, 50, 51, 52, 53, 54, 55, 56, 57, 58, 59, 60, 61, 62, 63, 64, 65, 66, 67, 68] (by decide +kernel) (by decide +kernel)
set_option maxRecDepth 20000 in
theorem gX5_drop_X5_drops : GoodIn wsX5_drop (wsV RX5 138 RX5 yX5_drops wsX5_drops) := goodIn_app (goodIn_of _ (by decide +kernel)) ggX5_drop_X5_drops
theorem dX5_drop_0 : decode cX5_drop 0 = .ok (.iload_n 1, 1) := by decide +kernel
theorem dX5_drop_1 : decode cX5_drop 1 = .ok (.invokestatic 107, 3) := by decide +kernel
theorem dX5_drop_4 : decode cX5_drop 4 = .ok (.ifCond .eq 23, 3) := by decide +kernel
theorem dX5_drop_7 : decode cX5_drop 7 = .ok (.iload_n 2, 1) := by decide +kernel
theorem dX5_drop_8 : decode cX5_drop 8 = .ok (.iconst 0, 1) := by decide +kernel
theorem dX5_drop_9 : decode cX5_drop 9 = .ok (.aload_n 0, 1) := by decide +kernel
theorem dX5_drop_10 : decode cX5_drop 10 = .ok (.getfield 42, 3) := by decide +kernel
theorem dX5_drop_13 : decode cX5_drop 13 = .ok (.iload_n 1, 1) := by decide +kernel
theorem dX5_drop_14 : decode cX5_drop 14 = .ok (.iaload, 1) := by decide +kernel
theorem dX5_drop_15 : decode cX5_drop 15 = .ok (.iconst 1, 1) := by decide +kernel
theorem dX5_drop_16 : decode cX5_drop 16 = .ok (.isub, 1) := by decide +kernel
theorem dX5_drop_17 : decode cX5_drop 17 = .ok (.invokestatic 90, 3) := by decide +kernel
theorem dX5_drop_20 : decode cX5_drop 20 = .ok (.ifCond .eq 7, 3) := by decide +kernel
theorem dX5_drop_23 : decode cX5_drop 23 = .ok (.iconst 1, 1) := by decide +kernel
theorem dX5_drop_24 : decode cX5_drop 24 = .ok (.goto 4, 3) := by decide +kernel
theorem dX5_drop_27 : decode cX5_drop 27 = .ok (.iconst 0, 1) := by decide +kernel
theorem dX5_drop_28 : decode cX5_drop 28 = .ok (.istore_n 3, 1) := by decide +kernel
theorem dX5_drop_29 : decode cX5_drop 29 = .ok (.aload_n 0, 1) := by decide +kernel
theorem dX5_drop_30 : decode cX5_drop 30 = .ok (.iload_n 3, 1) := by decide +kernel
theorem dX5_drop_31 : decode cX5_drop 31 = .ok (.ifCond .ne 7, 3) := by decide +kernel
theorem dX5_drop_34 : decode cX5_drop 34 = .ok (.iconst 1, 1) := by decide +kernel
theorem dX5_drop_35 : decode cX5_drop 35 = .ok (.goto 22, 3) := by decide +kernel
theorem dX5_drop_38 : decode cX5_drop 38 = .ok (.aload_n 0, 1) := by decide +kernel
theorem dX5_drop_39 : decode cX5_drop 39 = .ok (.getfield 48, 3) := by decide +kernel
theorem dX5_drop_42 : decode cX5_drop 42 = .ok (.bipush 8, 2) := by decide +kernel
theorem dX5_drop_44 : decode cX5_drop 44 = .ok (.iload_n 1, 1) := by decide +kernel
theorem dX5_drop_45 : decode cX5_drop 45 = .ok (.imul, 1) := by decide +kernel
theorem dX5_drop_46 : decode cX5_drop 46 = .ok (.iload_n 2, 1) := by decide +kernel
theorem dX5_drop_47 : decode cX5_drop 47 = .ok (.iadd, 1) := by decide +kernel
theorem dX5_drop_48 : decode cX5_drop 48 = .ok (.baload, 1) := by decide +kernel
theorem dX5_drop_49 : decode cX5_drop 49 = .ok (.ifCond .eq 7, 3) := by decide +kernel
theorem dX5_drop_52 : decode cX5_drop 52 = .ok (.iconst 2, 1) := by decide +kernel
theorem dX5_drop_53 : decode cX5_drop 53 = .ok (.goto 4, 3) := by decide +kernel
theorem dX5_drop_56 : decode cX5_drop 56 = .ok (.iconst 0, 1) := by decide +kernel
theorem dX5_drop_57 : decode cX5_drop 57 = .ok (.invokevirtual 95, 3) := by decide +kernel
theorem dX5_drop_60 : decode cX5_drop 60 = .ok (.ifCond .ne 5, 3) := by decide +kernel
theorem dX5_drop_63 : decode cX5_drop 63 = .ok (.iconst 0, 1) := by decide +kernel
theorem dX5_drop_64 : decode cX5_drop 64 = .ok (.ireturn, 1) := by decide +kernel
theorem dX5_drop_65 : decode cX5_drop 65 = .ok (.aload_n 0, 1) := by decide +kernel
theorem dX5_drop_66 : decode cX5_drop 66 = .ok (.iload_n 1, 1) := by decide +kernel
theorem dX5_drop_67 : decode cX5_drop 67 = .ok (.iload_n 2, 1) := by decide +kernel
theorem dX5_drop_68 : decode cX5_drop 68 = .ok (.invokevirtual 138, 3) := by decide +kernel
theorem dX5_drop_71 : decode cX5_drop 71 = .ok (.ireturn, 1) := by decide +kernel
set_option maxRecDepth 20000 in
theorem ggX5_charge_X5_isStudent : GoodIn wsX5_charge wsX5_isStudent := goodIn_r _ [7, 8, 9, 6, 10] (by decide +kernel) (by decide +kernel)
set_option maxRecDepth 20000 in
theorem gX5_charge_X5_isStudent : GoodIn wsX5_charge (va_wsS RX5 107 yX5_isStudent wsX5_isStudent) := goodIn_app (goodIn_of _ (by decide +kernel)) ggX5_charge_X5_isStudent
set_option maxRecDepth 20000 in
theorem ggX5_charge_X5_in : GoodIn wsX5_charge wsX5_in := goodIn_r _ [10] (by decide +kernel) (by decide +kernel)
set_option maxRecDepth 20000 in
theorem gX5_charge_X5_in : GoodIn wsX5_charge (va_wsS RX5 90 yX5_in wsX5_in) := goodIn_app (goodIn_of _ (by decide +kernel)) ggX5_charge_X5_in
set_option maxRecDepth 20000 in
theorem ggX5_charge_X5_holds : GoodIn wsX5_charge wsX5_holds := goodIn_r _ [14, 15, 40, 41, 42, 43, 44, 45, 46, 47, 48, 49, 50, 51, 52, 53, 54, 55, 56, 57, 58, 59, 60, 61, 62, 63, 64, 65, 66, 67, 68] (by decide +kernel) (by decide +kernel)
set_option maxRecDepth 20000 in
theorem gX5_charge_X5_holds : GoodIn wsX5_charge (wsV RX5 95 RX5 yX5_holds wsX5_holds) := goodIn_app (goodIn_of _ (by decide +kernel)) ggX5_charge_X5_holds
set_option maxRecDepth 20000 in
theorem ggX5_charge_X5_chargedOf : GoodIn wsX5_charge wsX5_chargedOf := goodIn_r _ [19, 20, 2, 3, 21, 22, 23, 6, 24, 25, 26, 27, 28, 29, 30, 31, 32, 33, 34, 35, 36, 37, 38, 39, 40, 41, 42, 43, 44, 45, 46, 47, 48, 49, 50, 51, 52, 53, 54, 55, 56, 57, 58, 59, 60, 61, 62, 63, 64, 65, 66, 67, 68] (by decide +kernel) (by decide +kernel)
set_option maxRecDepth 20000 in
theorem gX5_charge_X5_chargedOf : GoodIn wsX5_charge (wsV RX5 118 RX5 yX5_chargedOf wsX5_chargedOf) := goodIn_app (goodIn_of _ (by decide +kernel)) ggX5_charge_X5_chargedOf
theorem dX5_charge_0 : decode cX5_charge 0 = .ok (.aload_n 0, 1) := by decide +kernel
theorem dX5_charge_1 : decode cX5_charge 1 = .ok (.iload_n 1, 1) := by decide +kernel
theorem dX5_charge_2 : decode cX5_charge 2 = .ok (.invokestatic 107, 3) := by decide +kernel
theorem dX5_charge_5 : decode cX5_charge 5 = .ok (.ifCond .ne 7, 3) := by decide +kernel
theorem dX5_charge_8 : decode cX5_charge 8 = .ok (.iconst 1, 1) := by decide +kernel
theorem dX5_charge_9 : decode cX5_charge 9 = .ok (.goto 27, 3) := by decide +kernel
theorem dX5_charge_12 : decode cX5_charge 12 = .ok (.iload_n 2, 1) := by decide +kernel
theorem dX5_charge_13 : decode cX5_charge 13 = .ok (.iconst 1, 1) := by decide +kernel
theorem dX5_charge_14 : decode cX5_charge 14 = .ok (.iconst 2, 1) := by decide +kernel
theorem dX5_charge_15 : decode cX5_charge 15 = .ok (.invokestatic 90, 3) := by decide +kernel
theorem dX5_charge_18 : decode cX5_charge 18 = .ok (.ifCond .eq 17, 3) := by decide +kernel
theorem dX5_charge_21 : decode cX5_charge 21 = .ok (.iload_n 3, 1) := by decide +kernel
theorem dX5_charge_22 : decode cX5_charge 22 = .ok (.iconst 1, 1) := by decide +kernel
theorem dX5_charge_23 : decode cX5_charge 23 = .ok (.ldc 103, 2) := by decide +kernel
theorem dX5_charge_25 : decode cX5_charge 25 = .ok (.invokestatic 90, 3) := by decide +kernel
theorem dX5_charge_28 : decode cX5_charge 28 = .ok (.ifCond .eq 7, 3) := by decide +kernel
theorem dX5_charge_31 : decode cX5_charge 31 = .ok (.iconst 0, 1) := by decide +kernel
theorem dX5_charge_32 : decode cX5_charge 32 = .ok (.goto 4, 3) := by decide +kernel
theorem dX5_charge_35 : decode cX5_charge 35 = .ok (.iconst 2, 1) := by decide +kernel
theorem dX5_charge_36 : decode cX5_charge 36 = .ok (.invokevirtual 95, 3) := by decide +kernel
theorem dX5_charge_39 : decode cX5_charge 39 = .ok (.ifCond .ne 5, 3) := by decide +kernel
theorem dX5_charge_42 : decode cX5_charge 42 = .ok (.iconst 0, 1) := by decide +kernel
theorem dX5_charge_43 : decode cX5_charge 43 = .ok (.ireturn, 1) := by decide +kernel
theorem dX5_charge_44 : decode cX5_charge 44 = .ok (.aload_n 0, 1) := by decide +kernel
theorem dX5_charge_45 : decode cX5_charge 45 = .ok (.getfield 54, 3) := by decide +kernel
theorem dX5_charge_48 : decode cX5_charge 48 = .ok (.iload_n 1, 1) := by decide +kernel
theorem dX5_charge_49 : decode cX5_charge 49 = .ok (.dup2, 1) := by decide +kernel
theorem dX5_charge_50 : decode cX5_charge 50 = .ok (.iaload, 1) := by decide +kernel
theorem dX5_charge_51 : decode cX5_charge 51 = .ok (.iload_n 2, 1) := by decide +kernel
theorem dX5_charge_52 : decode cX5_charge 52 = .ok (.iconst 1, 1) := by decide +kernel
theorem dX5_charge_53 : decode cX5_charge 53 = .ok (.if_icmp .ne 7, 3) := by decide +kernel
theorem dX5_charge_56 : decode cX5_charge 56 = .ok (.iload_n 3, 1) := by decide +kernel
theorem dX5_charge_57 : decode cX5_charge 57 = .ok (.goto 4, 3) := by decide +kernel
theorem dX5_charge_60 : decode cX5_charge 60 = .ok (.iconst 0, 1) := by decide +kernel
theorem dX5_charge_61 : decode cX5_charge 61 = .ok (.iadd, 1) := by decide +kernel
theorem dX5_charge_62 : decode cX5_charge 62 = .ok (.iastore, 1) := by decide +kernel
theorem dX5_charge_63 : decode cX5_charge 63 = .ok (.aload_n 0, 1) := by decide +kernel
theorem dX5_charge_64 : decode cX5_charge 64 = .ok (.getfield 57, 3) := by decide +kernel
theorem dX5_charge_67 : decode cX5_charge 67 = .ok (.iload_n 1, 1) := by decide +kernel
theorem dX5_charge_68 : decode cX5_charge 68 = .ok (.dup2, 1) := by decide +kernel
theorem dX5_charge_69 : decode cX5_charge 69 = .ok (.iaload, 1) := by decide +kernel
theorem dX5_charge_70 : decode cX5_charge 70 = .ok (.iload_n 2, 1) := by decide +kernel
theorem dX5_charge_71 : decode cX5_charge 71 = .ok (.iconst 2, 1) := by decide +kernel
theorem dX5_charge_72 : decode cX5_charge 72 = .ok (.if_icmp .ne 7, 3) := by decide +kernel
theorem dX5_charge_75 : decode cX5_charge 75 = .ok (.iload_n 3, 1) := by decide +kernel
theorem dX5_charge_76 : decode cX5_charge 76 = .ok (.goto 4, 3) := by decide +kernel
theorem dX5_charge_79 : decode cX5_charge 79 = .ok (.iconst 0, 1) := by decide +kernel
theorem dX5_charge_80 : decode cX5_charge 80 = .ok (.iadd, 1) := by decide +kernel
theorem dX5_charge_81 : decode cX5_charge 81 = .ok (.iastore, 1) := by decide +kernel
theorem dX5_charge_82 : decode cX5_charge 82 = .ok (.aload_n 0, 1) := by decide +kernel
theorem dX5_charge_83 : decode cX5_charge 83 = .ok (.iload_n 1, 1) := by decide +kernel
theorem dX5_charge_84 : decode cX5_charge 84 = .ok (.iload_n 2, 1) := by decide +kernel
theorem dX5_charge_85 : decode cX5_charge 85 = .ok (.invokevirtual 118, 3) := by decide +kernel
theorem dX5_charge_88 : decode cX5_charge 88 = .ok (.ireturn, 1) := by decide +kernel
set_option maxRecDepth 20000 in
theorem ggX5_award_X5_in : GoodIn wsX5_award wsX5_in := goodIn_r _ [8] (by decide +kernel) (by decide +kernel)
set_option maxRecDepth 20000 in
theorem gX5_award_X5_in : GoodIn wsX5_award (va_wsS RX5 90 yX5_in wsX5_in) := goodIn_app (goodIn_of _ (by decide +kernel)) ggX5_award_X5_in
set_option maxRecDepth 20000 in
theorem ggX5_award_X5_isStudent : GoodIn wsX5_award wsX5_isStudent := goodIn_r _ [11, 5, 6, 7, 8] (by decide +kernel) (by decide +kernel)
set_option maxRecDepth 20000 in
theorem gX5_award_X5_isStudent : GoodIn wsX5_award (va_wsS RX5 107 yX5_isStudent wsX5_isStudent) := goodIn_app (goodIn_of _ (by decide +kernel)) ggX5_award_X5_isStudent
set_option maxRecDepth 20000 in
theorem ggX5_award_X5_holds : GoodIn wsX5_award wsX5_holds := goodIn_r _ [15, 16, 17, 18, 19, 20, 21, 22, 23, 24, 25, 26, 27, 28, 29, 30, 31, 32, 33, 34, 35, 36, 37, 38, 39, 40, 41, 42, 43, 44, 45] (by decide +kernel) (by decide +kernel)
set_option maxRecDepth 20000 in
theorem gX5_award_X5_holds : GoodIn wsX5_award (wsV RX5 95 RX5 yX5_holds wsX5_holds) := goodIn_app (goodIn_of _ (by decide +kernel)) ggX5_award_X5_holds
theorem dX5_award_0 : decode cX5_award 0 = .ok (.iload_n 2, 1) := by decide +kernel
theorem dX5_award_1 : decode cX5_award 1 = .ok (.iconst 0, 1) := by decide +kernel
theorem dX5_award_2 : decode cX5_award 2 = .ok (.iconst 2, 1) := by decide +kernel
theorem dX5_award_3 : decode cX5_award 3 = .ok (.invokestatic 90, 3) := by decide +kernel
theorem dX5_award_6 : decode cX5_award 6 = .ok (.ifCond .eq 17, 3) := by decide +kernel
theorem dX5_award_9 : decode cX5_award 9 = .ok (.iload_n 3, 1) := by decide +kernel
theorem dX5_award_10 : decode cX5_award 10 = .ok (.iconst 1, 1) := by decide +kernel
theorem dX5_award_11 : decode cX5_award 11 = .ok (.ldc 103, 2) := by decide +kernel
theorem dX5_award_13 : decode cX5_award 13 = .ok (.invokestatic 90, 3) := by decide +kernel
theorem dX5_award_16 : decode cX5_award 16 = .ok (.ifCond .eq 7, 3) := by decide +kernel
theorem dX5_award_19 : decode cX5_award 19 = .ok (.iconst 1, 1) := by decide +kernel
theorem dX5_award_20 : decode cX5_award 20 = .ok (.goto 4, 3) := by decide +kernel
theorem dX5_award_23 : decode cX5_award 23 = .ok (.iconst 0, 1) := by decide +kernel
theorem dX5_award_24 : decode cX5_award 24 = .ok (.istore 4, 2) := by decide +kernel
theorem dX5_award_26 : decode cX5_award 26 = .ok (.aload_n 0, 1) := by decide +kernel
theorem dX5_award_27 : decode cX5_award 27 = .ok (.iload_n 1, 1) := by decide +kernel
theorem dX5_award_28 : decode cX5_award 28 = .ok (.invokestatic 107, 3) := by decide +kernel
theorem dX5_award_31 : decode cX5_award 31 = .ok (.ifCond .ne 7, 3) := by decide +kernel
theorem dX5_award_34 : decode cX5_award 34 = .ok (.iconst 1, 1) := by decide +kernel
theorem dX5_award_35 : decode cX5_award 35 = .ok (.goto 28, 3) := by decide +kernel
theorem dX5_award_38 : decode cX5_award 38 = .ok (.iload 4, 2) := by decide +kernel
theorem dX5_award_40 : decode cX5_award 40 = .ok (.ifCond .ne 7, 3) := by decide +kernel
theorem dX5_award_43 : decode cX5_award 43 = .ok (.iconst 2, 1) := by decide +kernel
theorem dX5_award_44 : decode cX5_award 44 = .ok (.goto 19, 3) := by decide +kernel
theorem dX5_award_47 : decode cX5_award 47 = .ok (.aload_n 0, 1) := by decide +kernel
theorem dX5_award_48 : decode cX5_award 48 = .ok (.getfield 60, 3) := by decide +kernel
theorem dX5_award_51 : decode cX5_award 51 = .ok (.iload_n 1, 1) := by decide +kernel
theorem dX5_award_52 : decode cX5_award 52 = .ok (.iaload, 1) := by decide +kernel
theorem dX5_award_53 : decode cX5_award 53 = .ok (.bipush 6, 2) := by decide +kernel
theorem dX5_award_55 : decode cX5_award 55 = .ok (.if_icmp .ne 7, 3) := by decide +kernel
theorem dX5_award_58 : decode cX5_award 58 = .ok (.iconst 3, 1) := by decide +kernel
theorem dX5_award_59 : decode cX5_award 59 = .ok (.goto 4, 3) := by decide +kernel
theorem dX5_award_62 : decode cX5_award 62 = .ok (.iconst 0, 1) := by decide +kernel
theorem dX5_award_63 : decode cX5_award 63 = .ok (.invokevirtual 95, 3) := by decide +kernel
theorem dX5_award_66 : decode cX5_award 66 = .ok (.ifCond .ne 5, 3) := by decide +kernel
theorem dX5_award_69 : decode cX5_award 69 = .ok (.iconst 0, 1) := by decide +kernel
theorem dX5_award_70 : decode cX5_award 70 = .ok (.ireturn, 1) := by decide +kernel
theorem dX5_award_71 : decode cX5_award 71 = .ok (.aload_n 0, 1) := by decide +kernel
theorem dX5_award_72 : decode cX5_award 72 = .ok (.getfield 63, 3) := by decide +kernel
theorem dX5_award_75 : decode cX5_award 75 = .ok (.bipush 6, 2) := by decide +kernel
theorem dX5_award_77 : decode cX5_award 77 = .ok (.iload_n 1, 1) := by decide +kernel
theorem dX5_award_78 : decode cX5_award 78 = .ok (.imul, 1) := by decide +kernel
theorem dX5_award_79 : decode cX5_award 79 = .ok (.aload_n 0, 1) := by decide +kernel
theorem dX5_award_80 : decode cX5_award 80 = .ok (.getfield 60, 3) := by decide +kernel
theorem dX5_award_83 : decode cX5_award 83 = .ok (.iload_n 1, 1) := by decide +kernel
theorem dX5_award_84 : decode cX5_award 84 = .ok (.iaload, 1) := by decide +kernel
theorem dX5_award_85 : decode cX5_award 85 = .ok (.iadd, 1) := by decide +kernel
theorem dX5_award_86 : decode cX5_award 86 = .ok (.iload_n 2, 1) := by decide +kernel
theorem dX5_award_87 : decode cX5_award 87 = .ok (.iastore, 1) := by decide +kernel
theorem dX5_award_88 : decode cX5_award 88 = .ok (.aload_n 0, 1) := by decide +kernel
theorem dX5_award_89 : decode cX5_award 89 = .ok (.getfield 66, 3) := by decide +kernel
theorem dX5_award_92 : decode cX5_award 92 = .ok (.bipush 6, 2) := by decide +kernel
theorem dX5_award_94 : decode cX5_award 94 = .ok (.iload_n 1, 1) := by decide +kernel
theorem dX5_award_95 : decode cX5_award 95 = .ok (.imul, 1) := by decide +kernel
theorem dX5_award_96 : decode cX5_award 96 = .ok (.aload_n 0, 1) := by decide +kernel
theorem dX5_award_97 : decode cX5_award 97 = .ok (.getfield 60, 3) := by decide +kernel
theorem dX5_award_100 : decode cX5_award 100 = .ok (.iload_n 1, 1) := by decide +kernel
theorem dX5_award_101 : decode cX5_award 101 = .ok (.iaload, 1) := by decide +kernel
theorem dX5_award_102 : decode cX5_award 102 = .ok (.iadd, 1) := by decide +kernel
theorem dX5_award_103 : decode cX5_award 103 = .ok (.iload_n 3, 1) := by decide +kernel
theorem dX5_award_104 : decode cX5_award 104 = .ok (.iastore, 1) := by decide +kernel
theorem dX5_award_105 : decode cX5_award 105 = .ok (.aload_n 0, 1) := by decide +kernel
theorem dX5_award_106 : decode cX5_award 106 = .ok (.getfield 60, 3) := by decide +kernel
theorem dX5_award_109 : decode cX5_award 109 = .ok (.iload_n 1, 1) := by decide +kernel
theorem dX5_award_110 : decode cX5_award 110 = .ok (.dup2, 1) := by decide +kernel
theorem dX5_award_111 : decode cX5_award 111 = .ok (.iaload, 1) := by decide +kernel
theorem dX5_award_112 : decode cX5_award 112 = .ok (.iconst 1, 1) := by decide +kernel
theorem dX5_award_113 : decode cX5_award 113 = .ok (.iadd, 1) := by decide +kernel
theorem dX5_award_114 : decode cX5_award 114 = .ok (.iastore, 1) := by decide +kernel
theorem dX5_award_115 : decode cX5_award 115 = .ok (.aload_n 0, 1) := by decide +kernel
theorem dX5_award_116 : decode cX5_award 116 = .ok (.getfield 60, 3) := by decide +kernel
theorem dX5_award_119 : decode cX5_award 119 = .ok (.iload_n 1, 1) := by decide +kernel
theorem dX5_award_120 : decode cX5_award 120 = .ok (.iaload, 1) := by decide +kernel
theorem dX5_award_121 : decode cX5_award 121 = .ok (.iconst 1, 1) := by decide +kernel
theorem dX5_award_122 : decode cX5_award 122 = .ok (.isub, 1) := by decide +kernel
theorem dX5_award_123 : decode cX5_award 123 = .ok (.ireturn, 1) := by decide +kernel
set_option maxRecDepth 20000 in
theorem ggX5_pay_X5_isStudent : GoodIn wsX5_pay wsX5_isStudent := goodIn_r _ [7, 8, 9, 6, 10] (by decide +kernel) (by decide +kernel)
set_option maxRecDepth 20000 in
theorem gX5_pay_X5_isStudent : GoodIn wsX5_pay (va_wsS RX5 107 yX5_isStudent wsX5_isStudent) := goodIn_app (goodIn_of _ (by decide +kernel)) ggX5_pay_X5_isStudent
set_option maxRecDepth 20000 in
theorem ggX5_pay_X5_in : GoodIn wsX5_pay wsX5_in := goodIn_r _ [10] (by decide +kernel) (by decide +kernel)
set_option maxRecDepth 20000 in
theorem gX5_pay_X5_in : GoodIn wsX5_pay (va_wsS RX5 90 yX5_in wsX5_in) := goodIn_app (goodIn_of _ (by decide +kernel)) ggX5_pay_X5_in
set_option maxRecDepth 20000 in
theorem ggX5_pay_X5_holds : GoodIn wsX5_pay wsX5_holds := goodIn_r _ [14, 15, 67, 68, 69, 70, 71, 72, 73, 74, 75, 76, 77, 78, 79, 80, 81, 82, 83, 84, 85, 86, 87, 88, 89, 90, 91, 92, 93, 94, 95] (by decide +kernel) (by decide +kernel)
set_option maxRecDepth 20000 in
theorem gX5_pay_X5_holds : GoodIn wsX5_pay (wsV RX5 95 RX5 yX5_holds wsX5_holds) := goodIn_app (goodIn_of _ (by decide +kernel)) ggX5_pay_X5_holds
set_option maxRecDepth 20000 in
theorem ggX5_pay_X5_owedOf : GoodIn wsX5_pay wsX5_owedOf := goodIn_r _ [19, 2, 20, 21, 22, 6, 23, 24, 25, 26, 27, 28, 29, 30, 31, 32, 33, 34, 35, 36, 37, 38, 39, 40, 41, 42, 43, 44, 45, 46, 47, 48, 49, 50, 51, 52, 53, 54, 55, 56, 57, 58, 59, 60, 61, 62, 63, 64, 65, 66, 67, 68, 69, 70, 71, 72, 73, 74, 75, 76, 77, 78, 79, 80, 81, 82, 83, 84, 85, 86, 87, 88, 89, 90, 91, 92, 93, 94, 95] (by decide +kernel) (by decide +kernel)
set_option maxRecDepth 20000 in
theorem gX5_pay_X5_owedOf : GoodIn wsX5_pay (wsV RX5 141 RX5 yX5_owedOf wsX5_owedOf) := goodIn_app (goodIn_of _ (by decide +kernel)) ggX5_pay_X5_owedOf
theorem dX5_pay_0 : decode cX5_pay 0 = .ok (.aload_n 0, 1) := by decide +kernel
theorem dX5_pay_1 : decode cX5_pay 1 = .ok (.iload_n 1, 1) := by decide +kernel
theorem dX5_pay_2 : decode cX5_pay 2 = .ok (.invokestatic 107, 3) := by decide +kernel
theorem dX5_pay_5 : decode cX5_pay 5 = .ok (.ifCond .ne 7, 3) := by decide +kernel
theorem dX5_pay_8 : decode cX5_pay 8 = .ok (.iconst 1, 1) := by decide +kernel
theorem dX5_pay_9 : decode cX5_pay 9 = .ok (.goto 18, 3) := by decide +kernel
theorem dX5_pay_12 : decode cX5_pay 12 = .ok (.iload_n 2, 1) := by decide +kernel
theorem dX5_pay_13 : decode cX5_pay 13 = .ok (.iconst 1, 1) := by decide +kernel
theorem dX5_pay_14 : decode cX5_pay 14 = .ok (.ldc 103, 2) := by decide +kernel
theorem dX5_pay_16 : decode cX5_pay 16 = .ok (.invokestatic 90, 3) := by decide +kernel
theorem dX5_pay_19 : decode cX5_pay 19 = .ok (.ifCond .eq 7, 3) := by decide +kernel
theorem dX5_pay_22 : decode cX5_pay 22 = .ok (.iconst 0, 1) := by decide +kernel
theorem dX5_pay_23 : decode cX5_pay 23 = .ok (.goto 4, 3) := by decide +kernel
theorem dX5_pay_26 : decode cX5_pay 26 = .ok (.iconst 2, 1) := by decide +kernel
theorem dX5_pay_27 : decode cX5_pay 27 = .ok (.invokevirtual 95, 3) := by decide +kernel
theorem dX5_pay_30 : decode cX5_pay 30 = .ok (.ifCond .ne 5, 3) := by decide +kernel
theorem dX5_pay_33 : decode cX5_pay 33 = .ok (.iconst 0, 1) := by decide +kernel
theorem dX5_pay_34 : decode cX5_pay 34 = .ok (.ireturn, 1) := by decide +kernel
theorem dX5_pay_35 : decode cX5_pay 35 = .ok (.aload_n 0, 1) := by decide +kernel
theorem dX5_pay_36 : decode cX5_pay 36 = .ok (.getfield 69, 3) := by decide +kernel
theorem dX5_pay_39 : decode cX5_pay 39 = .ok (.iload_n 1, 1) := by decide +kernel
theorem dX5_pay_40 : decode cX5_pay 40 = .ok (.dup2, 1) := by decide +kernel
theorem dX5_pay_41 : decode cX5_pay 41 = .ok (.iaload, 1) := by decide +kernel
theorem dX5_pay_42 : decode cX5_pay 42 = .ok (.iload_n 2, 1) := by decide +kernel
theorem dX5_pay_43 : decode cX5_pay 43 = .ok (.iadd, 1) := by decide +kernel
theorem dX5_pay_44 : decode cX5_pay 44 = .ok (.iastore, 1) := by decide +kernel
theorem dX5_pay_45 : decode cX5_pay 45 = .ok (.aload_n 0, 1) := by decide +kernel
theorem dX5_pay_46 : decode cX5_pay 46 = .ok (.getfield 84, 3) := by decide +kernel
theorem dX5_pay_49 : decode cX5_pay 49 = .ok (.iload_n 1, 1) := by decide +kernel
theorem dX5_pay_50 : decode cX5_pay 50 = .ok (.dup2, 1) := by decide +kernel
theorem dX5_pay_51 : decode cX5_pay 51 = .ok (.iaload, 1) := by decide +kernel
theorem dX5_pay_52 : decode cX5_pay 52 = .ok (.iload_n 2, 1) := by decide +kernel
theorem dX5_pay_53 : decode cX5_pay 53 = .ok (.iadd, 1) := by decide +kernel
theorem dX5_pay_54 : decode cX5_pay 54 = .ok (.iastore, 1) := by decide +kernel
theorem dX5_pay_55 : decode cX5_pay 55 = .ok (.aload_n 0, 1) := by decide +kernel
theorem dX5_pay_56 : decode cX5_pay 56 = .ok (.iload_n 1, 1) := by decide +kernel
theorem dX5_pay_57 : decode cX5_pay 57 = .ok (.invokevirtual 141, 3) := by decide +kernel
theorem dX5_pay_60 : decode cX5_pay 60 = .ok (.ireturn, 1) := by decide +kernel
set_option maxRecDepth 20000 in
theorem ggX5_plan_X5_isStudent : GoodIn wsX5_plan wsX5_isStudent := goodIn_r _ [11, 12, 13, 10, 14] (by decide +kernel) (by decide +kernel)
set_option maxRecDepth 20000 in
theorem gX5_plan_X5_isStudent : GoodIn wsX5_plan (va_wsS RX5 107 yX5_isStudent wsX5_isStudent) := goodIn_app (goodIn_of _ (by decide +kernel)) ggX5_plan_X5_isStudent
set_option maxRecDepth 20000 in
theorem ggX5_plan_X5_in : GoodIn wsX5_plan wsX5_in := goodIn_r _ [14] (by decide +kernel) (by decide +kernel)
set_option maxRecDepth 20000 in
theorem gX5_plan_X5_in : GoodIn wsX5_plan (va_wsS RX5 90 yX5_in wsX5_in) := goodIn_app (goodIn_of _ (by decide +kernel)) ggX5_plan_X5_in
set_option maxRecDepth 20000 in
theorem ggX5_plan_X5_owedOf : GoodIn wsX5_plan wsX5_owedOf := goodIn_r _ [18, 19, 20, 21, 22, 10, 23, 24, 25, 26, 27, 28, 29, 30, 31, 32, 33, 34, 35, 36, 37, 38, 39, 40, 41, 42, 43, 44, 45, 46, 47, 48, 49, 50, 51, 52, 53, 54, 55, 56, 57, 58, 59, 60, 61, 62, 63, 64, 65, 66, 72, 73, 74, 75, 76, 77, 78, 79, 80, 81, 82, 83, 84, 85, 86, 87, 88, 89, 90, 91, 92, 93, 94, 95, 96, 97, 98, 99, 100] (by decide +kernel) (by decide +kernel)
set_option maxRecDepth 20000 in
theorem gX5_plan_X5_owedOf : GoodIn wsX5_plan (wsV RX5 141 RX5 yX5_owedOf wsX5_owedOf) := goodIn_app (goodIn_of _ (by decide +kernel)) ggX5_plan_X5_owedOf
set_option maxRecDepth 20000 in
theorem ggX5_plan_X5_holds : GoodIn wsX5_plan wsX5_holds := goodIn_r _ [70, 71, 72, 73, 74, 75, 76, 77, 78, 79, 80, 81, 82, 83, 84, 85, 86, 87, 88, 89, 90, 91, 92, 93, 94, 95, 96, 97, 98, 99, 100] (by decide +kernel) (by decide +kernel)
set_option maxRecDepth 20000 in
theorem gX5_plan_X5_holds : GoodIn wsX5_plan (wsV RX5 95 RX5 yX5_holds wsX5_holds) := goodIn_app (goodIn_of _ (by decide +kernel)) ggX5_plan_X5_holds
theorem dX5_plan_0 : decode cX5_plan 0 = .ok (.aload_n 0, 1) := by decide +kernel
theorem dX5_plan_1 : decode cX5_plan 1 = .ok (.iload_n 1, 1) := by decide +kernel
theorem dX5_plan_2 : decode cX5_plan 2 = .ok (.invokestatic 107, 3) := by decide +kernel
theorem dX5_plan_5 : decode cX5_plan 5 = .ok (.ifCond .ne 7, 3) := by decide +kernel
theorem dX5_plan_8 : decode cX5_plan 8 = .ok (.iconst 1, 1) := by decide +kernel
theorem dX5_plan_9 : decode cX5_plan 9 = .ok (.goto 29, 3) := by decide +kernel
theorem dX5_plan_12 : decode cX5_plan 12 = .ok (.iload_n 2, 1) := by decide +kernel
theorem dX5_plan_13 : decode cX5_plan 13 = .ok (.iconst 1, 1) := by decide +kernel
theorem dX5_plan_14 : decode cX5_plan 14 = .ok (.iconst 4, 1) := by decide +kernel
theorem dX5_plan_15 : decode cX5_plan 15 = .ok (.invokestatic 90, 3) := by decide +kernel
theorem dX5_plan_18 : decode cX5_plan 18 = .ok (.ifCond .ne 7, 3) := by decide +kernel
theorem dX5_plan_21 : decode cX5_plan 21 = .ok (.iconst 2, 1) := by decide +kernel
theorem dX5_plan_22 : decode cX5_plan 22 = .ok (.goto 16, 3) := by decide +kernel
theorem dX5_plan_25 : decode cX5_plan 25 = .ok (.aload_n 0, 1) := by decide +kernel
theorem dX5_plan_26 : decode cX5_plan 26 = .ok (.iload_n 1, 1) := by decide +kernel
theorem dX5_plan_27 : decode cX5_plan 27 = .ok (.invokevirtual 141, 3) := by decide +kernel
theorem dX5_plan_30 : decode cX5_plan 30 = .ok (.ifCond .le 7, 3) := by decide +kernel
theorem dX5_plan_33 : decode cX5_plan 33 = .ok (.iconst 0, 1) := by decide +kernel
theorem dX5_plan_34 : decode cX5_plan 34 = .ok (.goto 4, 3) := by decide +kernel
theorem dX5_plan_37 : decode cX5_plan 37 = .ok (.iconst 3, 1) := by decide +kernel
theorem dX5_plan_38 : decode cX5_plan 38 = .ok (.invokevirtual 95, 3) := by decide +kernel
theorem dX5_plan_41 : decode cX5_plan 41 = .ok (.ifCond .ne 5, 3) := by decide +kernel
theorem dX5_plan_44 : decode cX5_plan 44 = .ok (.iconst 0, 1) := by decide +kernel
theorem dX5_plan_45 : decode cX5_plan 45 = .ok (.ireturn, 1) := by decide +kernel
theorem dX5_plan_46 : decode cX5_plan 46 = .ok (.aload_n 0, 1) := by decide +kernel
theorem dX5_plan_47 : decode cX5_plan 47 = .ok (.iload_n 1, 1) := by decide +kernel
theorem dX5_plan_48 : decode cX5_plan 48 = .ok (.invokevirtual 141, 3) := by decide +kernel
theorem dX5_plan_51 : decode cX5_plan 51 = .ok (.istore_n 3, 1) := by decide +kernel
theorem dX5_plan_52 : decode cX5_plan 52 = .ok (.aload_n 0, 1) := by decide +kernel
theorem dX5_plan_53 : decode cX5_plan 53 = .ok (.getfield 72, 3) := by decide +kernel
theorem dX5_plan_56 : decode cX5_plan 56 = .ok (.iload_n 1, 1) := by decide +kernel
theorem dX5_plan_57 : decode cX5_plan 57 = .ok (.iload_n 2, 1) := by decide +kernel
theorem dX5_plan_58 : decode cX5_plan 58 = .ok (.iastore, 1) := by decide +kernel
theorem dX5_plan_59 : decode cX5_plan 59 = .ok (.aload_n 0, 1) := by decide +kernel
theorem dX5_plan_60 : decode cX5_plan 60 = .ok (.getfield 75, 3) := by decide +kernel
theorem dX5_plan_63 : decode cX5_plan 63 = .ok (.iload_n 1, 1) := by decide +kernel
theorem dX5_plan_64 : decode cX5_plan 64 = .ok (.iload_n 3, 1) := by decide +kernel
theorem dX5_plan_65 : decode cX5_plan 65 = .ok (.iload_n 2, 1) := by decide +kernel
theorem dX5_plan_66 : decode cX5_plan 66 = .ok (.idiv, 1) := by decide +kernel
theorem dX5_plan_67 : decode cX5_plan 67 = .ok (.iastore, 1) := by decide +kernel
theorem dX5_plan_68 : decode cX5_plan 68 = .ok (.aload_n 0, 1) := by decide +kernel
theorem dX5_plan_69 : decode cX5_plan 69 = .ok (.getfield 78, 3) := by decide +kernel
theorem dX5_plan_72 : decode cX5_plan 72 = .ok (.iload_n 1, 1) := by decide +kernel
theorem dX5_plan_73 : decode cX5_plan 73 = .ok (.iload_n 3, 1) := by decide +kernel
theorem dX5_plan_74 : decode cX5_plan 74 = .ok (.iload_n 2, 1) := by decide +kernel
theorem dX5_plan_75 : decode cX5_plan 75 = .ok (.irem, 1) := by decide +kernel
theorem dX5_plan_76 : decode cX5_plan 76 = .ok (.iastore, 1) := by decide +kernel
theorem dX5_plan_77 : decode cX5_plan 77 = .ok (.aload_n 0, 1) := by decide +kernel
theorem dX5_plan_78 : decode cX5_plan 78 = .ok (.getfield 81, 3) := by decide +kernel
theorem dX5_plan_81 : decode cX5_plan 81 = .ok (.iload_n 1, 1) := by decide +kernel
theorem dX5_plan_82 : decode cX5_plan 82 = .ok (.bipush 16, 2) := by decide +kernel
theorem dX5_plan_84 : decode cX5_plan 84 = .ok (.aload_n 0, 1) := by decide +kernel
theorem dX5_plan_85 : decode cX5_plan 85 = .ok (.getfield 144, 3) := by decide +kernel
theorem dX5_plan_88 : decode cX5_plan 88 = .ok (.imul, 1) := by decide +kernel
theorem dX5_plan_89 : decode cX5_plan 89 = .ok (.aload_n 0, 1) := by decide +kernel
theorem dX5_plan_90 : decode cX5_plan 90 = .ok (.getfield 133, 3) := by decide +kernel
theorem dX5_plan_93 : decode cX5_plan 93 = .ok (.iadd, 1) := by decide +kernel
theorem dX5_plan_94 : decode cX5_plan 94 = .ok (.iastore, 1) := by decide +kernel
theorem dX5_plan_95 : decode cX5_plan 95 = .ok (.aload_n 0, 1) := by decide +kernel
theorem dX5_plan_96 : decode cX5_plan 96 = .ok (.getfield 84, 3) := by decide +kernel
theorem dX5_plan_99 : decode cX5_plan 99 = .ok (.iload_n 1, 1) := by decide +kernel
theorem dX5_plan_100 : decode cX5_plan 100 = .ok (.iconst 0, 1) := by decide +kernel
theorem dX5_plan_101 : decode cX5_plan 101 = .ok (.iastore, 1) := by decide +kernel
theorem dX5_plan_102 : decode cX5_plan 102 = .ok (.aload_n 0, 1) := by decide +kernel
theorem dX5_plan_103 : decode cX5_plan 103 = .ok (.getfield 75, 3) := by decide +kernel
theorem dX5_plan_106 : decode cX5_plan 106 = .ok (.iload_n 1, 1) := by decide +kernel
theorem dX5_plan_107 : decode cX5_plan 107 = .ok (.iaload, 1) := by decide +kernel
theorem dX5_plan_108 : decode cX5_plan 108 = .ok (.aload_n 0, 1) := by decide +kernel
theorem dX5_plan_109 : decode cX5_plan 109 = .ok (.getfield 78, 3) := by decide +kernel
theorem dX5_plan_112 : decode cX5_plan 112 = .ok (.iload_n 1, 1) := by decide +kernel
theorem dX5_plan_113 : decode cX5_plan 113 = .ok (.iaload, 1) := by decide +kernel
theorem dX5_plan_114 : decode cX5_plan 114 = .ok (.iadd, 1) := by decide +kernel
theorem dX5_plan_115 : decode cX5_plan 115 = .ok (.ireturn, 1) := by decide +kernel
set_option maxRecDepth 20000 in
theorem ggX5_leave_X5_isStudent : GoodIn wsX5_leave wsX5_isStudent := goodIn_r _ [10, 11, 12, 9, 13] (by decide +kernel) (by decide +kernel)
set_option maxRecDepth 20000 in
theorem gX5_leave_X5_isStudent : GoodIn wsX5_leave (va_wsS RX5 107 yX5_isStudent wsX5_isStudent) := goodIn_app (goodIn_of _ (by decide +kernel)) ggX5_leave_X5_isStudent
set_option maxRecDepth 20000 in
theorem ggX5_leave_X5_holds : GoodIn wsX5_leave wsX5_holds := goodIn_r _ [17, 18, 46, 47, 48, 49, 50, 51, 52, 53, 54, 55, 56, 57, 58, 59, 60, 61, 62, 63, 64, 65, 66, 67, 68, 69, 70, 71, 72, 73, 74] (by decide +kernel) (by decide +kernel)
set_option maxRecDepth 20000 in
theorem gX5_leave_X5_holds : GoodIn wsX5_leave (wsV RX5 95 RX5 yX5_holds wsX5_holds) := goodIn_app (goodIn_of _ (by decide +kernel)) ggX5_leave_X5_holds
set_option maxRecDepth 20000 in
theorem ggX5_leave_X5_drops : GoodIn wsX5_leave wsX5_drops := goodIn_r _ [22, 2, 23, 5, 24, 25, 26, 27, 28, 9, 29, 1, 30, 31, 32, 33, 34, 35, 36, 37, 38, 39, 40, 41, 42, 46, 47, 48, 49, 50, 51, 52, 53, 54, 55, 56, 57, 58, 59, 60, 61, 62, 63, 64, 65, 66, 67, 68, 69, 70, 71, 72, 73, 74] (by decide +kernel) (by decide +kernel)
set_option maxRecDepth 20000 in
theorem gX5_leave_X5_drops : GoodIn wsX5_leave (wsV RX5 138 RX5 yX5_drops wsX5_drops) := goodIn_app (goodIn_of _ (by decide +kernel)) ggX5_leave_X5_drops
set_option maxRecDepth 20000 in
theorem ggX5_leave_X5_least : GoodIn wsX5_leave wsX5_least := goodIn_r _ [45] (by decide +kernel) (by decide +kernel)
set_option maxRecDepth 20000 in
theorem gX5_leave_X5_least : GoodIn wsX5_leave (va_wsS RX5 121 yX5_least wsX5_least) := goodIn_app (goodIn_of _ (by decide +kernel)) ggX5_leave_X5_least
theorem dX5_leave_0 : decode cX5_leave 0 = .ok (.aload_n 0, 1) := by decide +kernel
theorem dX5_leave_1 : decode cX5_leave 1 = .ok (.iload_n 1, 1) := by decide +kernel
theorem dX5_leave_2 : decode cX5_leave 2 = .ok (.invokestatic 107, 3) := by decide +kernel
theorem dX5_leave_5 : decode cX5_leave 5 = .ok (.ifCond .eq 7, 3) := by decide +kernel
theorem dX5_leave_8 : decode cX5_leave 8 = .ok (.iconst 0, 1) := by decide +kernel
theorem dX5_leave_9 : decode cX5_leave 9 = .ok (.goto 4, 3) := by decide +kernel
theorem dX5_leave_12 : decode cX5_leave 12 = .ok (.iconst 1, 1) := by decide +kernel
theorem dX5_leave_13 : decode cX5_leave 13 = .ok (.invokevirtual 95, 3) := by decide +kernel
theorem dX5_leave_16 : decode cX5_leave 16 = .ok (.ifCond .ne 5, 3) := by decide +kernel
theorem dX5_leave_19 : decode cX5_leave 19 = .ok (.iconst 0, 1) := by decide +kernel
theorem dX5_leave_20 : decode cX5_leave 20 = .ok (.ireturn, 1) := by decide +kernel
theorem dX5_leave_21 : decode cX5_leave 21 = .ok (.iconst 0, 1) := by decide +kernel
theorem dX5_leave_22 : decode cX5_leave 22 = .ok (.istore_n 2, 1) := by decide +kernel
theorem dX5_leave_23 : decode cX5_leave 23 = .ok (.iload_n 2, 1) := by decide +kernel
theorem dX5_leave_24 : decode cX5_leave 24 = .ok (.aload_n 0, 1) := by decide +kernel
theorem dX5_leave_25 : decode cX5_leave 25 = .ok (.getfield 42, 3) := by decide +kernel
theorem dX5_leave_28 : decode cX5_leave 28 = .ok (.iload_n 1, 1) := by decide +kernel
theorem dX5_leave_29 : decode cX5_leave 29 = .ok (.iaload, 1) := by decide +kernel
theorem dX5_leave_30 : decode cX5_leave 30 = .ok (.if_icmp .ge 30, 3) := by decide +kernel
theorem dX5_leave_33 : decode cX5_leave 33 = .ok (.aload_n 0, 1) := by decide +kernel
theorem dX5_leave_34 : decode cX5_leave 34 = .ok (.getfield 48, 3) := by decide +kernel
theorem dX5_leave_37 : decode cX5_leave 37 = .ok (.bipush 8, 2) := by decide +kernel
theorem dX5_leave_39 : decode cX5_leave 39 = .ok (.iload_n 1, 1) := by decide +kernel
theorem dX5_leave_40 : decode cX5_leave 40 = .ok (.imul, 1) := by decide +kernel
theorem dX5_leave_41 : decode cX5_leave 41 = .ok (.iload_n 2, 1) := by decide +kernel
theorem dX5_leave_42 : decode cX5_leave 42 = .ok (.iadd, 1) := by decide +kernel
theorem dX5_leave_43 : decode cX5_leave 43 = .ok (.baload, 1) := by decide +kernel
theorem dX5_leave_44 : decode cX5_leave 44 = .ok (.ifCond .ne 10, 3) := by decide +kernel
theorem dX5_leave_47 : decode cX5_leave 47 = .ok (.aload_n 0, 1) := by decide +kernel
theorem dX5_leave_48 : decode cX5_leave 48 = .ok (.iload_n 1, 1) := by decide +kernel
theorem dX5_leave_49 : decode cX5_leave 49 = .ok (.iload_n 2, 1) := by decide +kernel
theorem dX5_leave_50 : decode cX5_leave 50 = .ok (.invokevirtual 138, 3) := by decide +kernel
theorem dX5_leave_53 : decode cX5_leave 53 = .ok (.pop, 1) := by decide +kernel
theorem dX5_leave_54 : decode cX5_leave 54 = .ok (.iinc 2 1, 3) := by decide +kernel
theorem dX5_leave_57 : decode cX5_leave 57 = .ok (.goto (-34), 3) := by decide +kernel
theorem dX5_leave_60 : decode cX5_leave 60 = .ok (.iconst 0, 1) := by decide +kernel
theorem dX5_leave_61 : decode cX5_leave 61 = .ok (.istore_n 2, 1) := by decide +kernel
theorem dX5_leave_62 : decode cX5_leave 62 = .ok (.iconst 0, 1) := by decide +kernel
theorem dX5_leave_63 : decode cX5_leave 63 = .ok (.istore_n 3, 1) := by decide +kernel
theorem dX5_leave_64 : decode cX5_leave 64 = .ok (.iload_n 3, 1) := by decide +kernel
theorem dX5_leave_65 : decode cX5_leave 65 = .ok (.aload_n 0, 1) := by decide +kernel
theorem dX5_leave_66 : decode cX5_leave 66 = .ok (.getfield 60, 3) := by decide +kernel
theorem dX5_leave_69 : decode cX5_leave 69 = .ok (.iload_n 1, 1) := by decide +kernel
theorem dX5_leave_70 : decode cX5_leave 70 = .ok (.iaload, 1) := by decide +kernel
theorem dX5_leave_71 : decode cX5_leave 71 = .ok (.if_icmp .ge 23, 3) := by decide +kernel
theorem dX5_leave_74 : decode cX5_leave 74 = .ok (.iload_n 2, 1) := by decide +kernel
theorem dX5_leave_75 : decode cX5_leave 75 = .ok (.aload_n 0, 1) := by decide +kernel
theorem dX5_leave_76 : decode cX5_leave 76 = .ok (.getfield 66, 3) := by decide +kernel
theorem dX5_leave_79 : decode cX5_leave 79 = .ok (.bipush 6, 2) := by decide +kernel
theorem dX5_leave_81 : decode cX5_leave 81 = .ok (.iload_n 1, 1) := by decide +kernel
theorem dX5_leave_82 : decode cX5_leave 82 = .ok (.imul, 1) := by decide +kernel
theorem dX5_leave_83 : decode cX5_leave 83 = .ok (.iload_n 3, 1) := by decide +kernel
theorem dX5_leave_84 : decode cX5_leave 84 = .ok (.iadd, 1) := by decide +kernel
theorem dX5_leave_85 : decode cX5_leave 85 = .ok (.iaload, 1) := by decide +kernel
theorem dX5_leave_86 : decode cX5_leave 86 = .ok (.iadd, 1) := by decide +kernel
theorem dX5_leave_87 : decode cX5_leave 87 = .ok (.istore_n 2, 1) := by decide +kernel
theorem dX5_leave_88 : decode cX5_leave 88 = .ok (.iinc 3 1, 3) := by decide +kernel
theorem dX5_leave_91 : decode cX5_leave 91 = .ok (.goto (-27), 3) := by decide +kernel
theorem dX5_leave_94 : decode cX5_leave 94 = .ok (.aload_n 0, 1) := by decide +kernel
theorem dX5_leave_95 : decode cX5_leave 95 = .ok (.getfield 133, 3) := by decide +kernel
theorem dX5_leave_98 : decode cX5_leave 98 = .ok (.bipush 10, 2) := by decide +kernel
theorem dX5_leave_100 : decode cX5_leave 100 = .ok (.if_icmp .lt 7, 3) := by decide +kernel
theorem dX5_leave_103 : decode cX5_leave 103 = .ok (.iconst 0, 1) := by decide +kernel
theorem dX5_leave_104 : decode cX5_leave 104 = .ok (.goto 14, 3) := by decide +kernel
theorem dX5_leave_107 : decode cX5_leave 107 = .ok (.iload_n 2, 1) := by decide +kernel
theorem dX5_leave_108 : decode cX5_leave 108 = .ok (.iload_n 2, 1) := by decide +kernel
theorem dX5_leave_109 : decode cX5_leave 109 = .ok (.aload_n 0, 1) := by decide +kernel
theorem dX5_leave_110 : decode cX5_leave 110 = .ok (.getfield 133, 3) := by decide +kernel
theorem dX5_leave_113 : decode cX5_leave 113 = .ok (.imul, 1) := by decide +kernel
theorem dX5_leave_114 : decode cX5_leave 114 = .ok (.bipush 16, 2) := by decide +kernel
theorem dX5_leave_116 : decode cX5_leave 116 = .ok (.idiv, 1) := by decide +kernel
theorem dX5_leave_117 : decode cX5_leave 117 = .ok (.isub, 1) := by decide +kernel
theorem dX5_leave_118 : decode cX5_leave 118 = .ok (.istore_n 3, 1) := by decide +kernel
theorem dX5_leave_119 : decode cX5_leave 119 = .ok (.iload_n 3, 1) := by decide +kernel
theorem dX5_leave_120 : decode cX5_leave 120 = .ok (.istore 4, 2) := by decide +kernel
theorem dX5_leave_122 : decode cX5_leave 122 = .ok (.iconst 0, 1) := by decide +kernel
theorem dX5_leave_123 : decode cX5_leave 123 = .ok (.istore 5, 2) := by decide +kernel
theorem dX5_leave_125 : decode cX5_leave 125 = .ok (.iload 5, 2) := by decide +kernel
theorem dX5_leave_127 : decode cX5_leave 127 = .ok (.bipush 18, 2) := by decide +kernel
theorem dX5_leave_129 : decode cX5_leave 129 = .ok (.if_icmp .ge 93, 3) := by decide +kernel
theorem dX5_leave_132 : decode cX5_leave 132 = .ok (.iconst 2, 1) := by decide +kernel
theorem dX5_leave_133 : decode cX5_leave 133 = .ok (.iload 5, 2) := by decide +kernel
theorem dX5_leave_135 : decode cX5_leave 135 = .ok (.bipush 6, 2) := by decide +kernel
theorem dX5_leave_137 : decode cX5_leave 137 = .ok (.idiv, 1) := by decide +kernel
theorem dX5_leave_138 : decode cX5_leave 138 = .ok (.isub, 1) := by decide +kernel
theorem dX5_leave_139 : decode cX5_leave 139 = .ok (.istore 6, 2) := by decide +kernel
theorem dX5_leave_141 : decode cX5_leave 141 = .ok (.bipush 6, 2) := by decide +kernel
theorem dX5_leave_143 : decode cX5_leave 143 = .ok (.iload_n 1, 1) := by decide +kernel
theorem dX5_leave_144 : decode cX5_leave 144 = .ok (.imul, 1) := by decide +kernel
theorem dX5_leave_145 : decode cX5_leave 145 = .ok (.iload 5, 2) := by decide +kernel
theorem dX5_leave_147 : decode cX5_leave 147 = .ok (.bipush 6, 2) := by decide +kernel
theorem dX5_leave_149 : decode cX5_leave 149 = .ok (.irem, 1) := by decide +kernel
theorem dX5_leave_150 : decode cX5_leave 150 = .ok (.iadd, 1) := by decide +kernel
theorem dX5_leave_151 : decode cX5_leave 151 = .ok (.istore 7, 2) := by decide +kernel
theorem dX5_leave_153 : decode cX5_leave 153 = .ok (.iload 5, 2) := by decide +kernel
theorem dX5_leave_155 : decode cX5_leave 155 = .ok (.bipush 6, 2) := by decide +kernel
theorem dX5_leave_157 : decode cX5_leave 157 = .ok (.irem, 1) := by decide +kernel
theorem dX5_leave_158 : decode cX5_leave 158 = .ok (.aload_n 0, 1) := by decide +kernel
theorem dX5_leave_159 : decode cX5_leave 159 = .ok (.getfield 60, 3) := by decide +kernel
theorem dX5_leave_162 : decode cX5_leave 162 = .ok (.iload_n 1, 1) := by decide +kernel
theorem dX5_leave_163 : decode cX5_leave 163 = .ok (.iaload, 1) := by decide +kernel
theorem dX5_leave_164 : decode cX5_leave 164 = .ok (.if_icmp .ge 30, 3) := by decide +kernel
theorem dX5_leave_167 : decode cX5_leave 167 = .ok (.aload_n 0, 1) := by decide +kernel
theorem dX5_leave_168 : decode cX5_leave 168 = .ok (.getfield 63, 3) := by decide +kernel
theorem dX5_leave_171 : decode cX5_leave 171 = .ok (.iload 7, 2) := by decide +kernel
theorem dX5_leave_173 : decode cX5_leave 173 = .ok (.iaload, 1) := by decide +kernel
theorem dX5_leave_174 : decode cX5_leave 174 = .ok (.iload 6, 2) := by decide +kernel
theorem dX5_leave_176 : decode cX5_leave 176 = .ok (.if_icmp .ne 18, 3) := by decide +kernel
theorem dX5_leave_179 : decode cX5_leave 179 = .ok (.aload_n 0, 1) := by decide +kernel
theorem dX5_leave_180 : decode cX5_leave 180 = .ok (.getfield 66, 3) := by decide +kernel
theorem dX5_leave_183 : decode cX5_leave 183 = .ok (.iload 7, 2) := by decide +kernel
theorem dX5_leave_185 : decode cX5_leave 185 = .ok (.iaload, 1) := by decide +kernel
theorem dX5_leave_186 : decode cX5_leave 186 = .ok (.iload 4, 2) := by decide +kernel
theorem dX5_leave_188 : decode cX5_leave 188 = .ok (.invokestatic 121, 3) := by decide +kernel
theorem dX5_leave_191 : decode cX5_leave 191 = .ok (.goto 4, 3) := by decide +kernel
theorem dX5_leave_194 : decode cX5_leave 194 = .ok (.iconst 0, 1) := by decide +kernel
theorem dX5_leave_195 : decode cX5_leave 195 = .ok (.istore 8, 2) := by decide +kernel
theorem dX5_leave_197 : decode cX5_leave 197 = .ok (.aload_n 0, 1) := by decide +kernel
theorem dX5_leave_198 : decode cX5_leave 198 = .ok (.getfield 66, 3) := by decide +kernel
theorem dX5_leave_201 : decode cX5_leave 201 = .ok (.iload 7, 2) := by decide +kernel
theorem dX5_leave_203 : decode cX5_leave 203 = .ok (.dup2, 1) := by decide +kernel
theorem dX5_leave_204 : decode cX5_leave 204 = .ok (.iaload, 1) := by decide +kernel
theorem dX5_leave_205 : decode cX5_leave 205 = .ok (.iload 8, 2) := by decide +kernel
theorem dX5_leave_207 : decode cX5_leave 207 = .ok (.isub, 1) := by decide +kernel
theorem dX5_leave_208 : decode cX5_leave 208 = .ok (.iastore, 1) := by decide +kernel
theorem dX5_leave_209 : decode cX5_leave 209 = .ok (.iload 4, 2) := by decide +kernel
theorem dX5_leave_211 : decode cX5_leave 211 = .ok (.iload 8, 2) := by decide +kernel
theorem dX5_leave_213 : decode cX5_leave 213 = .ok (.isub, 1) := by decide +kernel
theorem dX5_leave_214 : decode cX5_leave 214 = .ok (.istore 4, 2) := by decide +kernel
theorem dX5_leave_216 : decode cX5_leave 216 = .ok (.iinc 5 1, 3) := by decide +kernel
theorem dX5_leave_219 : decode cX5_leave 219 = .ok (.goto (-94), 3) := by decide +kernel
theorem dX5_leave_222 : decode cX5_leave 222 = .ok (.iload_n 3, 1) := by decide +kernel
theorem dX5_leave_223 : decode cX5_leave 223 = .ok (.ireturn, 1) := by decide +kernel
set_option maxRecDepth 20000 in
theorem ggX5_carries_X5_owedOf : GoodIn wsX5_carries wsX5_owedOf := goodIn_r _ [6, 1, 7, 8, 9, 5, 10, 11, 12, 13, 14, 15, 16, 17, 18, 19, 20, 21, 22, 23, 24, 25, 26, 27, 28, 29, 30, 31, 32, 33, 34, 35, 36, 37, 38, 39, 40, 41, 42, 43, 44, 45, 46, 47, 48, 49, 50, 51, 52, 53, 54, 55, 56, 57, 58, 59, 60, 61, 62, 63, 64, 65, 66, 67, 68, 69, 70, 71, 72, 73, 74, 75, 76, 77, 78, 79, 80, 81, 82] (by decide +kernel) (by decide +kernel)
set_option maxRecDepth 20000 in
theorem gX5_carries_X5_owedOf : GoodIn wsX5_carries (wsV RX5 141 RX5 yX5_owedOf wsX5_owedOf) := goodIn_app (goodIn_of _ (by decide +kernel)) ggX5_carries_X5_owedOf
set_option maxRecDepth 20000 in
theorem ggX5_carries_X5_least : GoodIn wsX5_carries wsX5_least := goodIn_r _ [45] (by decide +kernel) (by decide +kernel)
set_option maxRecDepth 20000 in
theorem gX5_carries_X5_least : GoodIn wsX5_carries (va_wsS RX5 121 yX5_least wsX5_least) := goodIn_app (goodIn_of _ (by decide +kernel)) ggX5_carries_X5_least
theorem dX5_carries_0 : decode cX5_carries 0 = .ok (.aload_n 0, 1) := by decide +kernel
theorem dX5_carries_1 : decode cX5_carries 1 = .ok (.iload_n 1, 1) := by decide +kernel
theorem dX5_carries_2 : decode cX5_carries 2 = .ok (.invokevirtual 141, 3) := by decide +kernel
theorem dX5_carries_5 : decode cX5_carries 5 = .ok (.istore_n 3, 1) := by decide +kernel
theorem dX5_carries_6 : decode cX5_carries 6 = .ok (.aload_n 0, 1) := by decide +kernel
theorem dX5_carries_7 : decode cX5_carries 7 = .ok (.iload_n 2, 1) := by decide +kernel
theorem dX5_carries_8 : decode cX5_carries 8 = .ok (.invokevirtual 141, 3) := by decide +kernel
theorem dX5_carries_11 : decode cX5_carries 11 = .ok (.ineg, 1) := by decide +kernel
theorem dX5_carries_12 : decode cX5_carries 12 = .ok (.istore 4, 2) := by decide +kernel
theorem dX5_carries_14 : decode cX5_carries 14 = .ok (.iload_n 3, 1) := by decide +kernel
theorem dX5_carries_15 : decode cX5_carries 15 = .ok (.ifCond .le 38, 3) := by decide +kernel
theorem dX5_carries_18 : decode cX5_carries 18 = .ok (.iload 4, 2) := by decide +kernel
theorem dX5_carries_20 : decode cX5_carries 20 = .ok (.ifCond .le 33, 3) := by decide +kernel
theorem dX5_carries_23 : decode cX5_carries 23 = .ok (.iload_n 3, 1) := by decide +kernel
theorem dX5_carries_24 : decode cX5_carries 24 = .ok (.iload 4, 2) := by decide +kernel
theorem dX5_carries_26 : decode cX5_carries 26 = .ok (.invokestatic 121, 3) := by decide +kernel
theorem dX5_carries_29 : decode cX5_carries 29 = .ok (.istore 5, 2) := by decide +kernel
theorem dX5_carries_31 : decode cX5_carries 31 = .ok (.aload_n 0, 1) := by decide +kernel
theorem dX5_carries_32 : decode cX5_carries 32 = .ok (.getfield 69, 3) := by decide +kernel
theorem dX5_carries_35 : decode cX5_carries 35 = .ok (.iload_n 1, 1) := by decide +kernel
theorem dX5_carries_36 : decode cX5_carries 36 = .ok (.dup2, 1) := by decide +kernel
theorem dX5_carries_37 : decode cX5_carries 37 = .ok (.iaload, 1) := by decide +kernel
theorem dX5_carries_38 : decode cX5_carries 38 = .ok (.iload 5, 2) := by decide +kernel
theorem dX5_carries_40 : decode cX5_carries 40 = .ok (.iadd, 1) := by decide +kernel
theorem dX5_carries_41 : decode cX5_carries 41 = .ok (.iastore, 1) := by decide +kernel
theorem dX5_carries_42 : decode cX5_carries 42 = .ok (.aload_n 0, 1) := by decide +kernel
theorem dX5_carries_43 : decode cX5_carries 43 = .ok (.getfield 69, 3) := by decide +kernel
theorem dX5_carries_46 : decode cX5_carries 46 = .ok (.iload_n 2, 1) := by decide +kernel
theorem dX5_carries_47 : decode cX5_carries 47 = .ok (.dup2, 1) := by decide +kernel
theorem dX5_carries_48 : decode cX5_carries 48 = .ok (.iaload, 1) := by decide +kernel
theorem dX5_carries_49 : decode cX5_carries 49 = .ok (.iload 5, 2) := by decide +kernel
theorem dX5_carries_51 : decode cX5_carries 51 = .ok (.isub, 1) := by decide +kernel
theorem dX5_carries_52 : decode cX5_carries 52 = .ok (.iastore, 1) := by decide +kernel
theorem dX5_carries_53 : decode cX5_carries 53 = .ok (.return_, 1) := by decide +kernel
set_option maxRecDepth 20000 in
theorem ggX5_endsTerm_X5_carries : GoodIn wsX5_endsTerm wsX5_carries := goodIn_r _ [15, 8, 16, 17, 18, 14, 19, 20, 21, 22, 23, 24, 25, 26, 27, 5, 7, 6, 28, 29, 30, 31, 1, 32, 33, 34, 35, 36, 37, 38, 39, 40, 41, 42, 43, 44, 45, 46, 47, 48, 49, 3, 4, 50, 51, 52, 53, 54, 55, 56, 57, 2, 58, 59, 60, 61, 62, 63, 64, 65, 66, 67, 68, 69, 70, 71, 72, 73, 74, 75, 76, 77, 78, 79, 80, 81, 82, 83, 84, 85, 86, 87, 88] (by decide +kernel) (by decide +kernel)
set_option maxRecDepth 20000 in
theorem gX5_endsTerm_X5_carries : GoodIn wsX5_endsTerm (wsV RX5 147 RX5 yX5_carries wsX5_carries) := goodIn_app (goodIn_of _ (by decide +kernel)) ggX5_endsTerm_X5_carries
set_option maxRecDepth 20000 in
theorem ggX5_endsTerm_X5_owedOf : GoodIn wsX5_endsTerm wsX5_owedOf := goodIn_r _ [19, 8, 20, 21, 22, 14, 23, 24, 25, 26, 27, 5, 7, 6, 28, 29, 30, 31, 1, 32, 33, 34, 35, 36, 37, 38, 39, 40, 41, 42, 43, 44, 45, 46, 47, 48, 49, 3, 4, 50, 51, 52, 53, 54, 55, 56, 57, 2, 58, 59, 60, 61, 62, 63, 64, 65, 66, 67, 68, 69, 70, 71, 72, 73, 74, 75, 76, 77, 78, 79, 80, 81, 82, 83, 84, 85, 86, 87, 88] (by decide +kernel) (by decide +kernel)
set_option maxRecDepth 20000 in
theorem gX5_endsTerm_X5_owedOf : GoodIn wsX5_endsTerm (wsV RX5 141 RX5 yX5_owedOf wsX5_owedOf) := goodIn_app (goodIn_of _ (by decide +kernel)) ggX5_endsTerm_X5_owedOf
theorem dX5_endsTerm_0 : decode cX5_endsTerm 0 = .ok (.iconst 0, 1) := by decide +kernel
theorem dX5_endsTerm_1 : decode cX5_endsTerm 1 = .ok (.istore_n 1, 1) := by decide +kernel
theorem dX5_endsTerm_2 : decode cX5_endsTerm 2 = .ok (.iload_n 1, 1) := by decide +kernel
theorem dX5_endsTerm_3 : decode cX5_endsTerm 3 = .ok (.iconst 4, 1) := by decide +kernel
theorem dX5_endsTerm_4 : decode cX5_endsTerm 4 = .ok (.if_icmp .ge 25, 3) := by decide +kernel
theorem dX5_endsTerm_7 : decode cX5_endsTerm 7 = .ok (.aload_n 0, 1) := by decide +kernel
theorem dX5_endsTerm_8 : decode cX5_endsTerm 8 = .ok (.iload_n 1, 1) := by decide +kernel
theorem dX5_endsTerm_9 : decode cX5_endsTerm 9 = .ok (.iload_n 1, 1) := by decide +kernel
theorem dX5_endsTerm_10 : decode cX5_endsTerm 10 = .ok (.iconst 1, 1) := by decide +kernel
theorem dX5_endsTerm_11 : decode cX5_endsTerm 11 = .ok (.iadd, 1) := by decide +kernel
theorem dX5_endsTerm_12 : decode cX5_endsTerm 12 = .ok (.invokevirtual 147, 3) := by decide +kernel
theorem dX5_endsTerm_15 : decode cX5_endsTerm 15 = .ok (.aload_n 0, 1) := by decide +kernel
theorem dX5_endsTerm_16 : decode cX5_endsTerm 16 = .ok (.iload_n 1, 1) := by decide +kernel
theorem dX5_endsTerm_17 : decode cX5_endsTerm 17 = .ok (.iconst 1, 1) := by decide +kernel
theorem dX5_endsTerm_18 : decode cX5_endsTerm 18 = .ok (.iadd, 1) := by decide +kernel
theorem dX5_endsTerm_19 : decode cX5_endsTerm 19 = .ok (.iload_n 1, 1) := by decide +kernel
theorem dX5_endsTerm_20 : decode cX5_endsTerm 20 = .ok (.invokevirtual 147, 3) := by decide +kernel
theorem dX5_endsTerm_23 : decode cX5_endsTerm 23 = .ok (.iinc 1 2, 3) := by decide +kernel
theorem dX5_endsTerm_26 : decode cX5_endsTerm 26 = .ok (.goto (-24), 3) := by decide +kernel
theorem dX5_endsTerm_29 : decode cX5_endsTerm 29 = .ok (.iconst 0, 1) := by decide +kernel
theorem dX5_endsTerm_30 : decode cX5_endsTerm 30 = .ok (.istore_n 1, 1) := by decide +kernel
theorem dX5_endsTerm_31 : decode cX5_endsTerm 31 = .ok (.iload_n 1, 1) := by decide +kernel
theorem dX5_endsTerm_32 : decode cX5_endsTerm 32 = .ok (.iconst 4, 1) := by decide +kernel
theorem dX5_endsTerm_33 : decode cX5_endsTerm 33 = .ok (.if_icmp .ge 88, 3) := by decide +kernel
theorem dX5_endsTerm_36 : decode cX5_endsTerm 36 = .ok (.aload_n 0, 1) := by decide +kernel
theorem dX5_endsTerm_37 : decode cX5_endsTerm 37 = .ok (.iload_n 1, 1) := by decide +kernel
theorem dX5_endsTerm_38 : decode cX5_endsTerm 38 = .ok (.invokevirtual 141, 3) := by decide +kernel
theorem dX5_endsTerm_41 : decode cX5_endsTerm 41 = .ok (.istore_n 2, 1) := by decide +kernel
theorem dX5_endsTerm_42 : decode cX5_endsTerm 42 = .ok (.aload_n 0, 1) := by decide +kernel
theorem dX5_endsTerm_43 : decode cX5_endsTerm 43 = .ok (.getfield 42, 3) := by decide +kernel
theorem dX5_endsTerm_46 : decode cX5_endsTerm 46 = .ok (.iload_n 1, 1) := by decide +kernel
theorem dX5_endsTerm_47 : decode cX5_endsTerm 47 = .ok (.iconst 0, 1) := by decide +kernel
theorem dX5_endsTerm_48 : decode cX5_endsTerm 48 = .ok (.iastore, 1) := by decide +kernel
theorem dX5_endsTerm_49 : decode cX5_endsTerm 49 = .ok (.aload_n 0, 1) := by decide +kernel
theorem dX5_endsTerm_50 : decode cX5_endsTerm 50 = .ok (.getfield 60, 3) := by decide +kernel
theorem dX5_endsTerm_53 : decode cX5_endsTerm 53 = .ok (.iload_n 1, 1) := by decide +kernel
theorem dX5_endsTerm_54 : decode cX5_endsTerm 54 = .ok (.iconst 0, 1) := by decide +kernel
theorem dX5_endsTerm_55 : decode cX5_endsTerm 55 = .ok (.iastore, 1) := by decide +kernel
theorem dX5_endsTerm_56 : decode cX5_endsTerm 56 = .ok (.aload_n 0, 1) := by decide +kernel
theorem dX5_endsTerm_57 : decode cX5_endsTerm 57 = .ok (.getfield 36, 3) := by decide +kernel
theorem dX5_endsTerm_60 : decode cX5_endsTerm 60 = .ok (.iload_n 1, 1) := by decide +kernel
theorem dX5_endsTerm_61 : decode cX5_endsTerm 61 = .ok (.iconst 0, 1) := by decide +kernel
theorem dX5_endsTerm_62 : decode cX5_endsTerm 62 = .ok (.iastore, 1) := by decide +kernel
theorem dX5_endsTerm_63 : decode cX5_endsTerm 63 = .ok (.aload_n 0, 1) := by decide +kernel
theorem dX5_endsTerm_64 : decode cX5_endsTerm 64 = .ok (.getfield 39, 3) := by decide +kernel
theorem dX5_endsTerm_67 : decode cX5_endsTerm 67 = .ok (.iload_n 1, 1) := by decide +kernel
theorem dX5_endsTerm_68 : decode cX5_endsTerm 68 = .ok (.iconst 0, 1) := by decide +kernel
theorem dX5_endsTerm_69 : decode cX5_endsTerm 69 = .ok (.iastore, 1) := by decide +kernel
theorem dX5_endsTerm_70 : decode cX5_endsTerm 70 = .ok (.aload_n 0, 1) := by decide +kernel
theorem dX5_endsTerm_71 : decode cX5_endsTerm 71 = .ok (.getfield 51, 3) := by decide +kernel
theorem dX5_endsTerm_74 : decode cX5_endsTerm 74 = .ok (.iload_n 1, 1) := by decide +kernel
theorem dX5_endsTerm_75 : decode cX5_endsTerm 75 = .ok (.iconst 0, 1) := by decide +kernel
theorem dX5_endsTerm_76 : decode cX5_endsTerm 76 = .ok (.iastore, 1) := by decide +kernel
theorem dX5_endsTerm_77 : decode cX5_endsTerm 77 = .ok (.aload_n 0, 1) := by decide +kernel
theorem dX5_endsTerm_78 : decode cX5_endsTerm 78 = .ok (.getfield 57, 3) := by decide +kernel
theorem dX5_endsTerm_81 : decode cX5_endsTerm 81 = .ok (.iload_n 1, 1) := by decide +kernel
theorem dX5_endsTerm_82 : decode cX5_endsTerm 82 = .ok (.iconst 0, 1) := by decide +kernel
theorem dX5_endsTerm_83 : decode cX5_endsTerm 83 = .ok (.iastore, 1) := by decide +kernel
theorem dX5_endsTerm_84 : decode cX5_endsTerm 84 = .ok (.aload_n 0, 1) := by decide +kernel
theorem dX5_endsTerm_85 : decode cX5_endsTerm 85 = .ok (.getfield 54, 3) := by decide +kernel
theorem dX5_endsTerm_88 : decode cX5_endsTerm 88 = .ok (.iload_n 1, 1) := by decide +kernel
theorem dX5_endsTerm_89 : decode cX5_endsTerm 89 = .ok (.iload_n 2, 1) := by decide +kernel
theorem dX5_endsTerm_90 : decode cX5_endsTerm 90 = .ok (.ifCond .le 7, 3) := by decide +kernel
theorem dX5_endsTerm_93 : decode cX5_endsTerm 93 = .ok (.iload_n 2, 1) := by decide +kernel
theorem dX5_endsTerm_94 : decode cX5_endsTerm 94 = .ok (.goto 4, 3) := by decide +kernel
theorem dX5_endsTerm_97 : decode cX5_endsTerm 97 = .ok (.iconst 0, 1) := by decide +kernel
theorem dX5_endsTerm_98 : decode cX5_endsTerm 98 = .ok (.iastore, 1) := by decide +kernel
theorem dX5_endsTerm_99 : decode cX5_endsTerm 99 = .ok (.aload_n 0, 1) := by decide +kernel
theorem dX5_endsTerm_100 : decode cX5_endsTerm 100 = .ok (.getfield 69, 3) := by decide +kernel
theorem dX5_endsTerm_103 : decode cX5_endsTerm 103 = .ok (.iload_n 1, 1) := by decide +kernel
theorem dX5_endsTerm_104 : decode cX5_endsTerm 104 = .ok (.iload_n 2, 1) := by decide +kernel
theorem dX5_endsTerm_105 : decode cX5_endsTerm 105 = .ok (.ifCond .ge 8, 3) := by decide +kernel
theorem dX5_endsTerm_108 : decode cX5_endsTerm 108 = .ok (.iload_n 2, 1) := by decide +kernel
theorem dX5_endsTerm_109 : decode cX5_endsTerm 109 = .ok (.ineg, 1) := by decide +kernel
theorem dX5_endsTerm_110 : decode cX5_endsTerm 110 = .ok (.goto 4, 3) := by decide +kernel
theorem dX5_endsTerm_113 : decode cX5_endsTerm 113 = .ok (.iconst 0, 1) := by decide +kernel
theorem dX5_endsTerm_114 : decode cX5_endsTerm 114 = .ok (.iastore, 1) := by decide +kernel
theorem dX5_endsTerm_115 : decode cX5_endsTerm 115 = .ok (.iinc 1 1, 3) := by decide +kernel
theorem dX5_endsTerm_118 : decode cX5_endsTerm 118 = .ok (.goto (-87), 3) := by decide +kernel
theorem dX5_endsTerm_121 : decode cX5_endsTerm 121 = .ok (.aload_n 0, 1) := by decide +kernel
theorem dX5_endsTerm_122 : decode cX5_endsTerm 122 = .ok (.iconst 0, 1) := by decide +kernel
theorem dX5_endsTerm_123 : decode cX5_endsTerm 123 = .ok (.putfield 133, 3) := by decide +kernel
theorem dX5_endsTerm_126 : decode cX5_endsTerm 126 = .ok (.aload_n 0, 1) := by decide +kernel
theorem dX5_endsTerm_127 : decode cX5_endsTerm 127 = .ok (.dup, 1) := by decide +kernel
theorem dX5_endsTerm_128 : decode cX5_endsTerm 128 = .ok (.getfield 144, 3) := by decide +kernel
theorem dX5_endsTerm_131 : decode cX5_endsTerm 131 = .ok (.iconst 1, 1) := by decide +kernel
theorem dX5_endsTerm_132 : decode cX5_endsTerm 132 = .ok (.iadd, 1) := by decide +kernel
theorem dX5_endsTerm_133 : decode cX5_endsTerm 133 = .ok (.putfield 144, 3) := by decide +kernel
theorem dX5_endsTerm_136 : decode cX5_endsTerm 136 = .ok (.return_, 1) := by decide +kernel
set_option maxRecDepth 20000 in
theorem ggX5_falls_X5_in : GoodIn wsX5_falls wsX5_in := goodIn_r _ [13] (by decide +kernel) (by decide +kernel)
set_option maxRecDepth 20000 in
theorem gX5_falls_X5_in : GoodIn wsX5_falls (va_wsS RX5 90 yX5_in wsX5_in) := goodIn_app (goodIn_of _ (by decide +kernel)) ggX5_falls_X5_in
theorem dX5_falls_0 : decode cX5_falls 0 = .ok (.bipush 16, 2) := by decide +kernel
theorem dX5_falls_2 : decode cX5_falls 2 = .ok (.aload_n 0, 1) := by decide +kernel
theorem dX5_falls_3 : decode cX5_falls 3 = .ok (.getfield 144, 3) := by decide +kernel
theorem dX5_falls_6 : decode cX5_falls 6 = .ok (.imul, 1) := by decide +kernel
theorem dX5_falls_7 : decode cX5_falls 7 = .ok (.aload_n 0, 1) := by decide +kernel
theorem dX5_falls_8 : decode cX5_falls 8 = .ok (.getfield 133, 3) := by decide +kernel
theorem dX5_falls_11 : decode cX5_falls 11 = .ok (.iadd, 1) := by decide +kernel
theorem dX5_falls_12 : decode cX5_falls 12 = .ok (.aload_n 0, 1) := by decide +kernel
theorem dX5_falls_13 : decode cX5_falls 13 = .ok (.getfield 81, 3) := by decide +kernel
theorem dX5_falls_16 : decode cX5_falls 16 = .ok (.iload_n 1, 1) := by decide +kernel
theorem dX5_falls_17 : decode cX5_falls 17 = .ok (.iaload, 1) := by decide +kernel
theorem dX5_falls_18 : decode cX5_falls 18 = .ok (.isub, 1) := by decide +kernel
theorem dX5_falls_19 : decode cX5_falls 19 = .ok (.istore_n 2, 1) := by decide +kernel
theorem dX5_falls_20 : decode cX5_falls 20 = .ok (.iload_n 2, 1) := by decide +kernel
theorem dX5_falls_21 : decode cX5_falls 21 = .ok (.iconst 2, 1) := by decide +kernel
theorem dX5_falls_22 : decode cX5_falls 22 = .ok (.idiv, 1) := by decide +kernel
theorem dX5_falls_23 : decode cX5_falls 23 = .ok (.istore_n 3, 1) := by decide +kernel
theorem dX5_falls_24 : decode cX5_falls 24 = .ok (.iload_n 2, 1) := by decide +kernel
theorem dX5_falls_25 : decode cX5_falls 25 = .ok (.iconst 2, 1) := by decide +kernel
theorem dX5_falls_26 : decode cX5_falls 26 = .ok (.irem, 1) := by decide +kernel
theorem dX5_falls_27 : decode cX5_falls 27 = .ok (.ifCond .ne 54, 3) := by decide +kernel
theorem dX5_falls_30 : decode cX5_falls 30 = .ok (.iload_n 3, 1) := by decide +kernel
theorem dX5_falls_31 : decode cX5_falls 31 = .ok (.iconst 1, 1) := by decide +kernel
theorem dX5_falls_32 : decode cX5_falls 32 = .ok (.aload_n 0, 1) := by decide +kernel
theorem dX5_falls_33 : decode cX5_falls 33 = .ok (.getfield 72, 3) := by decide +kernel
theorem dX5_falls_36 : decode cX5_falls 36 = .ok (.iload_n 1, 1) := by decide +kernel
theorem dX5_falls_37 : decode cX5_falls 37 = .ok (.iaload, 1) := by decide +kernel
theorem dX5_falls_38 : decode cX5_falls 38 = .ok (.invokestatic 90, 3) := by decide +kernel
theorem dX5_falls_41 : decode cX5_falls 41 = .ok (.ifCond .eq 40, 3) := by decide +kernel
theorem dX5_falls_44 : decode cX5_falls 44 = .ok (.aload_n 0, 1) := by decide +kernel
theorem dX5_falls_45 : decode cX5_falls 45 = .ok (.getfield 84, 3) := by decide +kernel
theorem dX5_falls_48 : decode cX5_falls 48 = .ok (.iload_n 1, 1) := by decide +kernel
theorem dX5_falls_49 : decode cX5_falls 49 = .ok (.iaload, 1) := by decide +kernel
theorem dX5_falls_50 : decode cX5_falls 50 = .ok (.iload_n 3, 1) := by decide +kernel
theorem dX5_falls_51 : decode cX5_falls 51 = .ok (.aload_n 0, 1) := by decide +kernel
theorem dX5_falls_52 : decode cX5_falls 52 = .ok (.getfield 75, 3) := by decide +kernel
theorem dX5_falls_55 : decode cX5_falls 55 = .ok (.iload_n 1, 1) := by decide +kernel
theorem dX5_falls_56 : decode cX5_falls 56 = .ok (.iaload, 1) := by decide +kernel
theorem dX5_falls_57 : decode cX5_falls 57 = .ok (.imul, 1) := by decide +kernel
theorem dX5_falls_58 : decode cX5_falls 58 = .ok (.aload_n 0, 1) := by decide +kernel
theorem dX5_falls_59 : decode cX5_falls 59 = .ok (.getfield 78, 3) := by decide +kernel
theorem dX5_falls_62 : decode cX5_falls 62 = .ok (.iload_n 1, 1) := by decide +kernel
theorem dX5_falls_63 : decode cX5_falls 63 = .ok (.iaload, 1) := by decide +kernel
theorem dX5_falls_64 : decode cX5_falls 64 = .ok (.iadd, 1) := by decide +kernel
theorem dX5_falls_65 : decode cX5_falls 65 = .ok (.if_icmp .ge 16, 3) := by decide +kernel
theorem dX5_falls_68 : decode cX5_falls 68 = .ok (.aload_n 0, 1) := by decide +kernel
theorem dX5_falls_69 : decode cX5_falls 69 = .ok (.getfield 54, 3) := by decide +kernel
theorem dX5_falls_72 : decode cX5_falls 72 = .ok (.iload_n 1, 1) := by decide +kernel
theorem dX5_falls_73 : decode cX5_falls 73 = .ok (.dup2, 1) := by decide +kernel
theorem dX5_falls_74 : decode cX5_falls 74 = .ok (.iaload, 1) := by decide +kernel
theorem dX5_falls_75 : decode cX5_falls 75 = .ok (.aload_n 0, 1) := by decide +kernel
theorem dX5_falls_76 : decode cX5_falls 76 = .ok (.getfield 23, 3) := by decide +kernel
theorem dX5_falls_79 : decode cX5_falls 79 = .ok (.iadd, 1) := by decide +kernel
theorem dX5_falls_80 : decode cX5_falls 80 = .ok (.iastore, 1) := by decide +kernel
theorem dX5_falls_81 : decode cX5_falls 81 = .ok (.return_, 1) := by decide +kernel
set_option maxRecDepth 20000 in
theorem ggX5_closeWeek_X5_holds : GoodIn wsX5_closeWeek wsX5_holds := goodIn_r _ [7, 8, 82, 83, 84, 85, 86, 87, 88, 89, 90, 91, 92, 93, 94, 95, 96, 97, 98, 99, 100, 101, 102, 103, 104, 105, 106, 107, 108, 109, 110] (by decide +kernel) (by decide +kernel)
set_option maxRecDepth 20000 in
theorem gX5_closeWeek_X5_holds : GoodIn wsX5_closeWeek (wsV RX5 95 RX5 yX5_holds wsX5_holds) := goodIn_app (goodIn_of _ (by decide +kernel)) ggX5_closeWeek_X5_holds
set_option maxRecDepth 20000 in
theorem ggX5_closeWeek_X5_endsTerm : GoodIn wsX5_closeWeek wsX5_endsTerm := goodIn_r _ [12, 13, 14, 15, 16, 17, 18, 19, 20, 1, 2, 21, 22, 23, 6, 24, 25, 26, 27, 28, 29, 30, 31, 32, 33, 34, 35, 36, 37, 38, 39, 40, 41, 42, 43, 44, 45, 46, 47, 48, 49, 50, 51, 52, 53, 54, 55, 56, 57, 58, 59, 60, 61, 62, 63, 64, 65, 66, 67, 68, 82, 83, 84, 85, 86, 87, 88, 89, 90, 91, 92, 93, 94, 95, 96, 97, 98, 99, 100, 101, 102, 103, 104, 105, 106, 107, 108, 109, 110] (by decide +kernel) (by decide +kernel)
set_option maxRecDepth 20000 in
theorem gX5_closeWeek_X5_endsTerm : GoodIn wsX5_closeWeek (wsV RX5 151 RX5 yX5_endsTerm wsX5_endsTerm) := goodIn_app (goodIn_of _ (by decide +kernel)) ggX5_closeWeek_X5_endsTerm
set_option maxRecDepth 20000 in
theorem ggX5_closeWeek_X5_falls : GoodIn wsX5_closeWeek wsX5_falls := goodIn_r _ [72, 2, 1, 73, 74, 75, 76, 77, 19, 78, 79, 80, 6, 81, 82, 83, 84, 85, 86, 87, 88, 89, 90, 91, 92, 93, 94, 95, 96, 97, 98, 99, 100, 101, 102, 103, 104, 105, 106, 107, 108, 109, 110] (by decide +kernel) (by decide +kernel)
set_option maxRecDepth 20000 in
theorem gX5_closeWeek_X5_falls : GoodIn wsX5_closeWeek (wsV RX5 154 RX5 yX5_falls wsX5_falls) := goodIn_app (goodIn_of _ (by decide +kernel)) ggX5_closeWeek_X5_falls
theorem dX5_closeWeek_0 : decode cX5_closeWeek 0 = .ok (.aload_n 0, 1) := by decide +kernel
theorem dX5_closeWeek_1 : decode cX5_closeWeek 1 = .ok (.aload_n 0, 1) := by decide +kernel
theorem dX5_closeWeek_2 : decode cX5_closeWeek 2 = .ok (.getfield 133, 3) := by decide +kernel
theorem dX5_closeWeek_5 : decode cX5_closeWeek 5 = .ok (.bipush 15, 2) := by decide +kernel
theorem dX5_closeWeek_7 : decode cX5_closeWeek 7 = .ok (.if_icmp .ne 16, 3) := by decide +kernel
theorem dX5_closeWeek_10 : decode cX5_closeWeek 10 = .ok (.aload_n 0, 1) := by decide +kernel
theorem dX5_closeWeek_11 : decode cX5_closeWeek 11 = .ok (.getfield 144, 3) := by decide +kernel
theorem dX5_closeWeek_14 : decode cX5_closeWeek 14 = .ok (.bipush 9, 2) := by decide +kernel
theorem dX5_closeWeek_16 : decode cX5_closeWeek 16 = .ok (.if_icmp .ne 7, 3) := by decide +kernel
theorem dX5_closeWeek_19 : decode cX5_closeWeek 19 = .ok (.iconst 1, 1) := by decide +kernel
theorem dX5_closeWeek_20 : decode cX5_closeWeek 20 = .ok (.goto 4, 3) := by decide +kernel
theorem dX5_closeWeek_23 : decode cX5_closeWeek 23 = .ok (.iconst 0, 1) := by decide +kernel
theorem dX5_closeWeek_24 : decode cX5_closeWeek 24 = .ok (.invokevirtual 95, 3) := by decide +kernel
theorem dX5_closeWeek_27 : decode cX5_closeWeek 27 = .ok (.ifCond .ne 5, 3) := by decide +kernel
theorem dX5_closeWeek_30 : decode cX5_closeWeek 30 = .ok (.iconst 0, 1) := by decide +kernel
theorem dX5_closeWeek_31 : decode cX5_closeWeek 31 = .ok (.ireturn, 1) := by decide +kernel
theorem dX5_closeWeek_32 : decode cX5_closeWeek 32 = .ok (.aload_n 0, 1) := by decide +kernel
theorem dX5_closeWeek_33 : decode cX5_closeWeek 33 = .ok (.getfield 133, 3) := by decide +kernel
theorem dX5_closeWeek_36 : decode cX5_closeWeek 36 = .ok (.bipush 15, 2) := by decide +kernel
theorem dX5_closeWeek_38 : decode cX5_closeWeek 38 = .ok (.if_icmp .ne 10, 3) := by decide +kernel
theorem dX5_closeWeek_41 : decode cX5_closeWeek 41 = .ok (.aload_n 0, 1) := by decide +kernel
theorem dX5_closeWeek_42 : decode cX5_closeWeek 42 = .ok (.invokevirtual 151, 3) := by decide +kernel
theorem dX5_closeWeek_45 : decode cX5_closeWeek 45 = .ok (.goto 13, 3) := by decide +kernel
theorem dX5_closeWeek_48 : decode cX5_closeWeek 48 = .ok (.aload_n 0, 1) := by decide +kernel
theorem dX5_closeWeek_49 : decode cX5_closeWeek 49 = .ok (.dup, 1) := by decide +kernel
theorem dX5_closeWeek_50 : decode cX5_closeWeek 50 = .ok (.getfield 133, 3) := by decide +kernel
theorem dX5_closeWeek_53 : decode cX5_closeWeek 53 = .ok (.iconst 1, 1) := by decide +kernel
theorem dX5_closeWeek_54 : decode cX5_closeWeek 54 = .ok (.iadd, 1) := by decide +kernel
theorem dX5_closeWeek_55 : decode cX5_closeWeek 55 = .ok (.putfield 133, 3) := by decide +kernel
theorem dX5_closeWeek_58 : decode cX5_closeWeek 58 = .ok (.iconst 0, 1) := by decide +kernel
theorem dX5_closeWeek_59 : decode cX5_closeWeek 59 = .ok (.istore_n 1, 1) := by decide +kernel
theorem dX5_closeWeek_60 : decode cX5_closeWeek 60 = .ok (.iload_n 1, 1) := by decide +kernel
theorem dX5_closeWeek_61 : decode cX5_closeWeek 61 = .ok (.iconst 4, 1) := by decide +kernel
theorem dX5_closeWeek_62 : decode cX5_closeWeek 62 = .ok (.if_icmp .ge 14, 3) := by decide +kernel
theorem dX5_closeWeek_65 : decode cX5_closeWeek 65 = .ok (.aload_n 0, 1) := by decide +kernel
theorem dX5_closeWeek_66 : decode cX5_closeWeek 66 = .ok (.iload_n 1, 1) := by decide +kernel
theorem dX5_closeWeek_67 : decode cX5_closeWeek 67 = .ok (.invokevirtual 154, 3) := by decide +kernel
theorem dX5_closeWeek_70 : decode cX5_closeWeek 70 = .ok (.iinc 1 1, 3) := by decide +kernel
theorem dX5_closeWeek_73 : decode cX5_closeWeek 73 = .ok (.goto (-13), 3) := by decide +kernel
theorem dX5_closeWeek_76 : decode cX5_closeWeek 76 = .ok (.aload_n 0, 1) := by decide +kernel
theorem dX5_closeWeek_77 : decode cX5_closeWeek 77 = .ok (.getfield 133, 3) := by decide +kernel
theorem dX5_closeWeek_80 : decode cX5_closeWeek 80 = .ok (.ireturn, 1) := by decide +kernel
theorem dX5_week_0 : decode cX5_week 0 = .ok (.aload_n 0, 1) := by decide +kernel
theorem dX5_week_1 : decode cX5_week 1 = .ok (.iconst 0, 1) := by decide +kernel
theorem dX5_week_2 : decode cX5_week 2 = .ok (.putfield 87, 3) := by decide +kernel
theorem dX5_week_5 : decode cX5_week 5 = .ok (.aload_n 0, 1) := by decide +kernel
theorem dX5_week_6 : decode cX5_week 6 = .ok (.getfield 133, 3) := by decide +kernel
theorem dX5_week_9 : decode cX5_week 9 = .ok (.ireturn, 1) := by decide +kernel
theorem dX5_term_0 : decode cX5_term 0 = .ok (.aload_n 0, 1) := by decide +kernel
theorem dX5_term_1 : decode cX5_term 1 = .ok (.iconst 0, 1) := by decide +kernel
theorem dX5_term_2 : decode cX5_term 2 = .ok (.putfield 87, 3) := by decide +kernel
theorem dX5_term_5 : decode cX5_term 5 = .ok (.aload_n 0, 1) := by decide +kernel
theorem dX5_term_6 : decode cX5_term 6 = .ok (.getfield 144, 3) := by decide +kernel
theorem dX5_term_9 : decode cX5_term 9 = .ok (.ireturn, 1) := by decide +kernel
set_option maxRecDepth 20000 in
theorem ggX5_credits_X5_isStudent : GoodIn wsX5_credits wsX5_isStudent := goodIn_r _ [4, 5, 6, 3, 7] (by decide +kernel) (by decide +kernel)
set_option maxRecDepth 20000 in
theorem gX5_credits_X5_isStudent : GoodIn wsX5_credits (va_wsS RX5 107 yX5_isStudent wsX5_isStudent) := goodIn_app (goodIn_of _ (by decide +kernel)) ggX5_credits_X5_isStudent
set_option maxRecDepth 20000 in
theorem ggX5_credits_X5_holds : GoodIn wsX5_credits wsX5_holds := goodIn_r _ [11, 12, 20, 21, 22, 23, 24, 25, 26, 27, 28, 29, 30, 31, 32, 33, 34, 35, 36, 37, 38, 39, 40, 41, 42, 43, 44, 45, 46, 47, 48] (by decide +kernel) (by decide +kernel)
set_option maxRecDepth 20000 in
theorem gX5_credits_X5_holds : GoodIn wsX5_credits (wsV RX5 95 RX5 yX5_holds wsX5_holds) := goodIn_app (goodIn_of _ (by decide +kernel)) ggX5_credits_X5_holds
set_option maxRecDepth 20000 in
theorem ggX5_credits_X5_creditsOf : GoodIn wsX5_credits wsX5_creditsOf := goodIn_r _ [16, 17, 18, 19, 20, 21, 22, 23, 24, 25, 26, 27, 28, 29, 30, 31, 32, 33, 34, 35, 36, 37, 38, 39, 40, 41, 42, 43, 44, 45, 46, 47, 48] (by decide +kernel) (by decide +kernel)
set_option maxRecDepth 20000 in
theorem gX5_credits_X5_creditsOf : GoodIn wsX5_credits (wsV RX5 110 RX5 yX5_creditsOf wsX5_creditsOf) := goodIn_app (goodIn_of _ (by decide +kernel)) ggX5_credits_X5_creditsOf
theorem dX5_credits_0 : decode cX5_credits 0 = .ok (.aload_n 0, 1) := by decide +kernel
theorem dX5_credits_1 : decode cX5_credits 1 = .ok (.iload_n 1, 1) := by decide +kernel
theorem dX5_credits_2 : decode cX5_credits 2 = .ok (.invokestatic 107, 3) := by decide +kernel
theorem dX5_credits_5 : decode cX5_credits 5 = .ok (.ifCond .eq 7, 3) := by decide +kernel
theorem dX5_credits_8 : decode cX5_credits 8 = .ok (.iconst 0, 1) := by decide +kernel
theorem dX5_credits_9 : decode cX5_credits 9 = .ok (.goto 4, 3) := by decide +kernel
theorem dX5_credits_12 : decode cX5_credits 12 = .ok (.iconst 1, 1) := by decide +kernel
theorem dX5_credits_13 : decode cX5_credits 13 = .ok (.invokevirtual 95, 3) := by decide +kernel
theorem dX5_credits_16 : decode cX5_credits 16 = .ok (.ifCond .eq 11, 3) := by decide +kernel
theorem dX5_credits_19 : decode cX5_credits 19 = .ok (.aload_n 0, 1) := by decide +kernel
theorem dX5_credits_20 : decode cX5_credits 20 = .ok (.iload_n 1, 1) := by decide +kernel
theorem dX5_credits_21 : decode cX5_credits 21 = .ok (.invokevirtual 110, 3) := by decide +kernel
theorem dX5_credits_24 : decode cX5_credits 24 = .ok (.goto 4, 3) := by decide +kernel
theorem dX5_credits_27 : decode cX5_credits 27 = .ok (.iconst 0, 1) := by decide +kernel
theorem dX5_credits_28 : decode cX5_credits 28 = .ok (.ireturn, 1) := by decide +kernel
set_option maxRecDepth 20000 in
theorem ggX5_charged_X5_isStudent : GoodIn wsX5_charged wsX5_isStudent := goodIn_r _ [4, 5, 6, 3, 7] (by decide +kernel) (by decide +kernel)
set_option maxRecDepth 20000 in
theorem gX5_charged_X5_isStudent : GoodIn wsX5_charged (va_wsS RX5 107 yX5_isStudent wsX5_isStudent) := goodIn_app (goodIn_of _ (by decide +kernel)) ggX5_charged_X5_isStudent
set_option maxRecDepth 20000 in
theorem ggX5_charged_X5_in : GoodIn wsX5_charged wsX5_in := goodIn_r _ [7] (by decide +kernel) (by decide +kernel)
set_option maxRecDepth 20000 in
theorem gX5_charged_X5_in : GoodIn wsX5_charged (va_wsS RX5 90 yX5_in wsX5_in) := goodIn_app (goodIn_of _ (by decide +kernel)) ggX5_charged_X5_in
set_option maxRecDepth 20000 in
theorem ggX5_charged_X5_holds : GoodIn wsX5_charged wsX5_holds := goodIn_r _ [11, 12, 39, 40, 41, 42, 43, 44, 45, 46, 47, 48, 49, 50, 51, 52, 53, 54, 55, 56, 57, 58, 59, 60, 61, 62, 63, 64, 65, 66, 67] (by decide +kernel) (by decide +kernel)
set_option maxRecDepth 20000 in
theorem gX5_charged_X5_holds : GoodIn wsX5_charged (wsV RX5 95 RX5 yX5_holds wsX5_holds) := goodIn_app (goodIn_of _ (by decide +kernel)) ggX5_charged_X5_holds
set_option maxRecDepth 20000 in
theorem ggX5_charged_X5_chargedOf : GoodIn wsX5_charged wsX5_chargedOf := goodIn_r _ [16, 17, 18, 19, 20, 21, 22, 3, 23, 24, 25, 26, 27, 28, 29, 30, 31, 32, 33, 34, 35, 36, 37, 38, 39, 40, 41, 42, 43, 44, 45, 46, 47, 48, 49, 50, 51, 52, 53, 54, 55, 56, 57, 58, 59, 60, 61, 62, 63, 64, 65, 66, 67] (by decide +kernel) (by decide +kernel)
set_option maxRecDepth 20000 in
theorem gX5_charged_X5_chargedOf : GoodIn wsX5_charged (wsV RX5 118 RX5 yX5_chargedOf wsX5_chargedOf) := goodIn_app (goodIn_of _ (by decide +kernel)) ggX5_charged_X5_chargedOf
theorem dX5_charged_0 : decode cX5_charged 0 = .ok (.aload_n 0, 1) := by decide +kernel
theorem dX5_charged_1 : decode cX5_charged 1 = .ok (.iload_n 1, 1) := by decide +kernel
theorem dX5_charged_2 : decode cX5_charged 2 = .ok (.invokestatic 107, 3) := by decide +kernel
theorem dX5_charged_5 : decode cX5_charged 5 = .ok (.ifCond .ne 7, 3) := by decide +kernel
theorem dX5_charged_8 : decode cX5_charged 8 = .ok (.iconst 1, 1) := by decide +kernel
theorem dX5_charged_9 : decode cX5_charged 9 = .ok (.goto 17, 3) := by decide +kernel
theorem dX5_charged_12 : decode cX5_charged 12 = .ok (.iload_n 2, 1) := by decide +kernel
theorem dX5_charged_13 : decode cX5_charged 13 = .ok (.iconst 0, 1) := by decide +kernel
theorem dX5_charged_14 : decode cX5_charged 14 = .ok (.iconst 2, 1) := by decide +kernel
theorem dX5_charged_15 : decode cX5_charged 15 = .ok (.invokestatic 90, 3) := by decide +kernel
theorem dX5_charged_18 : decode cX5_charged 18 = .ok (.ifCond .eq 7, 3) := by decide +kernel
theorem dX5_charged_21 : decode cX5_charged 21 = .ok (.iconst 0, 1) := by decide +kernel
theorem dX5_charged_22 : decode cX5_charged 22 = .ok (.goto 4, 3) := by decide +kernel
theorem dX5_charged_25 : decode cX5_charged 25 = .ok (.iconst 2, 1) := by decide +kernel
theorem dX5_charged_26 : decode cX5_charged 26 = .ok (.invokevirtual 95, 3) := by decide +kernel
theorem dX5_charged_29 : decode cX5_charged 29 = .ok (.ifCond .eq 12, 3) := by decide +kernel
theorem dX5_charged_32 : decode cX5_charged 32 = .ok (.aload_n 0, 1) := by decide +kernel
theorem dX5_charged_33 : decode cX5_charged 33 = .ok (.iload_n 1, 1) := by decide +kernel
theorem dX5_charged_34 : decode cX5_charged 34 = .ok (.iload_n 2, 1) := by decide +kernel
theorem dX5_charged_35 : decode cX5_charged 35 = .ok (.invokevirtual 118, 3) := by decide +kernel
theorem dX5_charged_38 : decode cX5_charged 38 = .ok (.goto 4, 3) := by decide +kernel
theorem dX5_charged_41 : decode cX5_charged 41 = .ok (.iconst 0, 1) := by decide +kernel
theorem dX5_charged_42 : decode cX5_charged 42 = .ok (.ireturn, 1) := by decide +kernel
set_option maxRecDepth 20000 in
theorem ggX5_sponsored_X5_isStudent : GoodIn wsX5_sponsored wsX5_isStudent := goodIn_r _ [4, 5, 6, 3, 7] (by decide +kernel) (by decide +kernel)
set_option maxRecDepth 20000 in
theorem gX5_sponsored_X5_isStudent : GoodIn wsX5_sponsored (va_wsS RX5 107 yX5_isStudent wsX5_isStudent) := goodIn_app (goodIn_of _ (by decide +kernel)) ggX5_sponsored_X5_isStudent
set_option maxRecDepth 20000 in
theorem ggX5_sponsored_X5_holds : GoodIn wsX5_sponsored wsX5_holds := goodIn_r _ [11, 12, 48, 49, 50, 51, 52, 53, 54, 55, 56, 57, 58, 59, 60, 61, 62, 63, 64, 65, 66, 67, 68, 69, 70, 71, 72, 73, 74, 75, 76] (by decide +kernel) (by decide +kernel)
set_option maxRecDepth 20000 in
theorem gX5_sponsored_X5_holds : GoodIn wsX5_sponsored (wsV RX5 95 RX5 yX5_holds wsX5_holds) := goodIn_app (goodIn_of _ (by decide +kernel)) ggX5_sponsored_X5_holds
set_option maxRecDepth 20000 in
theorem ggX5_sponsored_X5_sponsoredOf : GoodIn wsX5_sponsored wsX5_sponsoredOf := goodIn_r _ [16, 17, 18, 19, 20, 21, 3, 22, 23, 24, 25, 26, 27, 28, 29, 30, 31, 32, 33, 34, 35, 36, 37, 38, 39, 40, 41, 42, 43, 44, 45, 46, 47, 48, 49, 50, 51, 52, 53, 54, 55, 56, 57, 58, 59, 60, 61, 62, 63, 64, 65, 66, 67, 68, 69, 70, 71, 72, 73, 74, 75, 76] (by decide +kernel) (by decide +kernel)
set_option maxRecDepth 20000 in
theorem gX5_sponsored_X5_sponsoredOf : GoodIn wsX5_sponsored (wsV RX5 127 RX5 yX5_sponsoredOf wsX5_sponsoredOf) := goodIn_app (goodIn_of _ (by decide +kernel)) ggX5_sponsored_X5_sponsoredOf
theorem dX5_sponsored_0 : decode cX5_sponsored 0 = .ok (.aload_n 0, 1) := by decide +kernel
theorem dX5_sponsored_1 : decode cX5_sponsored 1 = .ok (.iload_n 1, 1) := by decide +kernel
theorem dX5_sponsored_2 : decode cX5_sponsored 2 = .ok (.invokestatic 107, 3) := by decide +kernel
theorem dX5_sponsored_5 : decode cX5_sponsored 5 = .ok (.ifCond .eq 7, 3) := by decide +kernel
theorem dX5_sponsored_8 : decode cX5_sponsored 8 = .ok (.iconst 0, 1) := by decide +kernel
theorem dX5_sponsored_9 : decode cX5_sponsored 9 = .ok (.goto 4, 3) := by decide +kernel
theorem dX5_sponsored_12 : decode cX5_sponsored 12 = .ok (.iconst 1, 1) := by decide +kernel
theorem dX5_sponsored_13 : decode cX5_sponsored 13 = .ok (.invokevirtual 95, 3) := by decide +kernel
theorem dX5_sponsored_16 : decode cX5_sponsored 16 = .ok (.ifCond .eq 11, 3) := by decide +kernel
theorem dX5_sponsored_19 : decode cX5_sponsored 19 = .ok (.aload_n 0, 1) := by decide +kernel
theorem dX5_sponsored_20 : decode cX5_sponsored 20 = .ok (.iload_n 1, 1) := by decide +kernel
theorem dX5_sponsored_21 : decode cX5_sponsored 21 = .ok (.invokevirtual 127, 3) := by decide +kernel
theorem dX5_sponsored_24 : decode cX5_sponsored 24 = .ok (.goto 4, 3) := by decide +kernel
theorem dX5_sponsored_27 : decode cX5_sponsored 27 = .ok (.iconst 0, 1) := by decide +kernel
theorem dX5_sponsored_28 : decode cX5_sponsored 28 = .ok (.ireturn, 1) := by decide +kernel
set_option maxRecDepth 20000 in
theorem ggX5_isAward_X5_isStudent : GoodIn wsX5_isAward wsX5_isStudent := goodIn_r _ [5, 6, 7, 4, 8] (by decide +kernel) (by decide +kernel)
set_option maxRecDepth 20000 in
theorem gX5_isAward_X5_isStudent : GoodIn wsX5_isAward (va_wsS RX5 107 yX5_isStudent wsX5_isStudent) := goodIn_app (goodIn_of _ (by decide +kernel)) ggX5_isAward_X5_isStudent
set_option maxRecDepth 20000 in
theorem ggX5_isAward_X5_in : GoodIn wsX5_isAward wsX5_in := goodIn_r _ [8] (by decide +kernel) (by decide +kernel)
set_option maxRecDepth 20000 in
theorem gX5_isAward_X5_in : GoodIn wsX5_isAward (va_wsS RX5 90 yX5_in wsX5_in) := goodIn_app (goodIn_of _ (by decide +kernel)) ggX5_isAward_X5_in
set_option maxRecDepth 20000 in
theorem ggX5_isAward_X5_holds : GoodIn wsX5_isAward wsX5_holds := goodIn_r _ [12, 13, 14, 15, 16, 17, 18, 19, 20, 21, 22, 23, 24, 25, 26, 27, 28, 29, 30, 31, 32, 33, 34, 35, 36, 37, 38, 39, 40, 41, 42] (by decide +kernel) (by decide +kernel)
set_option maxRecDepth 20000 in
theorem gX5_isAward_X5_holds : GoodIn wsX5_isAward (wsV RX5 95 RX5 yX5_holds wsX5_holds) := goodIn_app (goodIn_of _ (by decide +kernel)) ggX5_isAward_X5_holds
theorem dX5_isAward_0 : decode cX5_isAward 0 = .ok (.aload_n 0, 1) := by decide +kernel
theorem dX5_isAward_1 : decode cX5_isAward 1 = .ok (.iload_n 1, 1) := by decide +kernel
theorem dX5_isAward_2 : decode cX5_isAward 2 = .ok (.invokestatic 107, 3) := by decide +kernel
theorem dX5_isAward_5 : decode cX5_isAward 5 = .ok (.ifCond .eq 23, 3) := by decide +kernel
theorem dX5_isAward_8 : decode cX5_isAward 8 = .ok (.iload_n 2, 1) := by decide +kernel
theorem dX5_isAward_9 : decode cX5_isAward 9 = .ok (.iconst 0, 1) := by decide +kernel
theorem dX5_isAward_10 : decode cX5_isAward 10 = .ok (.aload_n 0, 1) := by decide +kernel
theorem dX5_isAward_11 : decode cX5_isAward 11 = .ok (.getfield 60, 3) := by decide +kernel
theorem dX5_isAward_14 : decode cX5_isAward 14 = .ok (.iload_n 1, 1) := by decide +kernel
theorem dX5_isAward_15 : decode cX5_isAward 15 = .ok (.iaload, 1) := by decide +kernel
theorem dX5_isAward_16 : decode cX5_isAward 16 = .ok (.iconst 1, 1) := by decide +kernel
theorem dX5_isAward_17 : decode cX5_isAward 17 = .ok (.isub, 1) := by decide +kernel
theorem dX5_isAward_18 : decode cX5_isAward 18 = .ok (.invokestatic 90, 3) := by decide +kernel
theorem dX5_isAward_21 : decode cX5_isAward 21 = .ok (.ifCond .eq 7, 3) := by decide +kernel
theorem dX5_isAward_24 : decode cX5_isAward 24 = .ok (.iconst 0, 1) := by decide +kernel
theorem dX5_isAward_25 : decode cX5_isAward 25 = .ok (.goto 4, 3) := by decide +kernel
theorem dX5_isAward_28 : decode cX5_isAward 28 = .ok (.iconst 1, 1) := by decide +kernel
theorem dX5_isAward_29 : decode cX5_isAward 29 = .ok (.invokevirtual 95, 3) := by decide +kernel
theorem dX5_isAward_32 : decode cX5_isAward 32 = .ok (.ireturn, 1) := by decide +kernel
set_option maxRecDepth 20000 in
theorem ggX5_used_X5_isAward : GoodIn wsX5_used wsX5_isAward := goodIn_r _ [5, 6, 7, 8, 4, 9, 10, 11, 12, 13, 14, 15, 16, 17, 64, 65, 66, 67, 68, 69, 70, 71, 72, 73, 74, 75, 76, 77, 78, 79, 80, 81, 82, 83, 84, 85, 86, 87, 88, 89, 90, 91, 92] (by decide +kernel) (by decide +kernel)
set_option maxRecDepth 20000 in
theorem gX5_used_X5_isAward : GoodIn wsX5_used (wsV RX5 158 RX5 yX5_isAward wsX5_isAward) := goodIn_app (goodIn_of _ (by decide +kernel)) ggX5_used_X5_isAward
set_option maxRecDepth 20000 in
theorem ggX5_used_X5_usedOf : GoodIn wsX5_used wsX5_usedOf := goodIn_r _ [21, 22, 6, 23, 24, 25, 26, 27, 4, 28, 29, 30, 31, 32, 33, 34, 35, 36, 37, 38, 39, 40, 41, 42, 43, 44, 45, 46, 47, 48, 49, 50, 51, 52, 53, 54, 55, 56, 57, 58, 59, 60, 61, 62, 63, 64, 65, 66, 67, 68, 69, 70, 71, 72, 73, 74, 75, 76, 77, 78, 79, 80, 81, 82, 83, 84, 85, 86, 87, 88, 89, 90, 91, 92] (by decide +kernel) (by decide +kernel)
set_option maxRecDepth 20000 in
theorem gX5_used_X5_usedOf : GoodIn wsX5_used (wsV RX5 130 RX5 yX5_usedOf wsX5_usedOf) := goodIn_app (goodIn_of _ (by decide +kernel)) ggX5_used_X5_usedOf
theorem dX5_used_0 : decode cX5_used 0 = .ok (.aload_n 0, 1) := by decide +kernel
theorem dX5_used_1 : decode cX5_used 1 = .ok (.iload_n 1, 1) := by decide +kernel
theorem dX5_used_2 : decode cX5_used 2 = .ok (.iload_n 2, 1) := by decide +kernel
theorem dX5_used_3 : decode cX5_used 3 = .ok (.invokevirtual 158, 3) := by decide +kernel
theorem dX5_used_6 : decode cX5_used 6 = .ok (.ifCond .eq 12, 3) := by decide +kernel
theorem dX5_used_9 : decode cX5_used 9 = .ok (.aload_n 0, 1) := by decide +kernel
theorem dX5_used_10 : decode cX5_used 10 = .ok (.iload_n 1, 1) := by decide +kernel
theorem dX5_used_11 : decode cX5_used 11 = .ok (.iload_n 2, 1) := by decide +kernel
theorem dX5_used_12 : decode cX5_used 12 = .ok (.invokevirtual 130, 3) := by decide +kernel
theorem dX5_used_15 : decode cX5_used 15 = .ok (.goto 4, 3) := by decide +kernel
theorem dX5_used_18 : decode cX5_used 18 = .ok (.iconst 0, 1) := by decide +kernel
theorem dX5_used_19 : decode cX5_used 19 = .ok (.ireturn, 1) := by decide +kernel
set_option maxRecDepth 20000 in
theorem ggX5_amountOf_X5_isAward : GoodIn wsX5_amountOf wsX5_isAward := goodIn_r _ [6, 7, 8, 9, 5, 10, 11, 12, 13, 14, 15, 16, 17, 18, 19, 20, 21, 22, 23, 24, 25, 26, 27, 28, 29, 30, 31, 32, 33, 34, 35, 36, 37, 38, 39, 40, 41, 42, 43, 44, 45, 46, 47] (by decide +kernel) (by decide +kernel)
set_option maxRecDepth 20000 in
theorem gX5_amountOf_X5_isAward : GoodIn wsX5_amountOf (wsV RX5 158 RX5 yX5_isAward wsX5_isAward) := goodIn_app (goodIn_of _ (by decide +kernel)) ggX5_amountOf_X5_isAward
theorem dX5_amountOf_0 : decode cX5_amountOf 0 = .ok (.aload_n 0, 1) := by decide +kernel
theorem dX5_amountOf_1 : decode cX5_amountOf 1 = .ok (.iload_n 1, 1) := by decide +kernel
theorem dX5_amountOf_2 : decode cX5_amountOf 2 = .ok (.iload_n 2, 1) := by decide +kernel
theorem dX5_amountOf_3 : decode cX5_amountOf 3 = .ok (.invokevirtual 158, 3) := by decide +kernel
theorem dX5_amountOf_6 : decode cX5_amountOf 6 = .ok (.ifCond .eq 17, 3) := by decide +kernel
theorem dX5_amountOf_9 : decode cX5_amountOf 9 = .ok (.aload_n 0, 1) := by decide +kernel
theorem dX5_amountOf_10 : decode cX5_amountOf 10 = .ok (.getfield 66, 3) := by decide +kernel
theorem dX5_amountOf_13 : decode cX5_amountOf 13 = .ok (.bipush 6, 2) := by decide +kernel
theorem dX5_amountOf_15 : decode cX5_amountOf 15 = .ok (.iload_n 1, 1) := by decide +kernel
theorem dX5_amountOf_16 : decode cX5_amountOf 16 = .ok (.imul, 1) := by decide +kernel
theorem dX5_amountOf_17 : decode cX5_amountOf 17 = .ok (.iload_n 2, 1) := by decide +kernel
theorem dX5_amountOf_18 : decode cX5_amountOf 18 = .ok (.iadd, 1) := by decide +kernel
theorem dX5_amountOf_19 : decode cX5_amountOf 19 = .ok (.iaload, 1) := by decide +kernel
theorem dX5_amountOf_20 : decode cX5_amountOf 20 = .ok (.goto 4, 3) := by decide +kernel
theorem dX5_amountOf_23 : decode cX5_amountOf 23 = .ok (.iconst 0, 1) := by decide +kernel
theorem dX5_amountOf_24 : decode cX5_amountOf 24 = .ok (.ireturn, 1) := by decide +kernel
set_option maxRecDepth 20000 in
theorem ggX5_paid_X5_isStudent : GoodIn wsX5_paid wsX5_isStudent := goodIn_r _ [5, 6, 7, 4, 8] (by decide +kernel) (by decide +kernel)
set_option maxRecDepth 20000 in
theorem gX5_paid_X5_isStudent : GoodIn wsX5_paid (va_wsS RX5 107 yX5_isStudent wsX5_isStudent) := goodIn_app (goodIn_of _ (by decide +kernel)) ggX5_paid_X5_isStudent
set_option maxRecDepth 20000 in
theorem ggX5_paid_X5_holds : GoodIn wsX5_paid wsX5_holds := goodIn_r _ [12, 13, 14, 15, 16, 17, 18, 19, 20, 21, 22, 23, 24, 25, 26, 27, 28, 29, 30, 31, 32, 33, 34, 35, 36, 37, 38, 39, 40, 41, 42] (by decide +kernel) (by decide +kernel)
set_option maxRecDepth 20000 in
theorem gX5_paid_X5_holds : GoodIn wsX5_paid (wsV RX5 95 RX5 yX5_holds wsX5_holds) := goodIn_app (goodIn_of _ (by decide +kernel)) ggX5_paid_X5_holds
theorem dX5_paid_0 : decode cX5_paid 0 = .ok (.aload_n 0, 1) := by decide +kernel
theorem dX5_paid_1 : decode cX5_paid 1 = .ok (.iload_n 1, 1) := by decide +kernel
theorem dX5_paid_2 : decode cX5_paid 2 = .ok (.invokestatic 107, 3) := by decide +kernel
theorem dX5_paid_5 : decode cX5_paid 5 = .ok (.ifCond .eq 7, 3) := by decide +kernel
theorem dX5_paid_8 : decode cX5_paid 8 = .ok (.iconst 0, 1) := by decide +kernel
theorem dX5_paid_9 : decode cX5_paid 9 = .ok (.goto 4, 3) := by decide +kernel
theorem dX5_paid_12 : decode cX5_paid 12 = .ok (.iconst 1, 1) := by decide +kernel
theorem dX5_paid_13 : decode cX5_paid 13 = .ok (.invokevirtual 95, 3) := by decide +kernel
theorem dX5_paid_16 : decode cX5_paid 16 = .ok (.ifCond .eq 12, 3) := by decide +kernel
theorem dX5_paid_19 : decode cX5_paid 19 = .ok (.aload_n 0, 1) := by decide +kernel
theorem dX5_paid_20 : decode cX5_paid 20 = .ok (.getfield 69, 3) := by decide +kernel
theorem dX5_paid_23 : decode cX5_paid 23 = .ok (.iload_n 1, 1) := by decide +kernel
theorem dX5_paid_24 : decode cX5_paid 24 = .ok (.iaload, 1) := by decide +kernel
theorem dX5_paid_25 : decode cX5_paid 25 = .ok (.goto 4, 3) := by decide +kernel
theorem dX5_paid_28 : decode cX5_paid 28 = .ok (.iconst 0, 1) := by decide +kernel
theorem dX5_paid_29 : decode cX5_paid 29 = .ok (.ireturn, 1) := by decide +kernel
set_option maxRecDepth 20000 in
theorem ggX5_owed_X5_isStudent : GoodIn wsX5_owed wsX5_isStudent := goodIn_r _ [4, 5, 6, 3, 7] (by decide +kernel) (by decide +kernel)
set_option maxRecDepth 20000 in
theorem gX5_owed_X5_isStudent : GoodIn wsX5_owed (va_wsS RX5 107 yX5_isStudent wsX5_isStudent) := goodIn_app (goodIn_of _ (by decide +kernel)) ggX5_owed_X5_isStudent
set_option maxRecDepth 20000 in
theorem ggX5_owed_X5_holds : GoodIn wsX5_owed wsX5_holds := goodIn_r _ [11, 12, 65, 66, 67, 68, 69, 70, 71, 72, 73, 74, 75, 76, 77, 78, 79, 80, 81, 82, 83, 84, 85, 86, 87, 88, 89, 90, 91, 92, 93] (by decide +kernel) (by decide +kernel)
set_option maxRecDepth 20000 in
theorem gX5_owed_X5_holds : GoodIn wsX5_owed (wsV RX5 95 RX5 yX5_holds wsX5_holds) := goodIn_app (goodIn_of _ (by decide +kernel)) ggX5_owed_X5_holds
set_option maxRecDepth 20000 in
theorem ggX5_owed_X5_owedOf : GoodIn wsX5_owed wsX5_owedOf := goodIn_r _ [16, 17, 18, 19, 20, 3, 21, 22, 23, 24, 25, 26, 27, 28, 29, 30, 31, 32, 33, 34, 35, 36, 37, 38, 39, 40, 41, 42, 43, 44, 45, 46, 47, 48, 49, 50, 51, 52, 53, 54, 55, 56, 57, 58, 59, 60, 61, 62, 63, 64, 65, 66, 67, 68, 69, 70, 71, 72, 73, 74, 75, 76, 77, 78, 79, 80, 81, 82, 83, 84, 85, 86, 87, 88, 89, 90, 91, 92, 93] (by decide +kernel) (by decide +kernel)
set_option maxRecDepth 20000 in
theorem gX5_owed_X5_owedOf : GoodIn wsX5_owed (wsV RX5 141 RX5 yX5_owedOf wsX5_owedOf) := goodIn_app (goodIn_of _ (by decide +kernel)) ggX5_owed_X5_owedOf
theorem dX5_owed_0 : decode cX5_owed 0 = .ok (.aload_n 0, 1) := by decide +kernel
theorem dX5_owed_1 : decode cX5_owed 1 = .ok (.iload_n 1, 1) := by decide +kernel
theorem dX5_owed_2 : decode cX5_owed 2 = .ok (.invokestatic 107, 3) := by decide +kernel
theorem dX5_owed_5 : decode cX5_owed 5 = .ok (.ifCond .eq 7, 3) := by decide +kernel
theorem dX5_owed_8 : decode cX5_owed 8 = .ok (.iconst 0, 1) := by decide +kernel
theorem dX5_owed_9 : decode cX5_owed 9 = .ok (.goto 4, 3) := by decide +kernel
theorem dX5_owed_12 : decode cX5_owed 12 = .ok (.iconst 1, 1) := by decide +kernel
theorem dX5_owed_13 : decode cX5_owed 13 = .ok (.invokevirtual 95, 3) := by decide +kernel
theorem dX5_owed_16 : decode cX5_owed 16 = .ok (.ifCond .eq 11, 3) := by decide +kernel
theorem dX5_owed_19 : decode cX5_owed 19 = .ok (.aload_n 0, 1) := by decide +kernel
theorem dX5_owed_20 : decode cX5_owed 20 = .ok (.iload_n 1, 1) := by decide +kernel
theorem dX5_owed_21 : decode cX5_owed 21 = .ok (.invokevirtual 141, 3) := by decide +kernel
theorem dX5_owed_24 : decode cX5_owed 24 = .ok (.goto 4, 3) := by decide +kernel
theorem dX5_owed_27 : decode cX5_owed 27 = .ok (.iconst 0, 1) := by decide +kernel
theorem dX5_owed_28 : decode cX5_owed 28 = .ok (.ireturn, 1) := by decide +kernel
set_option maxRecDepth 20000 in
theorem ggX5_hasHold_X5_isStudent : GoodIn wsX5_hasHold wsX5_isStudent := goodIn_r _ [5, 6, 7, 4, 8] (by decide +kernel) (by decide +kernel)
set_option maxRecDepth 20000 in
theorem gX5_hasHold_X5_isStudent : GoodIn wsX5_hasHold (va_wsS RX5 107 yX5_isStudent wsX5_isStudent) := goodIn_app (goodIn_of _ (by decide +kernel)) ggX5_hasHold_X5_isStudent
set_option maxRecDepth 20000 in
theorem ggX5_hasHold_X5_holds : GoodIn wsX5_hasHold wsX5_holds := goodIn_r _ [12, 13, 66, 67, 68, 69, 70, 71, 72, 73, 74, 75, 76, 77, 78, 79, 80, 81, 82, 83, 84, 85, 86, 87, 88, 89, 90, 91, 92, 93, 94] (by decide +kernel) (by decide +kernel)
set_option maxRecDepth 20000 in
theorem gX5_hasHold_X5_holds : GoodIn wsX5_hasHold (wsV RX5 95 RX5 yX5_holds wsX5_holds) := goodIn_app (goodIn_of _ (by decide +kernel)) ggX5_hasHold_X5_holds
set_option maxRecDepth 20000 in
theorem ggX5_hasHold_X5_owedOf : GoodIn wsX5_hasHold wsX5_owedOf := goodIn_r _ [17, 18, 19, 20, 21, 4, 22, 23, 24, 25, 26, 27, 28, 29, 30, 31, 32, 33, 34, 35, 36, 37, 38, 39, 40, 41, 42, 43, 44, 45, 46, 47, 48, 49, 50, 51, 52, 53, 54, 55, 56, 57, 58, 59, 60, 61, 62, 63, 64, 65, 66, 67, 68, 69, 70, 71, 72, 73, 74, 75, 76, 77, 78, 79, 80, 81, 82, 83, 84, 85, 86, 87, 88, 89, 90, 91, 92, 93, 94] (by decide +kernel) (by decide +kernel)
set_option maxRecDepth 20000 in
theorem gX5_hasHold_X5_owedOf : GoodIn wsX5_hasHold (wsV RX5 141 RX5 yX5_owedOf wsX5_owedOf) := goodIn_app (goodIn_of _ (by decide +kernel)) ggX5_hasHold_X5_owedOf
theorem dX5_hasHold_0 : decode cX5_hasHold 0 = .ok (.aload_n 0, 1) := by decide +kernel
theorem dX5_hasHold_1 : decode cX5_hasHold 1 = .ok (.iload_n 1, 1) := by decide +kernel
theorem dX5_hasHold_2 : decode cX5_hasHold 2 = .ok (.invokestatic 107, 3) := by decide +kernel
theorem dX5_hasHold_5 : decode cX5_hasHold 5 = .ok (.ifCond .eq 7, 3) := by decide +kernel
theorem dX5_hasHold_8 : decode cX5_hasHold 8 = .ok (.iconst 0, 1) := by decide +kernel
theorem dX5_hasHold_9 : decode cX5_hasHold 9 = .ok (.goto 4, 3) := by decide +kernel
theorem dX5_hasHold_12 : decode cX5_hasHold 12 = .ok (.iconst 1, 1) := by decide +kernel
theorem dX5_hasHold_13 : decode cX5_hasHold 13 = .ok (.invokevirtual 95, 3) := by decide +kernel
theorem dX5_hasHold_16 : decode cX5_hasHold 16 = .ok (.ifCond .eq 19, 3) := by decide +kernel
theorem dX5_hasHold_19 : decode cX5_hasHold 19 = .ok (.aload_n 0, 1) := by decide +kernel
theorem dX5_hasHold_20 : decode cX5_hasHold 20 = .ok (.iload_n 1, 1) := by decide +kernel
theorem dX5_hasHold_21 : decode cX5_hasHold 21 = .ok (.invokevirtual 141, 3) := by decide +kernel
theorem dX5_hasHold_24 : decode cX5_hasHold 24 = .ok (.aload_n 0, 1) := by decide +kernel
theorem dX5_hasHold_25 : decode cX5_hasHold 25 = .ok (.getfield 104, 3) := by decide +kernel
theorem dX5_hasHold_28 : decode cX5_hasHold 28 = .ok (.if_icmp .le 7, 3) := by decide +kernel
theorem dX5_hasHold_31 : decode cX5_hasHold 31 = .ok (.iconst 1, 1) := by decide +kernel
theorem dX5_hasHold_32 : decode cX5_hasHold 32 = .ok (.goto 4, 3) := by decide +kernel
theorem dX5_hasHold_35 : decode cX5_hasHold 35 = .ok (.iconst 0, 1) := by decide +kernel
theorem dX5_hasHold_36 : decode cX5_hasHold 36 = .ok (.ireturn, 1) := by decide +kernel
theorem dJ9_max_7cf53_0 : decode cJ9_max_7cf53 0 = .ok (.iload_n 0, 1) := by decide +kernel
theorem dJ9_max_7cf53_1 : decode cJ9_max_7cf53 1 = .ok (.iload_n 1, 1) := by decide +kernel
theorem dJ9_max_7cf53_2 : decode cJ9_max_7cf53 2 = .ok (.if_icmp .lt 7, 3) := by decide +kernel
theorem dJ9_max_7cf53_5 : decode cJ9_max_7cf53 5 = .ok (.iload_n 0, 1) := by decide +kernel
theorem dJ9_max_7cf53_6 : decode cJ9_max_7cf53 6 = .ok (.goto 4, 3) := by decide +kernel
theorem dJ9_max_7cf53_9 : decode cJ9_max_7cf53 9 = .ok (.iload_n 1, 1) := by decide +kernel
theorem dJ9_max_7cf53_10 : decode cJ9_max_7cf53 10 = .ok (.ireturn, 1) := by decide +kernel
theorem dJ9_min_7cf53_0 : decode cJ9_min_7cf53 0 = .ok (.iload_n 0, 1) := by decide +kernel
theorem dJ9_min_7cf53_1 : decode cJ9_min_7cf53 1 = .ok (.iload_n 1, 1) := by decide +kernel
theorem dJ9_min_7cf53_2 : decode cJ9_min_7cf53 2 = .ok (.if_icmp .gt 7, 3) := by decide +kernel
theorem dJ9_min_7cf53_5 : decode cJ9_min_7cf53 5 = .ok (.iload_n 0, 1) := by decide +kernel
theorem dJ9_min_7cf53_6 : decode cJ9_min_7cf53 6 = .ok (.goto 4, 3) := by decide +kernel
theorem dJ9_min_7cf53_9 : decode cJ9_min_7cf53 9 = .ok (.iload_n 1, 1) := by decide +kernel
theorem dJ9_min_7cf53_10 : decode cJ9_min_7cf53 10 = .ok (.ireturn, 1) := by decide +kernel
theorem dJ7_fill_53178_0 : decode cJ7_fill_53178 0 = .ok (.iconst 0, 1) := by decide +kernel
theorem dJ7_fill_53178_1 : decode cJ7_fill_53178 1 = .ok (.istore_n 2, 1) := by decide +kernel
theorem dJ7_fill_53178_2 : decode cJ7_fill_53178 2 = .ok (.aload_n 0, 1) := by decide +kernel
theorem dJ7_fill_53178_3 : decode cJ7_fill_53178 3 = .ok (.arraylength, 1) := by decide +kernel
theorem dJ7_fill_53178_4 : decode cJ7_fill_53178 4 = .ok (.istore_n 3, 1) := by decide +kernel
theorem dJ7_fill_53178_5 : decode cJ7_fill_53178 5 = .ok (.iload_n 2, 1) := by decide +kernel
theorem dJ7_fill_53178_6 : decode cJ7_fill_53178 6 = .ok (.iload_n 3, 1) := by decide +kernel
theorem dJ7_fill_53178_7 : decode cJ7_fill_53178 7 = .ok (.if_icmp .ge 13, 3) := by decide +kernel
theorem dJ7_fill_53178_10 : decode cJ7_fill_53178 10 = .ok (.aload_n 0, 1) := by decide +kernel
theorem dJ7_fill_53178_11 : decode cJ7_fill_53178 11 = .ok (.iload_n 2, 1) := by decide +kernel
theorem dJ7_fill_53178_12 : decode cJ7_fill_53178 12 = .ok (.iload_n 1, 1) := by decide +kernel
theorem dJ7_fill_53178_13 : decode cJ7_fill_53178 13 = .ok (.iastore, 1) := by decide +kernel
theorem dJ7_fill_53178_14 : decode cJ7_fill_53178 14 = .ok (.iinc 2 1, 3) := by decide +kernel
theorem dJ7_fill_53178_17 : decode cJ7_fill_53178 17 = .ok (.goto (-12), 3) := by decide +kernel
theorem dJ7_fill_53178_20 : decode cJ7_fill_53178 20 = .ok (.return_, 1) := by decide +kernel

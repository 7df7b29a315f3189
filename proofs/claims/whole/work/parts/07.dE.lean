set_option maxRecDepth 20000 in
theorem ggX6_statement_X6_is : GoodIn wsX6_statement wsX6_is := goodIn_r _ [18, 1, 2, 3, 139, 140, 141, 142, 143, 144, 145, 146, 147, 148, 149, 150, 151, 152, 153, 154, 155, 156, 157, 158, 159, 160, 161, 162] (by decide +kernel) (by decide +kernel)
set_option maxRecDepth 20000 in
theorem gX6_statement_X6_is : GoodIn wsX6_statement (wsV RX6 104 RX6 yX6_is wsX6_is) := goodIn_app (goodIn_of _ (by decide +kernel)) ggX6_statement_X6_is
set_option maxRecDepth 20000 in
theorem ggX6_statement_X6_kindOf : GoodIn wsX6_statement wsX6_kindOf := goodIn_r _ [21, 22, 23, 24, 25, 26, 27, 28, 29, 30, 31, 32, 33, 34, 35, 36, 37, 38, 39, 40, 41, 42, 43, 44, 45, 46, 47, 48, 49, 50, 51, 52, 53, 54, 55, 56, 57, 58, 59, 60, 61, 62, 63, 64, 65, 66, 67, 68, 69, 70, 71, 72, 73, 74, 75, 76, 77, 78, 79, 80, 81, 82, 83, 84, 85, 86, 87, 88, 89, 90, 91, 92, 93, 94, 95, 96, 97, 98, 99, 100, 101, 102, 103, 104, 105, 106, 107, 108, 109, 110] (by decide +kernel) (by decide +kernel)
set_option maxRecDepth 20000 in
theorem gX6_statement_X6_kindOf : GoodIn wsX6_statement (va_wsS RX6 108 yX6_kindOf wsX6_kindOf) := goodIn_app (goodIn_of _ (by decide +kernel)) ggX6_statement_X6_kindOf
set_option maxRecDepth 20000 in
theorem ggX6_statement_X6_digit : GoodIn wsX6_statement wsX6_digit := goodIn_r _ [114, 3, 1, 4, 115, 116, 117, 17, 118, 2, 139, 140, 141, 142, 143, 144, 145, 146, 147, 148, 149, 150, 151, 152, 153, 154, 155, 156, 157, 158, 159, 160, 161, 162] (by decide +kernel) (by decide +kernel)
set_option maxRecDepth 20000 in
theorem gX6_statement_X6_digit : GoodIn wsX6_statement (wsV RX6 94 RX6 yX6_digit wsX6_digit) := goodIn_app (goodIn_of _ (by decide +kernel)) ggX6_statement_X6_digit
set_option maxRecDepth 20000 in
theorem ggX6_statement_X6_number : GoodIn wsX6_statement wsX6_number := goodIn_r _ [122, 4, 3, 1, 111, 112, 113, 17, 114, 115, 116, 117, 118, 2, 139, 140, 141, 142, 143, 144, 145, 146, 147, 148, 149, 150, 151, 152, 153, 154, 155, 156, 157, 158, 159, 160, 161, 162] (by decide +kernel) (by decide +kernel)
set_option maxRecDepth 20000 in
theorem gX6_statement_X6_number : GoodIn wsX6_statement (wsV RX6 111 RX6 yX6_number wsX6_number) := goodIn_app (goodIn_of _ (by decide +kernel)) ggX6_statement_X6_number
set_option maxRecDepth 20000 in
theorem ggX6_statement_X6_within : GoodIn wsX6_statement wsX6_within := goodIn_r _ [125] (by decide +kernel) (by decide +kernel)
set_option maxRecDepth 20000 in
theorem gX6_statement_X6_within : GoodIn wsX6_statement (va_wsS RX6 74 yX6_within wsX6_within) := goodIn_app (goodIn_of _ (by decide +kernel)) ggX6_statement_X6_within
set_option maxRecDepth 20000 in
theorem ggX6_statement_X6_year : GoodIn wsX6_statement wsX6_year := goodIn_r _ [129, 130, 13, 12, 139, 140, 141, 142, 143, 144, 145, 146, 147, 148, 149, 150, 151, 152, 153, 154, 155, 156, 157, 158, 159, 160, 161, 162] (by decide +kernel) (by decide +kernel)
set_option maxRecDepth 20000 in
theorem gX6_statement_X6_year : GoodIn wsX6_statement (wsV RX6 56 RX6 yX6_year wsX6_year) := goodIn_app (goodIn_of _ (by decide +kernel)) ggX6_statement_X6_year
set_option maxRecDepth 20000 in
theorem ggX6_statement_X6_isDay : GoodIn wsX6_statement wsX6_isDay := goodIn_r _ [134, 130, 123, 124, 17, 125, 139, 140, 141, 142, 143, 144, 145, 146, 147, 148, 149, 150, 151, 152, 153, 154, 155, 156, 157, 158, 159, 160, 161, 162] (by decide +kernel) (by decide +kernel)
set_option maxRecDepth 20000 in
theorem gX6_statement_X6_isDay : GoodIn wsX6_statement (wsV RX6 117 RX6 yX6_isDay wsX6_isDay) := goodIn_app (goodIn_of _ (by decide +kernel)) ggX6_statement_X6_isDay
set_option maxRecDepth 20000 in
theorem ggX6_statement_X6_isThing : GoodIn wsX6_statement wsX6_isThing := goodIn_r _ [138, 5, 123, 124, 17, 125, 139, 140, 141, 142, 143, 144, 145, 146, 147, 148, 149, 150, 151, 152, 153, 154, 155, 156, 157, 158, 159, 160, 161, 162] (by decide +kernel) (by decide +kernel)
set_option maxRecDepth 20000 in
theorem gX6_statement_X6_isThing : GoodIn wsX6_statement (wsV RX6 120 RX6 yX6_isThing wsX6_isThing) := goodIn_app (goodIn_of _ (by decide +kernel)) ggX6_statement_X6_isThing
theorem dX6_statement_0 : decode cX6_statement 0 = .ok (.aload_n 0, 1) := by decide +kernel
theorem dX6_statement_1 : decode cX6_statement 1 = .ok (.bipush 116, 2) := by decide +kernel
theorem dX6_statement_3 : decode cX6_statement 3 = .ok (.invokevirtual 104, 3) := by decide +kernel
theorem dX6_statement_6 : decode cX6_statement 6 = .ok (.ifCond .eq 168, 3) := by decide +kernel
theorem dX6_statement_9 : decode cX6_statement 9 = .ok (.aload_n 0, 1) := by decide +kernel
theorem dX6_statement_10 : decode cX6_statement 10 = .ok (.getfield 84, 3) := by decide +kernel
theorem dX6_statement_13 : decode cX6_statement 13 = .ok (.aload_n 0, 1) := by decide +kernel
theorem dX6_statement_14 : decode cX6_statement 14 = .ok (.getfield 81, 3) := by decide +kernel
theorem dX6_statement_17 : decode cX6_statement 17 = .ok (.if_icmp .ge 18, 3) := by decide +kernel
theorem dX6_statement_20 : decode cX6_statement 20 = .ok (.aload_n 0, 1) := by decide +kernel
theorem dX6_statement_21 : decode cX6_statement 21 = .ok (.getfield 28, 3) := by decide +kernel
theorem dX6_statement_24 : decode cX6_statement 24 = .ok (.aload_n 0, 1) := by decide +kernel
theorem dX6_statement_25 : decode cX6_statement 25 = .ok (.getfield 84, 3) := by decide +kernel
theorem dX6_statement_28 : decode cX6_statement 28 = .ok (.iaload, 1) := by decide +kernel
theorem dX6_statement_29 : decode cX6_statement 29 = .ok (.invokestatic 108, 3) := by decide +kernel
theorem dX6_statement_32 : decode cX6_statement 32 = .ok (.goto 4, 3) := by decide +kernel
theorem dX6_statement_35 : decode cX6_statement 35 = .ok (.iconst (-1), 1) := by decide +kernel
theorem dX6_statement_36 : decode cX6_statement 36 = .ok (.istore_n 2, 1) := by decide +kernel
theorem dX6_statement_37 : decode cX6_statement 37 = .ok (.iload_n 2, 1) := by decide +kernel
theorem dX6_statement_38 : decode cX6_statement 38 = .ok (.ifCond .ge 5, 3) := by decide +kernel
theorem dX6_statement_41 : decode cX6_statement 41 = .ok (.iconst (-1), 1) := by decide +kernel
theorem dX6_statement_42 : decode cX6_statement 42 = .ok (.ireturn, 1) := by decide +kernel
theorem dX6_statement_43 : decode cX6_statement 43 = .ok (.aload_n 0, 1) := by decide +kernel
theorem dX6_statement_44 : decode cX6_statement 44 = .ok (.dup, 1) := by decide +kernel
theorem dX6_statement_45 : decode cX6_statement 45 = .ok (.getfield 84, 3) := by decide +kernel
theorem dX6_statement_48 : decode cX6_statement 48 = .ok (.iconst 1, 1) := by decide +kernel
theorem dX6_statement_49 : decode cX6_statement 49 = .ok (.iadd, 1) := by decide +kernel
theorem dX6_statement_50 : decode cX6_statement 50 = .ok (.putfield 84, 3) := by decide +kernel
theorem dX6_statement_53 : decode cX6_statement 53 = .ok (.aload_n 0, 1) := by decide +kernel
theorem dX6_statement_54 : decode cX6_statement 54 = .ok (.invokevirtual 94, 3) := by decide +kernel
theorem dX6_statement_57 : decode cX6_statement 57 = .ok (.ifCond .ne 5, 3) := by decide +kernel
theorem dX6_statement_60 : decode cX6_statement 60 = .ok (.iconst (-1), 1) := by decide +kernel
theorem dX6_statement_61 : decode cX6_statement 61 = .ok (.ireturn, 1) := by decide +kernel
theorem dX6_statement_62 : decode cX6_statement 62 = .ok (.aload_n 0, 1) := by decide +kernel
theorem dX6_statement_63 : decode cX6_statement 63 = .ok (.getfield 91, 3) := by decide +kernel
theorem dX6_statement_66 : decode cX6_statement 66 = .ok (.istore_n 3, 1) := by decide +kernel
theorem dX6_statement_67 : decode cX6_statement 67 = .ok (.aload_n 0, 1) := by decide +kernel
theorem dX6_statement_68 : decode cX6_statement 68 = .ok (.invokevirtual 94, 3) := by decide +kernel
theorem dX6_statement_71 : decode cX6_statement 71 = .ok (.ifCond .ne 5, 3) := by decide +kernel
theorem dX6_statement_74 : decode cX6_statement 74 = .ok (.iconst (-1), 1) := by decide +kernel
theorem dX6_statement_75 : decode cX6_statement 75 = .ok (.ireturn, 1) := by decide +kernel
theorem dX6_statement_76 : decode cX6_statement 76 = .ok (.aload_n 0, 1) := by decide +kernel
theorem dX6_statement_77 : decode cX6_statement 77 = .ok (.getfield 91, 3) := by decide +kernel
theorem dX6_statement_80 : decode cX6_statement 80 = .ok (.istore 4, 2) := by decide +kernel
theorem dX6_statement_82 : decode cX6_statement 82 = .ok (.aload_n 0, 1) := by decide +kernel
theorem dX6_statement_83 : decode cX6_statement 83 = .ok (.invokevirtual 94, 3) := by decide +kernel
theorem dX6_statement_86 : decode cX6_statement 86 = .ok (.ifCond .ne 5, 3) := by decide +kernel
theorem dX6_statement_89 : decode cX6_statement 89 = .ok (.iconst (-1), 1) := by decide +kernel
theorem dX6_statement_90 : decode cX6_statement 90 = .ok (.ireturn, 1) := by decide +kernel
theorem dX6_statement_91 : decode cX6_statement 91 = .ok (.iload_n 1, 1) := by decide +kernel
theorem dX6_statement_92 : decode cX6_statement 92 = .ok (.ifCond .ne 5, 3) := by decide +kernel
theorem dX6_statement_95 : decode cX6_statement 95 = .ok (.iconst 1, 1) := by decide +kernel
theorem dX6_statement_96 : decode cX6_statement 96 = .ok (.ireturn, 1) := by decide +kernel
theorem dX6_statement_97 : decode cX6_statement 97 = .ok (.iload 4, 2) := by decide +kernel
theorem dX6_statement_99 : decode cX6_statement 99 = .ok (.iconst 3, 1) := by decide +kernel
theorem dX6_statement_100 : decode cX6_statement 100 = .ok (.if_icmp .gt 19, 3) := by decide +kernel
theorem dX6_statement_103 : decode cX6_statement 103 = .ok (.aload_n 0, 1) := by decide +kernel
theorem dX6_statement_104 : decode cX6_statement 104 = .ok (.getfield 91, 3) := by decide +kernel
theorem dX6_statement_107 : decode cX6_statement 107 = .ok (.iconst 3, 1) := by decide +kernel
theorem dX6_statement_108 : decode cX6_statement 108 = .ok (.if_icmp .gt 11, 3) := by decide +kernel
theorem dX6_statement_111 : decode cX6_statement 111 = .ok (.aload_n 0, 1) := by decide +kernel
theorem dX6_statement_112 : decode cX6_statement 112 = .ok (.getfield 71, 3) := by decide +kernel
theorem dX6_statement_115 : decode cX6_statement 115 = .ok (.iconst 4, 1) := by decide +kernel
theorem dX6_statement_116 : decode cX6_statement 116 = .ok (.if_icmp .ne 5, 3) := by decide +kernel
theorem dX6_statement_119 : decode cX6_statement 119 = .ok (.iconst 0, 1) := by decide +kernel
theorem dX6_statement_120 : decode cX6_statement 120 = .ok (.ireturn, 1) := by decide +kernel
theorem dX6_statement_121 : decode cX6_statement 121 = .ok (.aload_n 0, 1) := by decide +kernel
theorem dX6_statement_122 : decode cX6_statement 122 = .ok (.getfield 7, 3) := by decide +kernel
theorem dX6_statement_125 : decode cX6_statement 125 = .ok (.aload_n 0, 1) := by decide +kernel
theorem dX6_statement_126 : decode cX6_statement 126 = .ok (.getfield 71, 3) := by decide +kernel
theorem dX6_statement_129 : decode cX6_statement 129 = .ok (.iload_n 2, 1) := by decide +kernel
theorem dX6_statement_130 : decode cX6_statement 130 = .ok (.iastore, 1) := by decide +kernel
theorem dX6_statement_131 : decode cX6_statement 131 = .ok (.aload_n 0, 1) := by decide +kernel
theorem dX6_statement_132 : decode cX6_statement 132 = .ok (.getfield 13, 3) := by decide +kernel
theorem dX6_statement_135 : decode cX6_statement 135 = .ok (.aload_n 0, 1) := by decide +kernel
theorem dX6_statement_136 : decode cX6_statement 136 = .ok (.getfield 71, 3) := by decide +kernel
theorem dX6_statement_139 : decode cX6_statement 139 = .ok (.iload_n 3, 1) := by decide +kernel
theorem dX6_statement_140 : decode cX6_statement 140 = .ok (.iastore, 1) := by decide +kernel
theorem dX6_statement_141 : decode cX6_statement 141 = .ok (.aload_n 0, 1) := by decide +kernel
theorem dX6_statement_142 : decode cX6_statement 142 = .ok (.getfield 16, 3) := by decide +kernel
theorem dX6_statement_145 : decode cX6_statement 145 = .ok (.aload_n 0, 1) := by decide +kernel
theorem dX6_statement_146 : decode cX6_statement 146 = .ok (.getfield 71, 3) := by decide +kernel
theorem dX6_statement_149 : decode cX6_statement 149 = .ok (.iload 4, 2) := by decide +kernel
theorem dX6_statement_151 : decode cX6_statement 151 = .ok (.iastore, 1) := by decide +kernel
theorem dX6_statement_152 : decode cX6_statement 152 = .ok (.aload_n 0, 1) := by decide +kernel
theorem dX6_statement_153 : decode cX6_statement 153 = .ok (.getfield 19, 3) := by decide +kernel
theorem dX6_statement_156 : decode cX6_statement 156 = .ok (.aload_n 0, 1) := by decide +kernel
theorem dX6_statement_157 : decode cX6_statement 157 = .ok (.dup, 1) := by decide +kernel
theorem dX6_statement_158 : decode cX6_statement 158 = .ok (.getfield 71, 3) := by decide +kernel
theorem dX6_statement_161 : decode cX6_statement 161 = .ok (.dup_x1, 1) := by decide +kernel
theorem dX6_statement_162 : decode cX6_statement 162 = .ok (.iconst 1, 1) := by decide +kernel
theorem dX6_statement_163 : decode cX6_statement 163 = .ok (.iadd, 1) := by decide +kernel
theorem dX6_statement_164 : decode cX6_statement 164 = .ok (.putfield 71, 3) := by decide +kernel
theorem dX6_statement_167 : decode cX6_statement 167 = .ok (.aload_n 0, 1) := by decide +kernel
theorem dX6_statement_168 : decode cX6_statement 168 = .ok (.getfield 91, 3) := by decide +kernel
theorem dX6_statement_171 : decode cX6_statement 171 = .ok (.iastore, 1) := by decide +kernel
theorem dX6_statement_172 : decode cX6_statement 172 = .ok (.iconst 1, 1) := by decide +kernel
theorem dX6_statement_173 : decode cX6_statement 173 = .ok (.ireturn, 1) := by decide +kernel
theorem dX6_statement_174 : decode cX6_statement 174 = .ok (.aload_n 0, 1) := by decide +kernel
theorem dX6_statement_175 : decode cX6_statement 175 = .ok (.bipush 121, 2) := by decide +kernel
theorem dX6_statement_177 : decode cX6_statement 177 = .ok (.invokevirtual 104, 3) := by decide +kernel
theorem dX6_statement_180 : decode cX6_statement 180 = .ok (.ifCond .eq 43, 3) := by decide +kernel
theorem dX6_statement_183 : decode cX6_statement 183 = .ok (.aload_n 0, 1) := by decide +kernel
theorem dX6_statement_184 : decode cX6_statement 184 = .ok (.invokevirtual 111, 3) := by decide +kernel
theorem dX6_statement_187 : decode cX6_statement 187 = .ok (.ifCond .ne 5, 3) := by decide +kernel
theorem dX6_statement_190 : decode cX6_statement 190 = .ok (.iconst (-1), 1) := by decide +kernel
theorem dX6_statement_191 : decode cX6_statement 191 = .ok (.ireturn, 1) := by decide +kernel
theorem dX6_statement_192 : decode cX6_statement 192 = .ok (.iload_n 1, 1) := by decide +kernel
theorem dX6_statement_193 : decode cX6_statement 193 = .ok (.ifCond .ne 5, 3) := by decide +kernel
theorem dX6_statement_196 : decode cX6_statement 196 = .ok (.iconst 1, 1) := by decide +kernel
theorem dX6_statement_197 : decode cX6_statement 197 = .ok (.ireturn, 1) := by decide +kernel
theorem dX6_statement_198 : decode cX6_statement 198 = .ok (.aload_n 0, 1) := by decide +kernel
theorem dX6_statement_199 : decode cX6_statement 199 = .ok (.getfield 91, 3) := by decide +kernel
theorem dX6_statement_202 : decode cX6_statement 202 = .ok (.iconst 1, 1) := by decide +kernel
theorem dX6_statement_203 : decode cX6_statement 203 = .ok (.bipush 20, 2) := by decide +kernel
theorem dX6_statement_205 : decode cX6_statement 205 = .ok (.invokestatic 74, 3) := by decide +kernel
theorem dX6_statement_208 : decode cX6_statement 208 = .ok (.ifCond .ne 5, 3) := by decide +kernel
theorem dX6_statement_211 : decode cX6_statement 211 = .ok (.iconst 0, 1) := by decide +kernel
theorem dX6_statement_212 : decode cX6_statement 212 = .ok (.ireturn, 1) := by decide +kernel
theorem dX6_statement_213 : decode cX6_statement 213 = .ok (.aload_n 0, 1) := by decide +kernel
theorem dX6_statement_214 : decode cX6_statement 214 = .ok (.aload_n 0, 1) := by decide +kernel
theorem dX6_statement_215 : decode cX6_statement 215 = .ok (.getfield 91, 3) := by decide +kernel
theorem dX6_statement_218 : decode cX6_statement 218 = .ok (.invokevirtual 56, 3) := by decide +kernel
theorem dX6_statement_221 : decode cX6_statement 221 = .ok (.iconst 1, 1) := by decide +kernel
theorem dX6_statement_222 : decode cX6_statement 222 = .ok (.ireturn, 1) := by decide +kernel
theorem dX6_statement_223 : decode cX6_statement 223 = .ok (.aload_n 0, 1) := by decide +kernel
theorem dX6_statement_224 : decode cX6_statement 224 = .ok (.bipush 99, 2) := by decide +kernel
theorem dX6_statement_226 : decode cX6_statement 226 = .ok (.invokevirtual 104, 3) := by decide +kernel
theorem dX6_statement_229 : decode cX6_statement 229 = .ok (.ifCond .eq 26, 3) := by decide +kernel
theorem dX6_statement_232 : decode cX6_statement 232 = .ok (.aload_n 0, 1) := by decide +kernel
theorem dX6_statement_233 : decode cX6_statement 233 = .ok (.invokevirtual 94, 3) := by decide +kernel
theorem dX6_statement_236 : decode cX6_statement 236 = .ok (.ifCond .ne 5, 3) := by decide +kernel
theorem dX6_statement_239 : decode cX6_statement 239 = .ok (.iconst (-1), 1) := by decide +kernel
theorem dX6_statement_240 : decode cX6_statement 240 = .ok (.ireturn, 1) := by decide +kernel
theorem dX6_statement_241 : decode cX6_statement 241 = .ok (.iload_n 1, 1) := by decide +kernel
theorem dX6_statement_242 : decode cX6_statement 242 = .ok (.ifCond .eq 11, 3) := by decide +kernel
theorem dX6_statement_245 : decode cX6_statement 245 = .ok (.aload_n 0, 1) := by decide +kernel
theorem dX6_statement_246 : decode cX6_statement 246 = .ok (.aload_n 0, 1) := by decide +kernel
theorem dX6_statement_247 : decode cX6_statement 247 = .ok (.getfield 91, 3) := by decide +kernel
theorem dX6_statement_250 : decode cX6_statement 250 = .ok (.putfield 60, 3) := by decide +kernel
theorem dX6_statement_253 : decode cX6_statement 253 = .ok (.iconst 1, 1) := by decide +kernel
theorem dX6_statement_254 : decode cX6_statement 254 = .ok (.ireturn, 1) := by decide +kernel
theorem dX6_statement_255 : decode cX6_statement 255 = .ok (.aload_n 0, 1) := by decide +kernel
theorem dX6_statement_256 : decode cX6_statement 256 = .ok (.bipush 108, 2) := by decide +kernel
theorem dX6_statement_258 : decode cX6_statement 258 = .ok (.invokevirtual 104, 3) := by decide +kernel
theorem dX6_statement_261 : decode cX6_statement 261 = .ok (.ifCond .eq 38, 3) := by decide +kernel
theorem dX6_statement_264 : decode cX6_statement 264 = .ok (.aload_n 0, 1) := by decide +kernel
theorem dX6_statement_265 : decode cX6_statement 265 = .ok (.invokevirtual 94, 3) := by decide +kernel
theorem dX6_statement_268 : decode cX6_statement 268 = .ok (.ifCond .ne 5, 3) := by decide +kernel
theorem dX6_statement_271 : decode cX6_statement 271 = .ok (.iconst (-1), 1) := by decide +kernel
theorem dX6_statement_272 : decode cX6_statement 272 = .ok (.ireturn, 1) := by decide +kernel
theorem dX6_statement_273 : decode cX6_statement 273 = .ok (.iload_n 1, 1) := by decide +kernel
theorem dX6_statement_274 : decode cX6_statement 274 = .ok (.ifCond .ne 5, 3) := by decide +kernel
theorem dX6_statement_277 : decode cX6_statement 277 = .ok (.iconst 1, 1) := by decide +kernel
theorem dX6_statement_278 : decode cX6_statement 278 = .ok (.ireturn, 1) := by decide +kernel
theorem dX6_statement_279 : decode cX6_statement 279 = .ok (.aload_n 0, 1) := by decide +kernel
theorem dX6_statement_280 : decode cX6_statement 280 = .ok (.getfield 91, 3) := by decide +kernel
theorem dX6_statement_283 : decode cX6_statement 283 = .ok (.iconst 5, 1) := by decide +kernel
theorem dX6_statement_284 : decode cX6_statement 284 = .ok (.if_icmp .le 5, 3) := by decide +kernel
theorem dX6_statement_287 : decode cX6_statement 287 = .ok (.iconst 0, 1) := by decide +kernel
theorem dX6_statement_288 : decode cX6_statement 288 = .ok (.ireturn, 1) := by decide +kernel
theorem dX6_statement_289 : decode cX6_statement 289 = .ok (.aload_n 0, 1) := by decide +kernel
theorem dX6_statement_290 : decode cX6_statement 290 = .ok (.aload_n 0, 1) := by decide +kernel
theorem dX6_statement_291 : decode cX6_statement 291 = .ok (.getfield 91, 3) := by decide +kernel
theorem dX6_statement_294 : decode cX6_statement 294 = .ok (.putfield 114, 3) := by decide +kernel
theorem dX6_statement_297 : decode cX6_statement 297 = .ok (.iconst 1, 1) := by decide +kernel
theorem dX6_statement_298 : decode cX6_statement 298 = .ok (.ireturn, 1) := by decide +kernel
theorem dX6_statement_299 : decode cX6_statement 299 = .ok (.aload_n 0, 1) := by decide +kernel
theorem dX6_statement_300 : decode cX6_statement 300 = .ok (.bipush 98, 2) := by decide +kernel
theorem dX6_statement_302 : decode cX6_statement 302 = .ok (.invokevirtual 104, 3) := by decide +kernel
theorem dX6_statement_305 : decode cX6_statement 305 = .ok (.istore_n 2, 1) := by decide +kernel
theorem dX6_statement_306 : decode cX6_statement 306 = .ok (.iload_n 2, 1) := by decide +kernel
theorem dX6_statement_307 : decode cX6_statement 307 = .ok (.ifCond .ne 14, 3) := by decide +kernel
theorem dX6_statement_310 : decode cX6_statement 310 = .ok (.aload_n 0, 1) := by decide +kernel
theorem dX6_statement_311 : decode cX6_statement 311 = .ok (.bipush 100, 2) := by decide +kernel
theorem dX6_statement_313 : decode cX6_statement 313 = .ok (.invokevirtual 104, 3) := by decide +kernel
theorem dX6_statement_316 : decode cX6_statement 316 = .ok (.ifCond .ne 5, 3) := by decide +kernel
theorem dX6_statement_319 : decode cX6_statement 319 = .ok (.iconst (-1), 1) := by decide +kernel
theorem dX6_statement_320 : decode cX6_statement 320 = .ok (.ireturn, 1) := by decide +kernel
theorem dX6_statement_321 : decode cX6_statement 321 = .ok (.aload_n 0, 1) := by decide +kernel
theorem dX6_statement_322 : decode cX6_statement 322 = .ok (.invokevirtual 111, 3) := by decide +kernel
theorem dX6_statement_325 : decode cX6_statement 325 = .ok (.ifCond .ne 5, 3) := by decide +kernel
theorem dX6_statement_328 : decode cX6_statement 328 = .ok (.iconst (-1), 1) := by decide +kernel
theorem dX6_statement_329 : decode cX6_statement 329 = .ok (.ireturn, 1) := by decide +kernel
theorem dX6_statement_330 : decode cX6_statement 330 = .ok (.aload_n 0, 1) := by decide +kernel
theorem dX6_statement_331 : decode cX6_statement 331 = .ok (.getfield 91, 3) := by decide +kernel
theorem dX6_statement_334 : decode cX6_statement 334 = .ok (.istore_n 3, 1) := by decide +kernel
theorem dX6_statement_335 : decode cX6_statement 335 = .ok (.aload_n 0, 1) := by decide +kernel
theorem dX6_statement_336 : decode cX6_statement 336 = .ok (.bipush 44, 2) := by decide +kernel
theorem dX6_statement_338 : decode cX6_statement 338 = .ok (.invokevirtual 104, 3) := by decide +kernel
theorem dX6_statement_341 : decode cX6_statement 341 = .ok (.ifCond .eq 10, 3) := by decide +kernel
theorem dX6_statement_344 : decode cX6_statement 344 = .ok (.aload_n 0, 1) := by decide +kernel
theorem dX6_statement_345 : decode cX6_statement 345 = .ok (.invokevirtual 94, 3) := by decide +kernel
theorem dX6_statement_348 : decode cX6_statement 348 = .ok (.ifCond .ne 5, 3) := by decide +kernel
theorem dX6_statement_351 : decode cX6_statement 351 = .ok (.iconst (-1), 1) := by decide +kernel
theorem dX6_statement_352 : decode cX6_statement 352 = .ok (.ireturn, 1) := by decide +kernel
theorem dX6_statement_353 : decode cX6_statement 353 = .ok (.iload_n 1, 1) := by decide +kernel
theorem dX6_statement_354 : decode cX6_statement 354 = .ok (.ifCond .ne 5, 3) := by decide +kernel
theorem dX6_statement_357 : decode cX6_statement 357 = .ok (.iconst 1, 1) := by decide +kernel
theorem dX6_statement_358 : decode cX6_statement 358 = .ok (.ireturn, 1) := by decide +kernel
theorem dX6_statement_359 : decode cX6_statement 359 = .ok (.aload_n 0, 1) := by decide +kernel
theorem dX6_statement_360 : decode cX6_statement 360 = .ok (.iload_n 3, 1) := by decide +kernel
theorem dX6_statement_361 : decode cX6_statement 361 = .ok (.invokevirtual 117, 3) := by decide +kernel
theorem dX6_statement_364 : decode cX6_statement 364 = .ok (.ifCond .ne 5, 3) := by decide +kernel
theorem dX6_statement_367 : decode cX6_statement 367 = .ok (.iconst 0, 1) := by decide +kernel
theorem dX6_statement_368 : decode cX6_statement 368 = .ok (.ireturn, 1) := by decide +kernel
theorem dX6_statement_369 : decode cX6_statement 369 = .ok (.iload_n 2, 1) := by decide +kernel
theorem dX6_statement_370 : decode cX6_statement 370 = .ok (.ifCond .eq 22, 3) := by decide +kernel
theorem dX6_statement_373 : decode cX6_statement 373 = .ok (.aload_n 0, 1) := by decide +kernel
theorem dX6_statement_374 : decode cX6_statement 374 = .ok (.getfield 91, 3) := by decide +kernel
theorem dX6_statement_377 : decode cX6_statement 377 = .ok (.bipush 9, 2) := by decide +kernel
theorem dX6_statement_379 : decode cX6_statement 379 = .ok (.if_icmp .ne 13, 3) := by decide +kernel
theorem dX6_statement_382 : decode cX6_statement 382 = .ok (.aload_n 0, 1) := by decide +kernel
theorem dX6_statement_383 : decode cX6_statement 383 = .ok (.getfield 25, 3) := by decide +kernel
theorem dX6_statement_386 : decode cX6_statement 386 = .ok (.iload_n 3, 1) := by decide +kernel
theorem dX6_statement_387 : decode cX6_statement 387 = .ok (.bipush (-9), 2) := by decide +kernel
theorem dX6_statement_389 : decode cX6_statement 389 = .ok (.iastore, 1) := by decide +kernel
theorem dX6_statement_390 : decode cX6_statement 390 = .ok (.iconst 1, 1) := by decide +kernel
theorem dX6_statement_391 : decode cX6_statement 391 = .ok (.ireturn, 1) := by decide +kernel
theorem dX6_statement_392 : decode cX6_statement 392 = .ok (.aload_n 0, 1) := by decide +kernel
theorem dX6_statement_393 : decode cX6_statement 393 = .ok (.aload_n 0, 1) := by decide +kernel
theorem dX6_statement_394 : decode cX6_statement 394 = .ok (.getfield 91, 3) := by decide +kernel
theorem dX6_statement_397 : decode cX6_statement 397 = .ok (.invokevirtual 120, 3) := by decide +kernel
theorem dX6_statement_400 : decode cX6_statement 400 = .ok (.ifCond .eq 31, 3) := by decide +kernel
theorem dX6_statement_403 : decode cX6_statement 403 = .ok (.iload_n 2, 1) := by decide +kernel
theorem dX6_statement_404 : decode cX6_statement 404 = .ok (.ifCond .ne 29, 3) := by decide +kernel
theorem dX6_statement_407 : decode cX6_statement 407 = .ok (.aload_n 0, 1) := by decide +kernel
theorem dX6_statement_408 : decode cX6_statement 408 = .ok (.getfield 25, 3) := by decide +kernel
theorem dX6_statement_411 : decode cX6_statement 411 = .ok (.iload_n 3, 1) := by decide +kernel
theorem dX6_statement_412 : decode cX6_statement 412 = .ok (.iaload, 1) := by decide +kernel
theorem dX6_statement_413 : decode cX6_statement 413 = .ok (.bipush (-9), 2) := by decide +kernel
theorem dX6_statement_415 : decode cX6_statement 415 = .ok (.if_icmp .eq 18, 3) := by decide +kernel
theorem dX6_statement_418 : decode cX6_statement 418 = .ok (.aload_n 0, 1) := by decide +kernel
theorem dX6_statement_419 : decode cX6_statement 419 = .ok (.getfield 25, 3) := by decide +kernel
theorem dX6_statement_422 : decode cX6_statement 422 = .ok (.iload_n 3, 1) := by decide +kernel
theorem dX6_statement_423 : decode cX6_statement 423 = .ok (.iaload, 1) := by decide +kernel
theorem dX6_statement_424 : decode cX6_statement 424 = .ok (.aload_n 0, 1) := by decide +kernel
theorem dX6_statement_425 : decode cX6_statement 425 = .ok (.getfield 91, 3) := by decide +kernel
theorem dX6_statement_428 : decode cX6_statement 428 = .ok (.if_icmp .eq 5, 3) := by decide +kernel
theorem dX6_statement_431 : decode cX6_statement 431 = .ok (.iconst 0, 1) := by decide +kernel
theorem dX6_statement_432 : decode cX6_statement 432 = .ok (.ireturn, 1) := by decide +kernel
theorem dX6_statement_433 : decode cX6_statement 433 = .ok (.iload_n 2, 1) := by decide +kernel
theorem dX6_statement_434 : decode cX6_statement 434 = .ok (.ifCond .eq 13, 3) := by decide +kernel
theorem dX6_statement_437 : decode cX6_statement 437 = .ok (.aload_n 0, 1) := by decide +kernel
theorem dX6_statement_438 : decode cX6_statement 438 = .ok (.getfield 25, 3) := by decide +kernel
theorem dX6_statement_441 : decode cX6_statement 441 = .ok (.iload_n 3, 1) := by decide +kernel
theorem dX6_statement_442 : decode cX6_statement 442 = .ok (.aload_n 0, 1) := by decide +kernel
theorem dX6_statement_443 : decode cX6_statement 443 = .ok (.getfield 91, 3) := by decide +kernel
theorem dX6_statement_446 : decode cX6_statement 446 = .ok (.iastore, 1) := by decide +kernel
theorem dX6_statement_447 : decode cX6_statement 447 = .ok (.aload_n 0, 1) := by decide +kernel
theorem dX6_statement_448 : decode cX6_statement 448 = .ok (.getfield 22, 3) := by decide +kernel
theorem dX6_statement_451 : decode cX6_statement 451 = .ok (.iload_n 3, 1) := by decide +kernel
theorem dX6_statement_452 : decode cX6_statement 452 = .ok (.aload_n 0, 1) := by decide +kernel
theorem dX6_statement_453 : decode cX6_statement 453 = .ok (.getfield 91, 3) := by decide +kernel
theorem dX6_statement_456 : decode cX6_statement 456 = .ok (.iastore, 1) := by decide +kernel
theorem dX6_statement_457 : decode cX6_statement 457 = .ok (.iconst 1, 1) := by decide +kernel
theorem dX6_statement_458 : decode cX6_statement 458 = .ok (.ireturn, 1) := by decide +kernel
set_option maxRecDepth 20000 in
theorem ggX6_land_X6_statement : GoodIn wsX6_land wsX6_statement := goodIn_r _ [8, 1, 2, 9, 10, 11, 12, 13, 14, 15, 16, 17, 18, 19, 20, 21, 22, 7, 23, 24, 25, 26, 27, 28, 29, 30, 31, 32, 33, 34, 35, 36, 37, 38, 39, 40, 41, 42, 43, 44, 45, 46, 47, 48, 49, 50, 51, 52, 53, 54, 55, 56, 57, 58, 59, 60, 61, 62, 63, 64, 65, 66, 67, 68, 69, 70, 71, 72, 73, 74, 75, 76, 77, 78, 79, 80, 81, 82, 83, 84, 85, 86, 87, 88, 89, 90, 91, 92, 93, 94, 95, 96, 97, 98, 99, 100, 101, 102, 103, 104, 105, 106, 107, 108, 109, 110, 111, 112, 113, 114, 115, 116, 117, 118, 119, 120, 121, 122, 123, 124, 125, 126, 127, 128, 129, 130, 131, 132, 133, 134, 135, 136, 137, 138, 139, 140, 141, 142, 143, 152, 153, 154, 155, 156, 157, 158, 159, 160, 161, 162, 163, 164, 165, 166, 167, 168, 169, 170, 171, 172, 173, 174, 175] (by decide +kernel) (by decide +kernel)
set_option maxRecDepth 20000 in
theorem gX6_land_X6_statement : GoodIn wsX6_land (wsV RX6 123 RX6 yX6_statement wsX6_statement) := goodIn_app (goodIn_of _ (by decide +kernel)) ggX6_land_X6_statement
set_option maxRecDepth 20000 in
theorem ggX6_land_X6_is : GoodIn wsX6_land wsX6_is := goodIn_r _ [23, 1, 2, 9, 152, 153, 154, 155, 156, 157, 158, 159, 160, 161, 162, 163, 164, 165, 166, 167, 168, 169, 170, 171, 172, 173, 174, 175] (by decide +kernel) (by decide +kernel)
set_option maxRecDepth 20000 in
theorem gX6_land_X6_is : GoodIn wsX6_land (wsV RX6 104 RX6 yX6_is wsX6_is) := goodIn_app (goodIn_of _ (by decide +kernel)) ggX6_land_X6_is
set_option maxRecDepth 20000 in
theorem ggX6_land_X6_keep : GoodIn wsX6_land wsX6_keep := goodIn_r _ [147, 19, 18, 12, 13, 14, 15, 11, 135, 16, 17, 152, 153, 154, 155, 156, 157, 158, 159, 160, 161, 162, 163, 164, 165, 166, 167, 168, 169, 170, 171, 172, 173, 174, 175] (by decide +kernel) (by decide +kernel)
set_option maxRecDepth 20000 in
theorem gX6_land_X6_keep : GoodIn wsX6_land (wsV RX6 127 RX6 yX6_keep wsX6_keep) := goodIn_app (goodIn_of _ (by decide +kernel)) ggX6_land_X6_keep
set_option maxRecDepth 20000 in
theorem ggX6_land_X6_again : GoodIn wsX6_land wsX6_again := goodIn_r _ [151, 19, 18, 12, 13, 14, 15, 11, 135, 16, 17, 152, 153, 154, 155, 156, 157, 158, 159, 160, 161, 162, 163, 164, 165, 166, 167, 168, 169, 170, 171, 172, 173, 174, 175] (by decide +kernel) (by decide +kernel)
set_option maxRecDepth 20000 in
theorem gX6_land_X6_again : GoodIn wsX6_land (wsV RX6 131 RX6 yX6_again wsX6_again) := goodIn_app (goodIn_of _ (by decide +kernel)) ggX6_land_X6_again
theorem dX6_land_0 : decode cX6_land 0 = .ok (.aload_n 0, 1) := by decide +kernel
theorem dX6_land_1 : decode cX6_land 1 = .ok (.iconst 0, 1) := by decide +kernel
theorem dX6_land_2 : decode cX6_land 2 = .ok (.putfield 84, 3) := by decide +kernel
theorem dX6_land_5 : decode cX6_land 5 = .ok (.iconst 1, 1) := by decide +kernel
theorem dX6_land_6 : decode cX6_land 6 = .ok (.istore_n 1, 1) := by decide +kernel
theorem dX6_land_7 : decode cX6_land 7 = .ok (.iload_n 1, 1) := by decide +kernel
theorem dX6_land_8 : decode cX6_land 8 = .ok (.ifCond .eq 45, 3) := by decide +kernel
theorem dX6_land_11 : decode cX6_land 11 = .ok (.aload_n 0, 1) := by decide +kernel
theorem dX6_land_12 : decode cX6_land 12 = .ok (.iconst 0, 1) := by decide +kernel
theorem dX6_land_13 : decode cX6_land 13 = .ok (.invokevirtual 123, 3) := by decide +kernel
theorem dX6_land_16 : decode cX6_land 16 = .ok (.iconst 1, 1) := by decide +kernel
theorem dX6_land_17 : decode cX6_land 17 = .ok (.if_icmp .ne 16, 3) := by decide +kernel
theorem dX6_land_20 : decode cX6_land 20 = .ok (.aload_n 0, 1) := by decide +kernel
theorem dX6_land_21 : decode cX6_land 21 = .ok (.bipush 59, 2) := by decide +kernel
theorem dX6_land_23 : decode cX6_land 23 = .ok (.invokevirtual 104, 3) := by decide +kernel
theorem dX6_land_26 : decode cX6_land 26 = .ok (.ifCond .eq 7, 3) := by decide +kernel
theorem dX6_land_29 : decode cX6_land 29 = .ok (.iconst 1, 1) := by decide +kernel
theorem dX6_land_30 : decode cX6_land 30 = .ok (.goto 4, 3) := by decide +kernel
theorem dX6_land_33 : decode cX6_land 33 = .ok (.iconst 0, 1) := by decide +kernel
theorem dX6_land_34 : decode cX6_land 34 = .ok (.istore_n 1, 1) := by decide +kernel
theorem dX6_land_35 : decode cX6_land 35 = .ok (.iload_n 1, 1) := by decide +kernel
theorem dX6_land_36 : decode cX6_land 36 = .ok (.ifCond .eq (-29), 3) := by decide +kernel
theorem dX6_land_39 : decode cX6_land 39 = .ok (.aload_n 0, 1) := by decide +kernel
theorem dX6_land_40 : decode cX6_land 40 = .ok (.getfield 84, 3) := by decide +kernel
theorem dX6_land_43 : decode cX6_land 43 = .ok (.aload_n 0, 1) := by decide +kernel
theorem dX6_land_44 : decode cX6_land 44 = .ok (.getfield 81, 3) := by decide +kernel
theorem dX6_land_47 : decode cX6_land 47 = .ok (.if_icmp .ne (-40), 3) := by decide +kernel
theorem dX6_land_50 : decode cX6_land 50 = .ok (.goto 3, 3) := by decide +kernel
theorem dX6_land_53 : decode cX6_land 53 = .ok (.iload_n 1, 1) := by decide +kernel
theorem dX6_land_54 : decode cX6_land 54 = .ok (.ifCond .ne 17, 3) := by decide +kernel
theorem dX6_land_57 : decode cX6_land 57 = .ok (.aload_n 0, 1) := by decide +kernel
theorem dX6_land_58 : decode cX6_land 58 = .ok (.iconst 0, 1) := by decide +kernel
theorem dX6_land_59 : decode cX6_land 59 = .ok (.putfield 81, 3) := by decide +kernel
theorem dX6_land_62 : decode cX6_land 62 = .ok (.sipush (-1000), 3) := by decide +kernel
theorem dX6_land_65 : decode cX6_land 65 = .ok (.aload_n 0, 1) := by decide +kernel
theorem dX6_land_66 : decode cX6_land 66 = .ok (.getfield 84, 3) := by decide +kernel
theorem dX6_land_69 : decode cX6_land 69 = .ok (.isub, 1) := by decide +kernel
theorem dX6_land_70 : decode cX6_land 70 = .ok (.ireturn, 1) := by decide +kernel
theorem dX6_land_71 : decode cX6_land 71 = .ok (.aload_n 0, 1) := by decide +kernel
theorem dX6_land_72 : decode cX6_land 72 = .ok (.aload_n 0, 1) := by decide +kernel
theorem dX6_land_73 : decode cX6_land 73 = .ok (.getfield 40, 3) := by decide +kernel
theorem dX6_land_76 : decode cX6_land 76 = .ok (.invokevirtual 127, 3) := by decide +kernel
theorem dX6_land_79 : decode cX6_land 79 = .ok (.aload_n 0, 1) := by decide +kernel
theorem dX6_land_80 : decode cX6_land 80 = .ok (.iconst 0, 1) := by decide +kernel
theorem dX6_land_81 : decode cX6_land 81 = .ok (.putfield 84, 3) := by decide +kernel
theorem dX6_land_84 : decode cX6_land 84 = .ok (.iconst 0, 1) := by decide +kernel
theorem dX6_land_85 : decode cX6_land 85 = .ok (.istore_n 2, 1) := by decide +kernel
theorem dX6_land_86 : decode cX6_land 86 = .ok (.aload_n 0, 1) := by decide +kernel
theorem dX6_land_87 : decode cX6_land 87 = .ok (.getfield 84, 3) := by decide +kernel
theorem dX6_land_90 : decode cX6_land 90 = .ok (.aload_n 0, 1) := by decide +kernel
theorem dX6_land_91 : decode cX6_land 91 = .ok (.getfield 81, 3) := by decide +kernel
theorem dX6_land_94 : decode cX6_land 94 = .ok (.if_icmp .ge 48, 3) := by decide +kernel
theorem dX6_land_97 : decode cX6_land 97 = .ok (.aload_n 0, 1) := by decide +kernel
theorem dX6_land_98 : decode cX6_land 98 = .ok (.getfield 84, 3) := by decide +kernel
theorem dX6_land_101 : decode cX6_land 101 = .ok (.istore_n 3, 1) := by decide +kernel
theorem dX6_land_102 : decode cX6_land 102 = .ok (.aload_n 0, 1) := by decide +kernel
theorem dX6_land_103 : decode cX6_land 103 = .ok (.iconst 1, 1) := by decide +kernel
theorem dX6_land_104 : decode cX6_land 104 = .ok (.invokevirtual 123, 3) := by decide +kernel
theorem dX6_land_107 : decode cX6_land 107 = .ok (.ifCond .ne 22, 3) := by decide +kernel
theorem dX6_land_110 : decode cX6_land 110 = .ok (.aload_n 0, 1) := by decide +kernel
theorem dX6_land_111 : decode cX6_land 111 = .ok (.aload_n 0, 1) := by decide +kernel
theorem dX6_land_112 : decode cX6_land 112 = .ok (.getfield 40, 3) := by decide +kernel
theorem dX6_land_115 : decode cX6_land 115 = .ok (.invokevirtual 131, 3) := by decide +kernel
theorem dX6_land_118 : decode cX6_land 118 = .ok (.aload_n 0, 1) := by decide +kernel
theorem dX6_land_119 : decode cX6_land 119 = .ok (.iconst 0, 1) := by decide +kernel
theorem dX6_land_120 : decode cX6_land 120 = .ok (.putfield 81, 3) := by decide +kernel
theorem dX6_land_123 : decode cX6_land 123 = .ok (.sipush (-2000), 3) := by decide +kernel
theorem dX6_land_126 : decode cX6_land 126 = .ok (.iload_n 3, 1) := by decide +kernel
theorem dX6_land_127 : decode cX6_land 127 = .ok (.isub, 1) := by decide +kernel
theorem dX6_land_128 : decode cX6_land 128 = .ok (.ireturn, 1) := by decide +kernel
theorem dX6_land_129 : decode cX6_land 129 = .ok (.aload_n 0, 1) := by decide +kernel
theorem dX6_land_130 : decode cX6_land 130 = .ok (.bipush 59, 2) := by decide +kernel
theorem dX6_land_132 : decode cX6_land 132 = .ok (.invokevirtual 104, 3) := by decide +kernel
theorem dX6_land_135 : decode cX6_land 135 = .ok (.pop, 1) := by decide +kernel
theorem dX6_land_136 : decode cX6_land 136 = .ok (.iinc 2 1, 3) := by decide +kernel
theorem dX6_land_139 : decode cX6_land 139 = .ok (.goto (-53), 3) := by decide +kernel
theorem dX6_land_142 : decode cX6_land 142 = .ok (.aload_n 0, 1) := by decide +kernel
theorem dX6_land_143 : decode cX6_land 143 = .ok (.iconst 0, 1) := by decide +kernel
theorem dX6_land_144 : decode cX6_land 144 = .ok (.putfield 81, 3) := by decide +kernel
theorem dX6_land_147 : decode cX6_land 147 = .ok (.iload_n 2, 1) := by decide +kernel
theorem dX6_land_148 : decode cX6_land 148 = .ok (.ireturn, 1) := by decide +kernel
set_option maxRecDepth 20000 in
theorem ggX6_thing_X6_isThing : GoodIn wsX6_thing wsX6_isThing := goodIn_r _ [9, 10, 11, 12, 8, 13, 19, 20, 21, 22, 23, 24, 25, 26, 27, 28, 29, 30, 31, 32, 33, 34, 35, 36, 37, 38, 39, 40, 41, 42] (by decide +kernel) (by decide +kernel)
set_option maxRecDepth 20000 in
theorem gX6_thing_X6_isThing : GoodIn wsX6_thing (wsV RX6 120 RX6 yX6_isThing wsX6_isThing) := goodIn_app (goodIn_of _ (by decide +kernel)) ggX6_thing_X6_isThing
set_option maxRecDepth 20000 in
theorem ggX6_thing_X6_no : GoodIn wsX6_thing wsX6_no := goodIn_r _ [17, 18, 19, 20, 21, 22, 23, 24, 25, 26, 27, 28, 29, 30, 31, 32, 33, 34, 35, 36, 37, 38, 39, 40, 41, 42] (by decide +kernel) (by decide +kernel)
set_option maxRecDepth 20000 in
theorem gX6_thing_X6_no : GoodIn wsX6_thing (wsV RX6 65 RX6 yX6_no wsX6_no) := goodIn_app (goodIn_of _ (by decide +kernel)) ggX6_thing_X6_no
theorem dX6_thing_0 : decode cX6_thing 0 = .ok (.aload_n 0, 1) := by decide +kernel
theorem dX6_thing_1 : decode cX6_thing 1 = .ok (.iload_n 1, 1) := by decide +kernel
theorem dX6_thing_2 : decode cX6_thing 2 = .ok (.invokevirtual 120, 3) := by decide +kernel
theorem dX6_thing_5 : decode cX6_thing 5 = .ok (.ifCond .ne 9, 3) := by decide +kernel
theorem dX6_thing_8 : decode cX6_thing 8 = .ok (.aload_n 0, 1) := by decide +kernel
theorem dX6_thing_9 : decode cX6_thing 9 = .ok (.iconst (-1), 1) := by decide +kernel
theorem dX6_thing_10 : decode cX6_thing 10 = .ok (.invokevirtual 65, 3) := by decide +kernel
theorem dX6_thing_13 : decode cX6_thing 13 = .ok (.ireturn, 1) := by decide +kernel
theorem dX6_thing_14 : decode cX6_thing 14 = .ok (.iload_n 2, 1) := by decide +kernel
theorem dX6_thing_15 : decode cX6_thing 15 = .ok (.tableswitch 57 0 3 #[29, 36, 43, 50], 29) := by decide +kernel
theorem dX6_thing_44 : decode cX6_thing 44 = .ok (.aload_n 0, 1) := by decide +kernel
theorem dX6_thing_45 : decode cX6_thing 45 = .ok (.getfield 7, 3) := by decide +kernel
theorem dX6_thing_48 : decode cX6_thing 48 = .ok (.iload_n 1, 1) := by decide +kernel
theorem dX6_thing_49 : decode cX6_thing 49 = .ok (.iaload, 1) := by decide +kernel
theorem dX6_thing_50 : decode cX6_thing 50 = .ok (.ireturn, 1) := by decide +kernel
theorem dX6_thing_51 : decode cX6_thing 51 = .ok (.aload_n 0, 1) := by decide +kernel
theorem dX6_thing_52 : decode cX6_thing 52 = .ok (.getfield 13, 3) := by decide +kernel
theorem dX6_thing_55 : decode cX6_thing 55 = .ok (.iload_n 1, 1) := by decide +kernel
theorem dX6_thing_56 : decode cX6_thing 56 = .ok (.iaload, 1) := by decide +kernel
theorem dX6_thing_57 : decode cX6_thing 57 = .ok (.ireturn, 1) := by decide +kernel
theorem dX6_thing_58 : decode cX6_thing 58 = .ok (.aload_n 0, 1) := by decide +kernel
theorem dX6_thing_59 : decode cX6_thing 59 = .ok (.getfield 16, 3) := by decide +kernel
theorem dX6_thing_62 : decode cX6_thing 62 = .ok (.iload_n 1, 1) := by decide +kernel
theorem dX6_thing_63 : decode cX6_thing 63 = .ok (.iaload, 1) := by decide +kernel
theorem dX6_thing_64 : decode cX6_thing 64 = .ok (.ireturn, 1) := by decide +kernel
theorem dX6_thing_65 : decode cX6_thing 65 = .ok (.aload_n 0, 1) := by decide +kernel
theorem dX6_thing_66 : decode cX6_thing 66 = .ok (.getfield 19, 3) := by decide +kernel
theorem dX6_thing_69 : decode cX6_thing 69 = .ok (.iload_n 1, 1) := by decide +kernel
theorem dX6_thing_70 : decode cX6_thing 70 = .ok (.iaload, 1) := by decide +kernel
theorem dX6_thing_71 : decode cX6_thing 71 = .ok (.ireturn, 1) := by decide +kernel
theorem dX6_thing_72 : decode cX6_thing 72 = .ok (.aload_n 0, 1) := by decide +kernel
theorem dX6_thing_73 : decode cX6_thing 73 = .ok (.bipush (-2), 2) := by decide +kernel
theorem dX6_thing_75 : decode cX6_thing 75 = .ok (.invokevirtual 65, 3) := by decide +kernel
theorem dX6_thing_78 : decode cX6_thing 78 = .ok (.ireturn, 1) := by decide +kernel
set_option maxRecDepth 20000 in
theorem ggX6_does_X6_isDay : GoodIn wsX6_does wsX6_isDay := goodIn_r _ [7, 8, 9, 10, 6, 11, 22, 23, 24, 25, 26, 27, 28, 29, 30, 31, 32, 33, 34, 35, 36, 37, 38, 39, 40, 41, 42, 43, 44, 45] (by decide +kernel) (by decide +kernel)
set_option maxRecDepth 20000 in
theorem gX6_does_X6_isDay : GoodIn wsX6_does (wsV RX6 117 RX6 yX6_isDay wsX6_isDay) := goodIn_app (goodIn_of _ (by decide +kernel)) ggX6_does_X6_isDay
set_option maxRecDepth 20000 in
theorem ggX6_does_X6_isThing : GoodIn wsX6_does wsX6_isThing := goodIn_r _ [15, 16, 9, 10, 6, 11, 22, 23, 24, 25, 26, 27, 28, 29, 30, 31, 32, 33, 34, 35, 36, 37, 38, 39, 40, 41, 42, 43, 44, 45] (by decide +kernel) (by decide +kernel)
set_option maxRecDepth 20000 in
theorem gX6_does_X6_isThing : GoodIn wsX6_does (wsV RX6 120 RX6 yX6_isThing wsX6_isThing) := goodIn_app (goodIn_of _ (by decide +kernel)) ggX6_does_X6_isThing
set_option maxRecDepth 20000 in
theorem ggX6_does_X6_no : GoodIn wsX6_does wsX6_no := goodIn_r _ [20, 21, 22, 23, 24, 25, 26, 27, 28, 29, 30, 31, 32, 33, 34, 35, 36, 37, 38, 39, 40, 41, 42, 43, 44, 45] (by decide +kernel) (by decide +kernel)
set_option maxRecDepth 20000 in
theorem gX6_does_X6_no : GoodIn wsX6_does (wsV RX6 65 RX6 yX6_no wsX6_no) := goodIn_app (goodIn_of _ (by decide +kernel)) ggX6_does_X6_no
theorem dX6_does_0 : decode cX6_does 0 = .ok (.aload_n 0, 1) := by decide +kernel
theorem dX6_does_1 : decode cX6_does 1 = .ok (.iload_n 1, 1) := by decide +kernel
theorem dX6_does_2 : decode cX6_does 2 = .ok (.invokevirtual 117, 3) := by decide +kernel
theorem dX6_does_5 : decode cX6_does 5 = .ok (.ifCond .eq 11, 3) := by decide +kernel
theorem dX6_does_8 : decode cX6_does 8 = .ok (.aload_n 0, 1) := by decide +kernel
theorem dX6_does_9 : decode cX6_does 9 = .ok (.iload_n 2, 1) := by decide +kernel
theorem dX6_does_10 : decode cX6_does 10 = .ok (.invokevirtual 120, 3) := by decide +kernel
theorem dX6_does_13 : decode cX6_does 13 = .ok (.ifCond .ne 9, 3) := by decide +kernel
theorem dX6_does_16 : decode cX6_does 16 = .ok (.aload_n 0, 1) := by decide +kernel
theorem dX6_does_17 : decode cX6_does 17 = .ok (.iconst (-1), 1) := by decide +kernel
theorem dX6_does_18 : decode cX6_does 18 = .ok (.invokevirtual 65, 3) := by decide +kernel
theorem dX6_does_21 : decode cX6_does 21 = .ok (.ireturn, 1) := by decide +kernel
theorem dX6_does_22 : decode cX6_does 22 = .ok (.aload_n 0, 1) := by decide +kernel
theorem dX6_does_23 : decode cX6_does 23 = .ok (.getfield 25, 3) := by decide +kernel
theorem dX6_does_26 : decode cX6_does 26 = .ok (.iload_n 1, 1) := by decide +kernel
theorem dX6_does_27 : decode cX6_does 27 = .ok (.iaload, 1) := by decide +kernel
theorem dX6_does_28 : decode cX6_does 28 = .ok (.bipush (-9), 2) := by decide +kernel
theorem dX6_does_30 : decode cX6_does 30 = .ok (.if_icmp .eq 20, 3) := by decide +kernel
theorem dX6_does_33 : decode cX6_does 33 = .ok (.aload_n 0, 1) := by decide +kernel
theorem dX6_does_34 : decode cX6_does 34 = .ok (.getfield 25, 3) := by decide +kernel
theorem dX6_does_37 : decode cX6_does 37 = .ok (.iload_n 1, 1) := by decide +kernel
theorem dX6_does_38 : decode cX6_does 38 = .ok (.iaload, 1) := by decide +kernel
theorem dX6_does_39 : decode cX6_does 39 = .ok (.iload_n 2, 1) := by decide +kernel
theorem dX6_does_40 : decode cX6_does 40 = .ok (.if_icmp .eq 10, 3) := by decide +kernel
theorem dX6_does_43 : decode cX6_does 43 = .ok (.aload_n 0, 1) := by decide +kernel
theorem dX6_does_44 : decode cX6_does 44 = .ok (.bipush (-3), 2) := by decide +kernel
theorem dX6_does_46 : decode cX6_does 46 = .ok (.invokevirtual 65, 3) := by decide +kernel
theorem dX6_does_49 : decode cX6_does 49 = .ok (.ireturn, 1) := by decide +kernel
theorem dX6_does_50 : decode cX6_does 50 = .ok (.aload_n 0, 1) := by decide +kernel
theorem dX6_does_51 : decode cX6_does 51 = .ok (.getfield 22, 3) := by decide +kernel
theorem dX6_does_54 : decode cX6_does 54 = .ok (.iload_n 1, 1) := by decide +kernel
theorem dX6_does_55 : decode cX6_does 55 = .ok (.iaload, 1) := by decide +kernel
theorem dX6_does_56 : decode cX6_does 56 = .ok (.istore_n 3, 1) := by decide +kernel
theorem dX6_does_57 : decode cX6_does 57 = .ok (.aload_n 0, 1) := by decide +kernel
theorem dX6_does_58 : decode cX6_does 58 = .ok (.getfield 22, 3) := by decide +kernel
theorem dX6_does_61 : decode cX6_does 61 = .ok (.iload_n 1, 1) := by decide +kernel
theorem dX6_does_62 : decode cX6_does 62 = .ok (.iload_n 2, 1) := by decide +kernel
theorem dX6_does_63 : decode cX6_does 63 = .ok (.iastore, 1) := by decide +kernel
theorem dX6_does_64 : decode cX6_does 64 = .ok (.iload_n 3, 1) := by decide +kernel
theorem dX6_does_65 : decode cX6_does 65 = .ok (.ireturn, 1) := by decide +kernel
set_option maxRecDepth 20000 in
theorem ggX6_bind_X6_isDay : GoodIn wsX6_bind wsX6_isDay := goodIn_r _ [7, 8, 9, 10, 6, 11, 22, 23, 24, 25, 26, 27, 28, 29, 30, 31, 32, 33, 34, 35, 36, 37, 38, 39, 40, 41, 42, 43, 44, 45] (by decide +kernel) (by decide +kernel)
set_option maxRecDepth 20000 in
theorem gX6_bind_X6_isDay : GoodIn wsX6_bind (wsV RX6 117 RX6 yX6_isDay wsX6_isDay) := goodIn_app (goodIn_of _ (by decide +kernel)) ggX6_bind_X6_isDay
set_option maxRecDepth 20000 in
theorem ggX6_bind_X6_isThing : GoodIn wsX6_bind wsX6_isThing := goodIn_r _ [15, 16, 9, 10, 6, 11, 22, 23, 24, 25, 26, 27, 28, 29, 30, 31, 32, 33, 34, 35, 36, 37, 38, 39, 40, 41, 42, 43, 44, 45] (by decide +kernel) (by decide +kernel)
set_option maxRecDepth 20000 in
theorem gX6_bind_X6_isThing : GoodIn wsX6_bind (wsV RX6 120 RX6 yX6_isThing wsX6_isThing) := goodIn_app (goodIn_of _ (by decide +kernel)) ggX6_bind_X6_isThing
set_option maxRecDepth 20000 in
theorem ggX6_bind_X6_no : GoodIn wsX6_bind wsX6_no := goodIn_r _ [20, 21, 22, 23, 24, 25, 26, 27, 28, 29, 30, 31, 32, 33, 34, 35, 36, 37, 38, 39, 40, 41, 42, 43, 44, 45] (by decide +kernel) (by decide +kernel)
set_option maxRecDepth 20000 in
theorem gX6_bind_X6_no : GoodIn wsX6_bind (wsV RX6 65 RX6 yX6_no wsX6_no) := goodIn_app (goodIn_of _ (by decide +kernel)) ggX6_bind_X6_no
theorem dX6_bind_0 : decode cX6_bind 0 = .ok (.aload_n 0, 1) := by decide +kernel
theorem dX6_bind_1 : decode cX6_bind 1 = .ok (.iload_n 1, 1) := by decide +kernel
theorem dX6_bind_2 : decode cX6_bind 2 = .ok (.invokevirtual 117, 3) := by decide +kernel
theorem dX6_bind_5 : decode cX6_bind 5 = .ok (.ifCond .eq 16, 3) := by decide +kernel
theorem dX6_bind_8 : decode cX6_bind 8 = .ok (.iload_n 2, 1) := by decide +kernel
theorem dX6_bind_9 : decode cX6_bind 9 = .ok (.iconst (-1), 1) := by decide +kernel
theorem dX6_bind_10 : decode cX6_bind 10 = .ok (.if_icmp .eq 17, 3) := by decide +kernel
theorem dX6_bind_13 : decode cX6_bind 13 = .ok (.aload_n 0, 1) := by decide +kernel
theorem dX6_bind_14 : decode cX6_bind 14 = .ok (.iload_n 2, 1) := by decide +kernel
theorem dX6_bind_15 : decode cX6_bind 15 = .ok (.invokevirtual 120, 3) := by decide +kernel
theorem dX6_bind_18 : decode cX6_bind 18 = .ok (.ifCond .ne 9, 3) := by decide +kernel
theorem dX6_bind_21 : decode cX6_bind 21 = .ok (.aload_n 0, 1) := by decide +kernel
theorem dX6_bind_22 : decode cX6_bind 22 = .ok (.iconst (-1), 1) := by decide +kernel
theorem dX6_bind_23 : decode cX6_bind 23 = .ok (.invokevirtual 65, 3) := by decide +kernel
theorem dX6_bind_26 : decode cX6_bind 26 = .ok (.ireturn, 1) := by decide +kernel
theorem dX6_bind_27 : decode cX6_bind 27 = .ok (.aload_n 0, 1) := by decide +kernel
theorem dX6_bind_28 : decode cX6_bind 28 = .ok (.getfield 25, 3) := by decide +kernel
theorem dX6_bind_31 : decode cX6_bind 31 = .ok (.iload_n 1, 1) := by decide +kernel
theorem dX6_bind_32 : decode cX6_bind 32 = .ok (.iaload, 1) := by decide +kernel
theorem dX6_bind_33 : decode cX6_bind 33 = .ok (.istore_n 3, 1) := by decide +kernel
theorem dX6_bind_34 : decode cX6_bind 34 = .ok (.aload_n 0, 1) := by decide +kernel
theorem dX6_bind_35 : decode cX6_bind 35 = .ok (.getfield 25, 3) := by decide +kernel
theorem dX6_bind_38 : decode cX6_bind 38 = .ok (.iload_n 1, 1) := by decide +kernel
theorem dX6_bind_39 : decode cX6_bind 39 = .ok (.iload_n 2, 1) := by decide +kernel
theorem dX6_bind_40 : decode cX6_bind 40 = .ok (.iconst (-1), 1) := by decide +kernel
theorem dX6_bind_41 : decode cX6_bind 41 = .ok (.if_icmp .ne 8, 3) := by decide +kernel
theorem dX6_bind_44 : decode cX6_bind 44 = .ok (.bipush (-9), 2) := by decide +kernel
theorem dX6_bind_46 : decode cX6_bind 46 = .ok (.goto 4, 3) := by decide +kernel
theorem dX6_bind_49 : decode cX6_bind 49 = .ok (.iload_n 2, 1) := by decide +kernel
theorem dX6_bind_50 : decode cX6_bind 50 = .ok (.iastore, 1) := by decide +kernel
theorem dX6_bind_51 : decode cX6_bind 51 = .ok (.iload_n 2, 1) := by decide +kernel
theorem dX6_bind_52 : decode cX6_bind 52 = .ok (.iconst (-1), 1) := by decide +kernel
theorem dX6_bind_53 : decode cX6_bind 53 = .ok (.if_icmp .eq 10, 3) := by decide +kernel
theorem dX6_bind_56 : decode cX6_bind 56 = .ok (.aload_n 0, 1) := by decide +kernel
theorem dX6_bind_57 : decode cX6_bind 57 = .ok (.getfield 22, 3) := by decide +kernel
theorem dX6_bind_60 : decode cX6_bind 60 = .ok (.iload_n 1, 1) := by decide +kernel
theorem dX6_bind_61 : decode cX6_bind 61 = .ok (.iload_n 2, 1) := by decide +kernel
theorem dX6_bind_62 : decode cX6_bind 62 = .ok (.iastore, 1) := by decide +kernel
theorem dX6_bind_63 : decode cX6_bind 63 = .ok (.iload_n 3, 1) := by decide +kernel
theorem dX6_bind_64 : decode cX6_bind 64 = .ok (.ireturn, 1) := by decide +kernel
set_option maxRecDepth 20000 in
theorem ggX6_done_X6_isDay : GoodIn wsX6_done wsX6_isDay := goodIn_r _ [6, 7, 8, 9, 5, 10, 16, 17, 18, 19, 20, 21, 22, 23, 24, 25, 26, 27, 28, 29, 30, 31, 32, 33, 34, 35, 36, 37, 38, 39] (by decide +kernel) (by decide +kernel)
set_option maxRecDepth 20000 in
theorem gX6_done_X6_isDay : GoodIn wsX6_done (wsV RX6 117 RX6 yX6_isDay wsX6_isDay) := goodIn_app (goodIn_of _ (by decide +kernel)) ggX6_done_X6_isDay
set_option maxRecDepth 20000 in
theorem ggX6_done_X6_no : GoodIn wsX6_done wsX6_no := goodIn_r _ [14, 15, 16, 17, 18, 19, 20, 21, 22, 23, 24, 25, 26, 27, 28, 29, 30, 31, 32, 33, 34, 35, 36, 37, 38, 39] (by decide +kernel) (by decide +kernel)
set_option maxRecDepth 20000 in
theorem gX6_done_X6_no : GoodIn wsX6_done (wsV RX6 65 RX6 yX6_no wsX6_no) := goodIn_app (goodIn_of _ (by decide +kernel)) ggX6_done_X6_no
theorem dX6_done_0 : decode cX6_done 0 = .ok (.aload_n 0, 1) := by decide +kernel
theorem dX6_done_1 : decode cX6_done 1 = .ok (.iload_n 1, 1) := by decide +kernel
theorem dX6_done_2 : decode cX6_done 2 = .ok (.invokevirtual 117, 3) := by decide +kernel
theorem dX6_done_5 : decode cX6_done 5 = .ok (.ifCond .eq 12, 3) := by decide +kernel
theorem dX6_done_8 : decode cX6_done 8 = .ok (.aload_n 0, 1) := by decide +kernel
theorem dX6_done_9 : decode cX6_done 9 = .ok (.getfield 22, 3) := by decide +kernel
theorem dX6_done_12 : decode cX6_done 12 = .ok (.iload_n 1, 1) := by decide +kernel
theorem dX6_done_13 : decode cX6_done 13 = .ok (.iaload, 1) := by decide +kernel
theorem dX6_done_14 : decode cX6_done 14 = .ok (.goto 8, 3) := by decide +kernel
theorem dX6_done_17 : decode cX6_done 17 = .ok (.aload_n 0, 1) := by decide +kernel
theorem dX6_done_18 : decode cX6_done 18 = .ok (.iconst (-1), 1) := by decide +kernel
theorem dX6_done_19 : decode cX6_done 19 = .ok (.invokevirtual 65, 3) := by decide +kernel
theorem dX6_done_22 : decode cX6_done 22 = .ok (.ireturn, 1) := by decide +kernel
set_option maxRecDepth 20000 in
theorem ggX6_change_X6_no : GoodIn wsX6_change wsX6_no := goodIn_r _ [6, 7, 8, 9, 10, 11, 12, 13, 14, 15, 16, 17, 18, 19, 20, 21, 22, 23, 24, 25, 26, 27, 28, 29, 30, 31] (by decide +kernel) (by decide +kernel)
set_option maxRecDepth 20000 in
theorem gX6_change_X6_no : GoodIn wsX6_change (wsV RX6 65 RX6 yX6_no wsX6_no) := goodIn_app (goodIn_of _ (by decide +kernel)) ggX6_change_X6_no
theorem dX6_change_0 : decode cX6_change 0 = .ok (.iload_n 1, 1) := by decide +kernel
theorem dX6_change_1 : decode cX6_change 1 = .ok (.ifCond .ge 10, 3) := by decide +kernel
theorem dX6_change_4 : decode cX6_change 4 = .ok (.aload_n 0, 1) := by decide +kernel
theorem dX6_change_5 : decode cX6_change 5 = .ok (.bipush (-4), 2) := by decide +kernel
theorem dX6_change_7 : decode cX6_change 7 = .ok (.invokevirtual 65, 3) := by decide +kernel
theorem dX6_change_10 : decode cX6_change 10 = .ok (.ireturn, 1) := by decide +kernel
theorem dX6_change_11 : decode cX6_change 11 = .ok (.iload_n 1, 1) := by decide +kernel
theorem dX6_change_12 : decode cX6_change 12 = .ok (.bipush 9, 2) := by decide +kernel
theorem dX6_change_14 : decode cX6_change 14 = .ok (.if_icmp .le 10, 3) := by decide +kernel
theorem dX6_change_17 : decode cX6_change 17 = .ok (.aload_n 0, 1) := by decide +kernel
theorem dX6_change_18 : decode cX6_change 18 = .ok (.bipush (-6), 2) := by decide +kernel
theorem dX6_change_20 : decode cX6_change 20 = .ok (.invokevirtual 65, 3) := by decide +kernel
theorem dX6_change_23 : decode cX6_change 23 = .ok (.ireturn, 1) := by decide +kernel
theorem dX6_change_24 : decode cX6_change 24 = .ok (.aload_n 0, 1) := by decide +kernel
theorem dX6_change_25 : decode cX6_change 25 = .ok (.getfield 60, 3) := by decide +kernel
theorem dX6_change_28 : decode cX6_change 28 = .ok (.istore_n 2, 1) := by decide +kernel
theorem dX6_change_29 : decode cX6_change 29 = .ok (.aload_n 0, 1) := by decide +kernel
theorem dX6_change_30 : decode cX6_change 30 = .ok (.iload_n 1, 1) := by decide +kernel
theorem dX6_change_31 : decode cX6_change 31 = .ok (.putfield 60, 3) := by decide +kernel
theorem dX6_change_34 : decode cX6_change 34 = .ok (.iload_n 2, 1) := by decide +kernel
theorem dX6_change_35 : decode cX6_change 35 = .ok (.ireturn, 1) := by decide +kernel
set_option maxRecDepth 20000 in
theorem ggX6_law_X6_within : GoodIn wsX6_law wsX6_within := goodIn_r _ [5] (by decide +kernel) (by decide +kernel)
set_option maxRecDepth 20000 in
theorem gX6_law_X6_within : GoodIn wsX6_law (va_wsS RX6 74 yX6_within wsX6_within) := goodIn_app (goodIn_of _ (by decide +kernel)) ggX6_law_X6_within
set_option maxRecDepth 20000 in
theorem ggX6_law_X6_no : GoodIn wsX6_law wsX6_no := goodIn_r _ [9, 10, 11, 12, 13, 14, 15, 16, 17, 18, 19, 20, 21, 22, 23, 24, 25, 26, 27, 28, 29, 30, 31, 32, 33, 34] (by decide +kernel) (by decide +kernel)
set_option maxRecDepth 20000 in
theorem gX6_law_X6_no : GoodIn wsX6_law (wsV RX6 65 RX6 yX6_no wsX6_no) := goodIn_app (goodIn_of _ (by decide +kernel)) ggX6_law_X6_no
theorem dX6_law_0 : decode cX6_law 0 = .ok (.iload_n 1, 1) := by decide +kernel
theorem dX6_law_1 : decode cX6_law 1 = .ok (.iconst 0, 1) := by decide +kernel
theorem dX6_law_2 : decode cX6_law 2 = .ok (.iconst 5, 1) := by decide +kernel
theorem dX6_law_3 : decode cX6_law 3 = .ok (.invokestatic 74, 3) := by decide +kernel
theorem dX6_law_6 : decode cX6_law 6 = .ok (.ifCond .ne 10, 3) := by decide +kernel
theorem dX6_law_9 : decode cX6_law 9 = .ok (.aload_n 0, 1) := by decide +kernel
theorem dX6_law_10 : decode cX6_law 10 = .ok (.bipush (-2), 2) := by decide +kernel
theorem dX6_law_12 : decode cX6_law 12 = .ok (.invokevirtual 65, 3) := by decide +kernel
theorem dX6_law_15 : decode cX6_law 15 = .ok (.ireturn, 1) := by decide +kernel
theorem dX6_law_16 : decode cX6_law 16 = .ok (.aload_n 0, 1) := by decide +kernel
theorem dX6_law_17 : decode cX6_law 17 = .ok (.getfield 114, 3) := by decide +kernel
theorem dX6_law_20 : decode cX6_law 20 = .ok (.istore_n 2, 1) := by decide +kernel
theorem dX6_law_21 : decode cX6_law 21 = .ok (.aload_n 0, 1) := by decide +kernel
theorem dX6_law_22 : decode cX6_law 22 = .ok (.iload_n 1, 1) := by decide +kernel
theorem dX6_law_23 : decode cX6_law 23 = .ok (.putfield 114, 3) := by decide +kernel
theorem dX6_law_26 : decode cX6_law 26 = .ok (.iload_n 2, 1) := by decide +kernel
theorem dX6_law_27 : decode cX6_law 27 = .ok (.ireturn, 1) := by decide +kernel
theorem dX6_worthOf_0 : decode cX6_worthOf 0 = .ok (.aload_n 0, 1) := by decide +kernel
theorem dX6_worthOf_1 : decode cX6_worthOf 1 = .ok (.getfield 7, 3) := by decide +kernel
theorem dX6_worthOf_4 : decode cX6_worthOf 4 = .ok (.iload_n 1, 1) := by decide +kernel
theorem dX6_worthOf_5 : decode cX6_worthOf 5 = .ok (.iaload, 1) := by decide +kernel
theorem dX6_worthOf_6 : decode cX6_worthOf 6 = .ok (.iconst 1, 1) := by decide +kernel
theorem dX6_worthOf_7 : decode cX6_worthOf 7 = .ok (.if_icmp .ne 5, 3) := by decide +kernel
theorem dX6_worthOf_10 : decode cX6_worthOf 10 = .ok (.iconst 0, 1) := by decide +kernel
theorem dX6_worthOf_11 : decode cX6_worthOf 11 = .ok (.ireturn, 1) := by decide +kernel
theorem dX6_worthOf_12 : decode cX6_worthOf 12 = .ok (.aload_n 0, 1) := by decide +kernel
theorem dX6_worthOf_13 : decode cX6_worthOf 13 = .ok (.getfield 7, 3) := by decide +kernel
theorem dX6_worthOf_16 : decode cX6_worthOf 16 = .ok (.iload_n 1, 1) := by decide +kernel
theorem dX6_worthOf_17 : decode cX6_worthOf 17 = .ok (.iaload, 1) := by decide +kernel
theorem dX6_worthOf_18 : decode cX6_worthOf 18 = .ok (.iconst 5, 1) := by decide +kernel
theorem dX6_worthOf_19 : decode cX6_worthOf 19 = .ok (.if_icmp .ne 19, 3) := by decide +kernel
theorem dX6_worthOf_22 : decode cX6_worthOf 22 = .ok (.iload_n 2, 1) := by decide +kernel
theorem dX6_worthOf_23 : decode cX6_worthOf 23 = .ok (.iconst 1, 1) := by decide +kernel
theorem dX6_worthOf_24 : decode cX6_worthOf 24 = .ok (.if_icmp .ne 12, 3) := by decide +kernel
theorem dX6_worthOf_27 : decode cX6_worthOf 27 = .ok (.aload_n 0, 1) := by decide +kernel
theorem dX6_worthOf_28 : decode cX6_worthOf 28 = .ok (.getfield 13, 3) := by decide +kernel
theorem dX6_worthOf_31 : decode cX6_worthOf 31 = .ok (.iload_n 1, 1) := by decide +kernel
theorem dX6_worthOf_32 : decode cX6_worthOf 32 = .ok (.iaload, 1) := by decide +kernel
theorem dX6_worthOf_33 : decode cX6_worthOf 33 = .ok (.goto 4, 3) := by decide +kernel
theorem dX6_worthOf_36 : decode cX6_worthOf 36 = .ok (.iconst 0, 1) := by decide +kernel
theorem dX6_worthOf_37 : decode cX6_worthOf 37 = .ok (.ireturn, 1) := by decide +kernel
theorem dX6_worthOf_38 : decode cX6_worthOf 38 = .ok (.aload_n 0, 1) := by decide +kernel
theorem dX6_worthOf_39 : decode cX6_worthOf 39 = .ok (.getfield 13, 3) := by decide +kernel
theorem dX6_worthOf_42 : decode cX6_worthOf 42 = .ok (.iload_n 1, 1) := by decide +kernel
theorem dX6_worthOf_43 : decode cX6_worthOf 43 = .ok (.iaload, 1) := by decide +kernel
theorem dX6_worthOf_44 : decode cX6_worthOf 44 = .ok (.istore_n 3, 1) := by decide +kernel
theorem dX6_worthOf_45 : decode cX6_worthOf 45 = .ok (.iload_n 2, 1) := by decide +kernel
theorem dX6_worthOf_46 : decode cX6_worthOf 46 = .ok (.aload_n 0, 1) := by decide +kernel
theorem dX6_worthOf_47 : decode cX6_worthOf 47 = .ok (.getfield 7, 3) := by decide +kernel
theorem dX6_worthOf_50 : decode cX6_worthOf 50 = .ok (.iload_n 1, 1) := by decide +kernel
theorem dX6_worthOf_51 : decode cX6_worthOf 51 = .ok (.iaload, 1) := by decide +kernel
theorem dX6_worthOf_52 : decode cX6_worthOf 52 = .ok (.iconst 2, 1) := by decide +kernel
theorem dX6_worthOf_53 : decode cX6_worthOf 53 = .ok (.if_icmp .eq 13, 3) := by decide +kernel
theorem dX6_worthOf_56 : decode cX6_worthOf 56 = .ok (.aload_n 0, 1) := by decide +kernel
theorem dX6_worthOf_57 : decode cX6_worthOf 57 = .ok (.getfield 7, 3) := by decide +kernel
theorem dX6_worthOf_60 : decode cX6_worthOf 60 = .ok (.iload_n 1, 1) := by decide +kernel
theorem dX6_worthOf_61 : decode cX6_worthOf 61 = .ok (.iaload, 1) := by decide +kernel
theorem dX6_worthOf_62 : decode cX6_worthOf 62 = .ok (.iconst 4, 1) := by decide +kernel
theorem dX6_worthOf_63 : decode cX6_worthOf 63 = .ok (.if_icmp .ne 7, 3) := by decide +kernel
theorem dX6_worthOf_66 : decode cX6_worthOf 66 = .ok (.iconst 1, 1) := by decide +kernel
theorem dX6_worthOf_67 : decode cX6_worthOf 67 = .ok (.goto 4, 3) := by decide +kernel
theorem dX6_worthOf_70 : decode cX6_worthOf 70 = .ok (.iconst 3, 1) := by decide +kernel
theorem dX6_worthOf_71 : decode cX6_worthOf 71 = .ok (.if_icmp .le 12, 3) := by decide +kernel
theorem dX6_worthOf_74 : decode cX6_worthOf 74 = .ok (.iload_n 3, 1) := by decide +kernel
theorem dX6_worthOf_75 : decode cX6_worthOf 75 = .ok (.aload_n 0, 1) := by decide +kernel
theorem dX6_worthOf_76 : decode cX6_worthOf 76 = .ok (.getfield 16, 3) := by decide +kernel
theorem dX6_worthOf_79 : decode cX6_worthOf 79 = .ok (.iload_n 1, 1) := by decide +kernel
theorem dX6_worthOf_80 : decode cX6_worthOf 80 = .ok (.iaload, 1) := by decide +kernel
theorem dX6_worthOf_81 : decode cX6_worthOf 81 = .ok (.iadd, 1) := by decide +kernel
theorem dX6_worthOf_82 : decode cX6_worthOf 82 = .ok (.istore_n 3, 1) := by decide +kernel
theorem dX6_worthOf_83 : decode cX6_worthOf 83 = .ok (.iload_n 2, 1) := by decide +kernel
theorem dX6_worthOf_84 : decode cX6_worthOf 84 = .ok (.aload_n 0, 1) := by decide +kernel
theorem dX6_worthOf_85 : decode cX6_worthOf 85 = .ok (.getfield 7, 3) := by decide +kernel
theorem dX6_worthOf_88 : decode cX6_worthOf 88 = .ok (.iload_n 1, 1) := by decide +kernel
theorem dX6_worthOf_89 : decode cX6_worthOf 89 = .ok (.iaload, 1) := by decide +kernel
theorem dX6_worthOf_90 : decode cX6_worthOf 90 = .ok (.iconst 3, 1) := by decide +kernel
theorem dX6_worthOf_91 : decode cX6_worthOf 91 = .ok (.if_icmp .ne 7, 3) := by decide +kernel
theorem dX6_worthOf_94 : decode cX6_worthOf 94 = .ok (.iconst 3, 1) := by decide +kernel
theorem dX6_worthOf_95 : decode cX6_worthOf 95 = .ok (.goto 5, 3) := by decide +kernel
theorem dX6_worthOf_98 : decode cX6_worthOf 98 = .ok (.bipush 6, 2) := by decide +kernel
theorem dX6_worthOf_100 : decode cX6_worthOf 100 = .ok (.if_icmp .le 12, 3) := by decide +kernel
theorem dX6_worthOf_103 : decode cX6_worthOf 103 = .ok (.iload_n 3, 1) := by decide +kernel
theorem dX6_worthOf_104 : decode cX6_worthOf 104 = .ok (.aload_n 0, 1) := by decide +kernel
theorem dX6_worthOf_105 : decode cX6_worthOf 105 = .ok (.getfield 19, 3) := by decide +kernel
theorem dX6_worthOf_108 : decode cX6_worthOf 108 = .ok (.iload_n 1, 1) := by decide +kernel
theorem dX6_worthOf_109 : decode cX6_worthOf 109 = .ok (.iaload, 1) := by decide +kernel
theorem dX6_worthOf_110 : decode cX6_worthOf 110 = .ok (.isub, 1) := by decide +kernel
theorem dX6_worthOf_111 : decode cX6_worthOf 111 = .ok (.istore_n 3, 1) := by decide +kernel
theorem dX6_worthOf_112 : decode cX6_worthOf 112 = .ok (.aload_n 0, 1) := by decide +kernel
theorem dX6_worthOf_113 : decode cX6_worthOf 113 = .ok (.getfield 7, 3) := by decide +kernel
theorem dX6_worthOf_116 : decode cX6_worthOf 116 = .ok (.iload_n 1, 1) := by decide +kernel
theorem dX6_worthOf_117 : decode cX6_worthOf 117 = .ok (.iaload, 1) := by decide +kernel
theorem dX6_worthOf_118 : decode cX6_worthOf 118 = .ok (.iconst 4, 1) := by decide +kernel
theorem dX6_worthOf_119 : decode cX6_worthOf 119 = .ok (.if_icmp .ne 9, 3) := by decide +kernel
theorem dX6_worthOf_122 : decode cX6_worthOf 122 = .ok (.iconst 2, 1) := by decide +kernel
theorem dX6_worthOf_123 : decode cX6_worthOf 123 = .ok (.iload_n 3, 1) := by decide +kernel
theorem dX6_worthOf_124 : decode cX6_worthOf 124 = .ok (.imul, 1) := by decide +kernel
theorem dX6_worthOf_125 : decode cX6_worthOf 125 = .ok (.goto 4, 3) := by decide +kernel
theorem dX6_worthOf_128 : decode cX6_worthOf 128 = .ok (.iload_n 3, 1) := by decide +kernel
theorem dX6_worthOf_129 : decode cX6_worthOf 129 = .ok (.ireturn, 1) := by decide +kernel
theorem dX6_counts_0 : decode cX6_counts 0 = .ok (.aload_n 0, 1) := by decide +kernel
theorem dX6_counts_1 : decode cX6_counts 1 = .ok (.getfield 71, 3) := by decide +kernel
theorem dX6_counts_4 : decode cX6_counts 4 = .ok (.ifCond .le 27, 3) := by decide +kernel
theorem dX6_counts_7 : decode cX6_counts 7 = .ok (.aload_n 0, 1) := by decide +kernel
theorem dX6_counts_8 : decode cX6_counts 8 = .ok (.getfield 7, 3) := by decide +kernel
theorem dX6_counts_11 : decode cX6_counts 11 = .ok (.iload_n 1, 1) := by decide +kernel
theorem dX6_counts_12 : decode cX6_counts 12 = .ok (.iaload, 1) := by decide +kernel
theorem dX6_counts_13 : decode cX6_counts 13 = .ok (.iconst 1, 1) := by decide +kernel
theorem dX6_counts_14 : decode cX6_counts 14 = .ok (.if_icmp .eq 17, 3) := by decide +kernel
theorem dX6_counts_17 : decode cX6_counts 17 = .ok (.aload_n 0, 1) := by decide +kernel
theorem dX6_counts_18 : decode cX6_counts 18 = .ok (.getfield 7, 3) := by decide +kernel
theorem dX6_counts_21 : decode cX6_counts 21 = .ok (.iload_n 1, 1) := by decide +kernel
theorem dX6_counts_22 : decode cX6_counts 22 = .ok (.iaload, 1) := by decide +kernel
theorem dX6_counts_23 : decode cX6_counts 23 = .ok (.iconst 5, 1) := by decide +kernel
theorem dX6_counts_24 : decode cX6_counts 24 = .ok (.if_icmp .eq 7, 3) := by decide +kernel
theorem dX6_counts_27 : decode cX6_counts 27 = .ok (.iconst 1, 1) := by decide +kernel
theorem dX6_counts_28 : decode cX6_counts 28 = .ok (.goto 4, 3) := by decide +kernel
theorem dX6_counts_31 : decode cX6_counts 31 = .ok (.iconst 0, 1) := by decide +kernel
theorem dX6_counts_32 : decode cX6_counts 32 = .ok (.ireturn, 1) := by decide +kernel
theorem dX6_which_0 : decode cX6_which 0 = .ok (.iconst 1, 1) := by decide +kernel
theorem dX6_which_1 : decode cX6_which 1 = .ok (.istore_n 2, 1) := by decide +kernel
theorem dX6_which_2 : decode cX6_which 2 = .ok (.iload_n 1, 1) := by decide +kernel
theorem dX6_which_3 : decode cX6_which 3 = .ok (.iload_n 2, 1) := by decide +kernel
theorem dX6_which_4 : decode cX6_which 4 = .ok (.if_icmp .lt 26, 3) := by decide +kernel
theorem dX6_which_7 : decode cX6_which 7 = .ok (.aload_n 0, 1) := by decide +kernel
theorem dX6_which_8 : decode cX6_which 8 = .ok (.getfield 22, 3) := by decide +kernel
theorem dX6_which_11 : decode cX6_which 11 = .ok (.iload_n 1, 1) := by decide +kernel
theorem dX6_which_12 : decode cX6_which 12 = .ok (.iload_n 2, 1) := by decide +kernel
theorem dX6_which_13 : decode cX6_which 13 = .ok (.isub, 1) := by decide +kernel
theorem dX6_which_14 : decode cX6_which 14 = .ok (.iaload, 1) := by decide +kernel
theorem dX6_which_15 : decode cX6_which 15 = .ok (.aload_n 0, 1) := by decide +kernel
theorem dX6_which_16 : decode cX6_which 16 = .ok (.getfield 22, 3) := by decide +kernel
theorem dX6_which_19 : decode cX6_which 19 = .ok (.iload_n 1, 1) := by decide +kernel
theorem dX6_which_20 : decode cX6_which 20 = .ok (.iaload, 1) := by decide +kernel
theorem dX6_which_21 : decode cX6_which 21 = .ok (.if_icmp .ne 9, 3) := by decide +kernel
theorem dX6_which_24 : decode cX6_which 24 = .ok (.iinc 2 1, 3) := by decide +kernel
theorem dX6_which_27 : decode cX6_which 27 = .ok (.goto (-25), 3) := by decide +kernel
theorem dX6_which_30 : decode cX6_which 30 = .ok (.iload_n 2, 1) := by decide +kernel
theorem dX6_which_31 : decode cX6_which 31 = .ok (.ireturn, 1) := by decide +kernel
theorem dX6_isLast_0 : decode cX6_isLast 0 = .ok (.iload_n 1, 1) := by decide +kernel
theorem dX6_isLast_1 : decode cX6_isLast 1 = .ok (.aload_n 0, 1) := by decide +kernel
theorem dX6_isLast_2 : decode cX6_isLast 2 = .ok (.getfield 78, 3) := by decide +kernel
theorem dX6_isLast_5 : decode cX6_isLast 5 = .ok (.iconst 1, 1) := by decide +kernel
theorem dX6_isLast_6 : decode cX6_isLast 6 = .ok (.isub, 1) := by decide +kernel
theorem dX6_isLast_7 : decode cX6_isLast 7 = .ok (.if_icmp .eq 20, 3) := by decide +kernel
theorem dX6_isLast_10 : decode cX6_isLast 10 = .ok (.aload_n 0, 1) := by decide +kernel
theorem dX6_isLast_11 : decode cX6_isLast 11 = .ok (.getfield 22, 3) := by decide +kernel
theorem dX6_isLast_14 : decode cX6_isLast 14 = .ok (.iload_n 1, 1) := by decide +kernel
theorem dX6_isLast_15 : decode cX6_isLast 15 = .ok (.iconst 1, 1) := by decide +kernel
theorem dX6_isLast_16 : decode cX6_isLast 16 = .ok (.iadd, 1) := by decide +kernel
theorem dX6_isLast_17 : decode cX6_isLast 17 = .ok (.iaload, 1) := by decide +kernel
theorem dX6_isLast_18 : decode cX6_isLast 18 = .ok (.aload_n 0, 1) := by decide +kernel
theorem dX6_isLast_19 : decode cX6_isLast 19 = .ok (.getfield 22, 3) := by decide +kernel
theorem dX6_isLast_22 : decode cX6_isLast 22 = .ok (.iload_n 1, 1) := by decide +kernel
theorem dX6_isLast_23 : decode cX6_isLast 23 = .ok (.iaload, 1) := by decide +kernel
theorem dX6_isLast_24 : decode cX6_isLast 24 = .ok (.if_icmp .eq 7, 3) := by decide +kernel
theorem dX6_isLast_27 : decode cX6_isLast 27 = .ok (.iconst 1, 1) := by decide +kernel
theorem dX6_isLast_28 : decode cX6_isLast 28 = .ok (.goto 4, 3) := by decide +kernel
theorem dX6_isLast_31 : decode cX6_isLast 31 = .ok (.iconst 0, 1) := by decide +kernel
theorem dX6_isLast_32 : decode cX6_isLast 32 = .ok (.ireturn, 1) := by decide +kernel
theorem dX6_changes_0 : decode cX6_changes 0 = .ok (.iconst 0, 1) := by decide +kernel
theorem dX6_changes_1 : decode cX6_changes 1 = .ok (.istore_n 1, 1) := by decide +kernel
theorem dX6_changes_2 : decode cX6_changes 2 = .ok (.iconst 1, 1) := by decide +kernel
theorem dX6_changes_3 : decode cX6_changes 3 = .ok (.istore_n 2, 1) := by decide +kernel
theorem dX6_changes_4 : decode cX6_changes 4 = .ok (.iload_n 2, 1) := by decide +kernel
theorem dX6_changes_5 : decode cX6_changes 5 = .ok (.aload_n 0, 1) := by decide +kernel
theorem dX6_changes_6 : decode cX6_changes 6 = .ok (.getfield 78, 3) := by decide +kernel
theorem dX6_changes_9 : decode cX6_changes 9 = .ok (.if_icmp .ge 29, 3) := by decide +kernel
theorem dX6_changes_12 : decode cX6_changes 12 = .ok (.aload_n 0, 1) := by decide +kernel
theorem dX6_changes_13 : decode cX6_changes 13 = .ok (.getfield 22, 3) := by decide +kernel
theorem dX6_changes_16 : decode cX6_changes 16 = .ok (.iload_n 2, 1) := by decide +kernel
theorem dX6_changes_17 : decode cX6_changes 17 = .ok (.iaload, 1) := by decide +kernel
theorem dX6_changes_18 : decode cX6_changes 18 = .ok (.aload_n 0, 1) := by decide +kernel
theorem dX6_changes_19 : decode cX6_changes 19 = .ok (.getfield 22, 3) := by decide +kernel
theorem dX6_changes_22 : decode cX6_changes 22 = .ok (.iload_n 2, 1) := by decide +kernel
theorem dX6_changes_23 : decode cX6_changes 23 = .ok (.iconst 1, 1) := by decide +kernel
theorem dX6_changes_24 : decode cX6_changes 24 = .ok (.isub, 1) := by decide +kernel
theorem dX6_changes_25 : decode cX6_changes 25 = .ok (.iaload, 1) := by decide +kernel
theorem dX6_changes_26 : decode cX6_changes 26 = .ok (.if_icmp .eq 6, 3) := by decide +kernel
theorem dX6_changes_29 : decode cX6_changes 29 = .ok (.iinc 1 1, 3) := by decide +kernel
theorem dX6_changes_32 : decode cX6_changes 32 = .ok (.iinc 2 1, 3) := by decide +kernel
theorem dX6_changes_35 : decode cX6_changes 35 = .ok (.goto (-31), 3) := by decide +kernel
theorem dX6_changes_38 : decode cX6_changes 38 = .ok (.iload_n 1, 1) := by decide +kernel
theorem dX6_changes_39 : decode cX6_changes 39 = .ok (.ireturn, 1) := by decide +kernel
set_option maxRecDepth 20000 in
theorem ggX6_longestNow_X6_counts : GoodIn wsX6_longestNow wsX6_counts := goodIn_r _ [11, 12, 13, 18, 19, 20, 21, 22, 23, 24, 25, 26, 27, 28, 29, 30, 31, 32, 33, 34, 35, 36, 37, 38, 39, 40, 41] (by decide +kernel) (by decide +kernel)
set_option maxRecDepth 20000 in
theorem gX6_longestNow_X6_counts : GoodIn wsX6_longestNow (wsV RX6 134 RX6 yX6_counts wsX6_counts) := goodIn_app (goodIn_of _ (by decide +kernel)) ggX6_longestNow_X6_counts
set_option maxRecDepth 20000 in
theorem ggX6_longestNow_X6_which : GoodIn wsX6_longestNow wsX6_which := goodIn_r _ [17, 2, 18, 19, 20, 21, 22, 23, 24, 25, 26, 27, 28, 29, 30, 31, 32, 33, 34, 35, 36, 37, 38, 39, 40, 41] (by decide +kernel) (by decide +kernel)
set_option maxRecDepth 20000 in
theorem gX6_longestNow_X6_which : GoodIn wsX6_longestNow (wsV RX6 137 RX6 yX6_which wsX6_which) := goodIn_app (goodIn_of _ (by decide +kernel)) ggX6_longestNow_X6_which
theorem dX6_longestNow_0 : decode cX6_longestNow 0 = .ok (.iconst 0, 1) := by decide +kernel
theorem dX6_longestNow_1 : decode cX6_longestNow 1 = .ok (.istore_n 1, 1) := by decide +kernel
theorem dX6_longestNow_2 : decode cX6_longestNow 2 = .ok (.iconst 0, 1) := by decide +kernel
theorem dX6_longestNow_3 : decode cX6_longestNow 3 = .ok (.istore_n 2, 1) := by decide +kernel
theorem dX6_longestNow_4 : decode cX6_longestNow 4 = .ok (.iload_n 2, 1) := by decide +kernel
theorem dX6_longestNow_5 : decode cX6_longestNow 5 = .ok (.aload_n 0, 1) := by decide +kernel
theorem dX6_longestNow_6 : decode cX6_longestNow 6 = .ok (.getfield 78, 3) := by decide +kernel
theorem dX6_longestNow_9 : decode cX6_longestNow 9 = .ok (.if_icmp .ge 32, 3) := by decide +kernel
theorem dX6_longestNow_12 : decode cX6_longestNow 12 = .ok (.aload_n 0, 1) := by decide +kernel
theorem dX6_longestNow_13 : decode cX6_longestNow 13 = .ok (.aload_n 0, 1) := by decide +kernel
theorem dX6_longestNow_14 : decode cX6_longestNow 14 = .ok (.getfield 22, 3) := by decide +kernel
theorem dX6_longestNow_17 : decode cX6_longestNow 17 = .ok (.iload_n 2, 1) := by decide +kernel
theorem dX6_longestNow_18 : decode cX6_longestNow 18 = .ok (.iaload, 1) := by decide +kernel
theorem dX6_longestNow_19 : decode cX6_longestNow 19 = .ok (.invokevirtual 134, 3) := by decide +kernel
theorem dX6_longestNow_22 : decode cX6_longestNow 22 = .ok (.ifCond .eq 13, 3) := by decide +kernel
theorem dX6_longestNow_25 : decode cX6_longestNow 25 = .ok (.iload_n 1, 1) := by decide +kernel
theorem dX6_longestNow_26 : decode cX6_longestNow 26 = .ok (.aload_n 0, 1) := by decide +kernel
theorem dX6_longestNow_27 : decode cX6_longestNow 27 = .ok (.iload_n 2, 1) := by decide +kernel
theorem dX6_longestNow_28 : decode cX6_longestNow 28 = .ok (.invokevirtual 137, 3) := by decide +kernel
theorem dX6_longestNow_31 : decode cX6_longestNow 31 = .ok (.invokestatic 140, 3) := by decide +kernel
theorem dX6_longestNow_34 : decode cX6_longestNow 34 = .ok (.istore_n 1, 1) := by decide +kernel
theorem dX6_longestNow_35 : decode cX6_longestNow 35 = .ok (.iinc 2 1, 3) := by decide +kernel
theorem dX6_longestNow_38 : decode cX6_longestNow 38 = .ok (.goto (-34), 3) := by decide +kernel
theorem dX6_longestNow_41 : decode cX6_longestNow 41 = .ok (.iload_n 1, 1) := by decide +kernel
theorem dX6_longestNow_42 : decode cX6_longestNow 42 = .ok (.ireturn, 1) := by decide +kernel
set_option maxRecDepth 20000 in
theorem ggX6_taxes_X6_changes : GoodIn wsX6_taxes wsX6_changes := goodIn_r _ [7, 1, 2, 22, 23, 24, 25, 26, 27, 28, 29, 30, 31, 32, 33, 34, 35, 36, 37, 38, 39, 40, 41, 42, 43, 44, 45] (by decide +kernel) (by decide +kernel)
set_option maxRecDepth 20000 in
theorem gX6_taxes_X6_changes : GoodIn wsX6_taxes (wsV RX6 146 RX6 yX6_changes wsX6_changes) := goodIn_app (goodIn_of _ (by decide +kernel)) ggX6_taxes_X6_changes
set_option maxRecDepth 20000 in
theorem ggX6_taxes_X6_isLast : GoodIn wsX6_taxes wsX6_isLast := goodIn_r _ [11, 1, 2, 22, 23, 24, 25, 26, 27, 28, 29, 30, 31, 32, 33, 34, 35, 36, 37, 38, 39, 40, 41, 42, 43, 44, 45] (by decide +kernel) (by decide +kernel)
set_option maxRecDepth 20000 in
theorem gX6_taxes_X6_isLast : GoodIn wsX6_taxes (wsV RX6 150 RX6 yX6_isLast wsX6_isLast) := goodIn_app (goodIn_of _ (by decide +kernel)) ggX6_taxes_X6_isLast
set_option maxRecDepth 20000 in
theorem ggX6_taxes_X6_counts : GoodIn wsX6_taxes wsX6_counts := goodIn_r _ [15, 16, 17, 22, 23, 24, 25, 26, 27, 28, 29, 30, 31, 32, 33, 34, 35, 36, 37, 38, 39, 40, 41, 42, 43, 44, 45] (by decide +kernel) (by decide +kernel)
set_option maxRecDepth 20000 in
theorem gX6_taxes_X6_counts : GoodIn wsX6_taxes (wsV RX6 134 RX6 yX6_counts wsX6_counts) := goodIn_app (goodIn_of _ (by decide +kernel)) ggX6_taxes_X6_counts
set_option maxRecDepth 20000 in
theorem ggX6_taxes_X6_which : GoodIn wsX6_taxes wsX6_which := goodIn_r _ [21, 2, 22, 23, 24, 25, 26, 27, 28, 29, 30, 31, 32, 33, 34, 35, 36, 37, 38, 39, 40, 41, 42, 43, 44, 45] (by decide +kernel) (by decide +kernel)
set_option maxRecDepth 20000 in
theorem gX6_taxes_X6_which : GoodIn wsX6_taxes (wsV RX6 137 RX6 yX6_which wsX6_which) := goodIn_app (goodIn_of _ (by decide +kernel)) ggX6_taxes_X6_which
theorem dX6_taxes_0 : decode cX6_taxes 0 = .ok (.iload_n 1, 1) := by decide +kernel
theorem dX6_taxes_1 : decode cX6_taxes 1 = .ok (.iconst 3, 1) := by decide +kernel
theorem dX6_taxes_2 : decode cX6_taxes 2 = .ok (.if_icmp .ne 11, 3) := by decide +kernel
theorem dX6_taxes_5 : decode cX6_taxes 5 = .ok (.bipush 9, 2) := by decide +kernel
theorem dX6_taxes_7 : decode cX6_taxes 7 = .ok (.aload_n 0, 1) := by decide +kernel
theorem dX6_taxes_8 : decode cX6_taxes 8 = .ok (.invokevirtual 146, 3) := by decide +kernel
theorem dX6_taxes_11 : decode cX6_taxes 11 = .ok (.imul, 1) := by decide +kernel
theorem dX6_taxes_12 : decode cX6_taxes 12 = .ok (.ireturn, 1) := by decide +kernel
theorem dX6_taxes_13 : decode cX6_taxes 13 = .ok (.iload_n 1, 1) := by decide +kernel
theorem dX6_taxes_14 : decode cX6_taxes 14 = .ok (.iconst 5, 1) := by decide +kernel
theorem dX6_taxes_15 : decode cX6_taxes 15 = .ok (.if_icmp .ne 8, 3) := by decide +kernel
theorem dX6_taxes_18 : decode cX6_taxes 18 = .ok (.aload_n 0, 1) := by decide +kernel
theorem dX6_taxes_19 : decode cX6_taxes 19 = .ok (.getfield 78, 3) := by decide +kernel
theorem dX6_taxes_22 : decode cX6_taxes 22 = .ok (.ireturn, 1) := by decide +kernel
theorem dX6_taxes_23 : decode cX6_taxes 23 = .ok (.iconst 0, 1) := by decide +kernel
theorem dX6_taxes_24 : decode cX6_taxes 24 = .ok (.istore_n 2, 1) := by decide +kernel
theorem dX6_taxes_25 : decode cX6_taxes 25 = .ok (.iconst 0, 1) := by decide +kernel
theorem dX6_taxes_26 : decode cX6_taxes 26 = .ok (.istore_n 3, 1) := by decide +kernel
theorem dX6_taxes_27 : decode cX6_taxes 27 = .ok (.iconst 0, 1) := by decide +kernel
theorem dX6_taxes_28 : decode cX6_taxes 28 = .ok (.istore 4, 2) := by decide +kernel
theorem dX6_taxes_30 : decode cX6_taxes 30 = .ok (.iconst 0, 1) := by decide +kernel
theorem dX6_taxes_31 : decode cX6_taxes 31 = .ok (.istore 5, 2) := by decide +kernel
theorem dX6_taxes_33 : decode cX6_taxes 33 = .ok (.iconst 0, 1) := by decide +kernel
theorem dX6_taxes_34 : decode cX6_taxes 34 = .ok (.istore 6, 2) := by decide +kernel
theorem dX6_taxes_36 : decode cX6_taxes 36 = .ok (.iload 6, 2) := by decide +kernel
theorem dX6_taxes_38 : decode cX6_taxes 38 = .ok (.aload_n 0, 1) := by decide +kernel
theorem dX6_taxes_39 : decode cX6_taxes 39 = .ok (.getfield 78, 3) := by decide +kernel
theorem dX6_taxes_42 : decode cX6_taxes 42 = .ok (.if_icmp .ge 92, 3) := by decide +kernel
theorem dX6_taxes_45 : decode cX6_taxes 45 = .ok (.aload_n 0, 1) := by decide +kernel
theorem dX6_taxes_46 : decode cX6_taxes 46 = .ok (.iload 6, 2) := by decide +kernel
theorem dX6_taxes_48 : decode cX6_taxes 48 = .ok (.invokevirtual 150, 3) := by decide +kernel
theorem dX6_taxes_51 : decode cX6_taxes 51 = .ok (.ifCond .eq 77, 3) := by decide +kernel
theorem dX6_taxes_54 : decode cX6_taxes 54 = .ok (.aload_n 0, 1) := by decide +kernel
theorem dX6_taxes_55 : decode cX6_taxes 55 = .ok (.aload_n 0, 1) := by decide +kernel
theorem dX6_taxes_56 : decode cX6_taxes 56 = .ok (.getfield 22, 3) := by decide +kernel
theorem dX6_taxes_59 : decode cX6_taxes 59 = .ok (.iload 6, 2) := by decide +kernel
theorem dX6_taxes_61 : decode cX6_taxes 61 = .ok (.iaload, 1) := by decide +kernel
theorem dX6_taxes_62 : decode cX6_taxes 62 = .ok (.invokevirtual 134, 3) := by decide +kernel
theorem dX6_taxes_65 : decode cX6_taxes 65 = .ok (.ifCond .ne 6, 3) := by decide +kernel
theorem dX6_taxes_68 : decode cX6_taxes 68 = .ok (.goto 60, 3) := by decide +kernel
theorem dX6_taxes_71 : decode cX6_taxes 71 = .ok (.aload_n 0, 1) := by decide +kernel
theorem dX6_taxes_72 : decode cX6_taxes 72 = .ok (.iload 6, 2) := by decide +kernel
theorem dX6_taxes_74 : decode cX6_taxes 74 = .ok (.invokevirtual 137, 3) := by decide +kernel
theorem dX6_taxes_77 : decode cX6_taxes 77 = .ok (.istore 7, 2) := by decide +kernel
theorem dX6_taxes_79 : decode cX6_taxes 79 = .ok (.iload 5, 2) := by decide +kernel
theorem dX6_taxes_81 : decode cX6_taxes 81 = .ok (.iload 7, 2) := by decide +kernel
theorem dX6_taxes_83 : decode cX6_taxes 83 = .ok (.iload 7, 2) := by decide +kernel
theorem dX6_taxes_85 : decode cX6_taxes 85 = .ok (.imul, 1) := by decide +kernel
theorem dX6_taxes_86 : decode cX6_taxes 86 = .ok (.iadd, 1) := by decide +kernel
theorem dX6_taxes_87 : decode cX6_taxes 87 = .ok (.istore 5, 2) := by decide +kernel
theorem dX6_taxes_89 : decode cX6_taxes 89 = .ok (.iload 4, 2) := by decide +kernel
theorem dX6_taxes_91 : decode cX6_taxes 91 = .ok (.ifCond .eq 10, 3) := by decide +kernel
theorem dX6_taxes_94 : decode cX6_taxes 94 = .ok (.iload 7, 2) := by decide +kernel
theorem dX6_taxes_96 : decode cX6_taxes 96 = .ok (.iload 4, 2) := by decide +kernel
theorem dX6_taxes_98 : decode cX6_taxes 98 = .ok (.if_icmp .ge 7, 3) := by decide +kernel
theorem dX6_taxes_101 : decode cX6_taxes 101 = .ok (.iload 7, 2) := by decide +kernel
theorem dX6_taxes_103 : decode cX6_taxes 103 = .ok (.istore 4, 2) := by decide +kernel
theorem dX6_taxes_105 : decode cX6_taxes 105 = .ok (.iload 7, 2) := by decide +kernel
theorem dX6_taxes_107 : decode cX6_taxes 107 = .ok (.iload_n 2, 1) := by decide +kernel
theorem dX6_taxes_108 : decode cX6_taxes 108 = .ok (.if_icmp .le 11, 3) := by decide +kernel
theorem dX6_taxes_111 : decode cX6_taxes 111 = .ok (.iload_n 2, 1) := by decide +kernel
theorem dX6_taxes_112 : decode cX6_taxes 112 = .ok (.istore_n 3, 1) := by decide +kernel
theorem dX6_taxes_113 : decode cX6_taxes 113 = .ok (.iload 7, 2) := by decide +kernel
theorem dX6_taxes_115 : decode cX6_taxes 115 = .ok (.istore_n 2, 1) := by decide +kernel
theorem dX6_taxes_116 : decode cX6_taxes 116 = .ok (.goto 12, 3) := by decide +kernel
theorem dX6_taxes_119 : decode cX6_taxes 119 = .ok (.iload 7, 2) := by decide +kernel
theorem dX6_taxes_121 : decode cX6_taxes 121 = .ok (.iload_n 3, 1) := by decide +kernel
theorem dX6_taxes_122 : decode cX6_taxes 122 = .ok (.if_icmp .le 6, 3) := by decide +kernel
theorem dX6_taxes_125 : decode cX6_taxes 125 = .ok (.iload 7, 2) := by decide +kernel
theorem dX6_taxes_127 : decode cX6_taxes 127 = .ok (.istore_n 3, 1) := by decide +kernel
theorem dX6_taxes_128 : decode cX6_taxes 128 = .ok (.iinc 6 1, 3) := by decide +kernel
theorem dX6_taxes_131 : decode cX6_taxes 131 = .ok (.goto (-95), 3) := by decide +kernel
theorem dX6_taxes_134 : decode cX6_taxes 134 = .ok (.iload_n 1, 1) := by decide +kernel
theorem dX6_taxes_135 : decode cX6_taxes 135 = .ok (.ifCond .ne 9, 3) := by decide +kernel
theorem dX6_taxes_138 : decode cX6_taxes 138 = .ok (.iload_n 2, 1) := by decide +kernel
theorem dX6_taxes_139 : decode cX6_taxes 139 = .ok (.iload_n 2, 1) := by decide +kernel
theorem dX6_taxes_140 : decode cX6_taxes 140 = .ok (.imul, 1) := by decide +kernel
theorem dX6_taxes_141 : decode cX6_taxes 141 = .ok (.goto 29, 3) := by decide +kernel
theorem dX6_taxes_144 : decode cX6_taxes 144 = .ok (.iload_n 1, 1) := by decide +kernel
theorem dX6_taxes_145 : decode cX6_taxes 145 = .ok (.iconst 1, 1) := by decide +kernel
theorem dX6_taxes_146 : decode cX6_taxes 146 = .ok (.if_icmp .ne 9, 3) := by decide +kernel
theorem dX6_taxes_149 : decode cX6_taxes 149 = .ok (.iload_n 3, 1) := by decide +kernel
theorem dX6_taxes_150 : decode cX6_taxes 150 = .ok (.iload_n 3, 1) := by decide +kernel
theorem dX6_taxes_151 : decode cX6_taxes 151 = .ok (.imul, 1) := by decide +kernel
theorem dX6_taxes_152 : decode cX6_taxes 152 = .ok (.goto 18, 3) := by decide +kernel
theorem dX6_taxes_155 : decode cX6_taxes 155 = .ok (.iload_n 1, 1) := by decide +kernel
theorem dX6_taxes_156 : decode cX6_taxes 156 = .ok (.iconst 2, 1) := by decide +kernel
theorem dX6_taxes_157 : decode cX6_taxes 157 = .ok (.if_icmp .ne 8, 3) := by decide +kernel
theorem dX6_taxes_160 : decode cX6_taxes 160 = .ok (.iload 5, 2) := by decide +kernel
theorem dX6_taxes_162 : decode cX6_taxes 162 = .ok (.goto 8, 3) := by decide +kernel
theorem dX6_taxes_165 : decode cX6_taxes 165 = .ok (.iload 4, 2) := by decide +kernel
theorem dX6_taxes_167 : decode cX6_taxes 167 = .ok (.iload 4, 2) := by decide +kernel
theorem dX6_taxes_169 : decode cX6_taxes 169 = .ok (.imul, 1) := by decide +kernel
theorem dX6_taxes_170 : decode cX6_taxes 170 = .ok (.ireturn, 1) := by decide +kernel
set_option maxRecDepth 20000 in
theorem ggX6_earnedNow_X6_changes : GoodIn wsX6_earnedNow wsX6_changes := goodIn_r _ [8, 2, 3, 21, 22, 23, 24, 25, 26, 27, 28, 29, 30, 31, 32, 33, 34, 35, 36, 37, 38, 39, 40, 41, 42, 43, 44] (by decide +kernel) (by decide +kernel)
set_option maxRecDepth 20000 in
theorem gX6_earnedNow_X6_changes : GoodIn wsX6_earnedNow (wsV RX6 146 RX6 yX6_changes wsX6_changes) := goodIn_app (goodIn_of _ (by decide +kernel)) ggX6_earnedNow_X6_changes
set_option maxRecDepth 20000 in
theorem ggX6_earnedNow_X6_which : GoodIn wsX6_earnedNow wsX6_which := goodIn_r _ [12, 3, 21, 22, 23, 24, 25, 26, 27, 28, 29, 30, 31, 32, 33, 34, 35, 36, 37, 38, 39, 40, 41, 42, 43, 44] (by decide +kernel) (by decide +kernel)
set_option maxRecDepth 20000 in
theorem gX6_earnedNow_X6_which : GoodIn wsX6_earnedNow (wsV RX6 137 RX6 yX6_which wsX6_which) := goodIn_app (goodIn_of _ (by decide +kernel)) ggX6_earnedNow_X6_which
set_option maxRecDepth 20000 in
theorem ggX6_earnedNow_X6_worthOf : GoodIn wsX6_earnedNow wsX6_worthOf := goodIn_r _ [16, 17, 18, 19, 20, 21, 22, 23, 24, 25, 26, 27, 28, 29, 30, 31, 32, 33, 34, 35, 36, 37, 38, 39, 40, 41, 42, 43, 44] (by decide +kernel) (by decide +kernel)
set_option maxRecDepth 20000 in
theorem gX6_earnedNow_X6_worthOf : GoodIn wsX6_earnedNow (wsV RX6 153 RX6 yX6_worthOf wsX6_worthOf) := goodIn_app (goodIn_of _ (by decide +kernel)) ggX6_earnedNow_X6_worthOf
theorem dX6_earnedNow_0 : decode cX6_earnedNow 0 = .ok (.aload_n 0, 1) := by decide +kernel
theorem dX6_earnedNow_1 : decode cX6_earnedNow 1 = .ok (.getfield 60, 3) := by decide +kernel
theorem dX6_earnedNow_4 : decode cX6_earnedNow 4 = .ok (.ineg, 1) := by decide +kernel
theorem dX6_earnedNow_5 : decode cX6_earnedNow 5 = .ok (.aload_n 0, 1) := by decide +kernel
theorem dX6_earnedNow_6 : decode cX6_earnedNow 6 = .ok (.invokevirtual 146, 3) := by decide +kernel
theorem dX6_earnedNow_9 : decode cX6_earnedNow 9 = .ok (.imul, 1) := by decide +kernel
theorem dX6_earnedNow_10 : decode cX6_earnedNow 10 = .ok (.istore_n 1, 1) := by decide +kernel
theorem dX6_earnedNow_11 : decode cX6_earnedNow 11 = .ok (.iconst 0, 1) := by decide +kernel
theorem dX6_earnedNow_12 : decode cX6_earnedNow 12 = .ok (.istore_n 2, 1) := by decide +kernel
theorem dX6_earnedNow_13 : decode cX6_earnedNow 13 = .ok (.iload_n 2, 1) := by decide +kernel
theorem dX6_earnedNow_14 : decode cX6_earnedNow 14 = .ok (.aload_n 0, 1) := by decide +kernel
theorem dX6_earnedNow_15 : decode cX6_earnedNow 15 = .ok (.getfield 78, 3) := by decide +kernel
theorem dX6_earnedNow_18 : decode cX6_earnedNow 18 = .ok (.if_icmp .ge 27, 3) := by decide +kernel
theorem dX6_earnedNow_21 : decode cX6_earnedNow 21 = .ok (.iload_n 1, 1) := by decide +kernel
theorem dX6_earnedNow_22 : decode cX6_earnedNow 22 = .ok (.aload_n 0, 1) := by decide +kernel
theorem dX6_earnedNow_23 : decode cX6_earnedNow 23 = .ok (.aload_n 0, 1) := by decide +kernel
theorem dX6_earnedNow_24 : decode cX6_earnedNow 24 = .ok (.getfield 22, 3) := by decide +kernel
theorem dX6_earnedNow_27 : decode cX6_earnedNow 27 = .ok (.iload_n 2, 1) := by decide +kernel
theorem dX6_earnedNow_28 : decode cX6_earnedNow 28 = .ok (.iaload, 1) := by decide +kernel
theorem dX6_earnedNow_29 : decode cX6_earnedNow 29 = .ok (.aload_n 0, 1) := by decide +kernel
theorem dX6_earnedNow_30 : decode cX6_earnedNow 30 = .ok (.iload_n 2, 1) := by decide +kernel
theorem dX6_earnedNow_31 : decode cX6_earnedNow 31 = .ok (.invokevirtual 137, 3) := by decide +kernel
theorem dX6_earnedNow_34 : decode cX6_earnedNow 34 = .ok (.invokevirtual 153, 3) := by decide +kernel
theorem dX6_earnedNow_37 : decode cX6_earnedNow 37 = .ok (.iadd, 1) := by decide +kernel
theorem dX6_earnedNow_38 : decode cX6_earnedNow 38 = .ok (.istore_n 1, 1) := by decide +kernel
theorem dX6_earnedNow_39 : decode cX6_earnedNow 39 = .ok (.iinc 2 1, 3) := by decide +kernel
theorem dX6_earnedNow_42 : decode cX6_earnedNow 42 = .ok (.goto (-29), 3) := by decide +kernel
theorem dX6_earnedNow_45 : decode cX6_earnedNow 45 = .ok (.iload_n 1, 1) := by decide +kernel
theorem dX6_earnedNow_46 : decode cX6_earnedNow 46 = .ok (.ireturn, 1) := by decide +kernel
set_option maxRecDepth 20000 in
theorem ggX6_leftNow_X6_earnedNow : GoodIn wsX6_leftNow wsX6_earnedNow := goodIn_r _ [6, 7, 8, 9, 10, 11, 12, 5, 13, 14, 15, 16, 17, 18, 19, 20, 21, 22, 23, 24, 25, 39, 40, 41, 42, 43, 44, 45, 46, 47, 48, 49, 50, 51, 52, 53, 54, 55, 56, 57, 58, 59, 60, 61, 62] (by decide +kernel) (by decide +kernel)
set_option maxRecDepth 20000 in
theorem gX6_leftNow_X6_earnedNow : GoodIn wsX6_leftNow (wsV RX6 156 RX6 yX6_earnedNow wsX6_earnedNow) := goodIn_app (goodIn_of _ (by decide +kernel)) ggX6_leftNow_X6_earnedNow
set_option maxRecDepth 20000 in
theorem ggX6_leftNow_X6_taxes : GoodIn wsX6_leftNow wsX6_taxes := goodIn_r _ [29, 8, 9, 10, 11, 12, 5, 13, 30, 31, 32, 33, 34, 35, 36, 37, 38, 22, 14, 15, 16, 17, 39, 40, 41, 42, 43, 44, 45, 46, 47, 48, 49, 50, 51, 52, 53, 54, 55, 56, 57, 58, 59, 60, 61, 62] (by decide +kernel) (by decide +kernel)
set_option maxRecDepth 20000 in
theorem gX6_leftNow_X6_taxes : GoodIn wsX6_leftNow (wsV RX6 159 RX6 yX6_taxes wsX6_taxes) := goodIn_app (goodIn_of _ (by decide +kernel)) ggX6_leftNow_X6_taxes
theorem dX6_leftNow_0 : decode cX6_leftNow 0 = .ok (.aload_n 0, 1) := by decide +kernel
theorem dX6_leftNow_1 : decode cX6_leftNow 1 = .ok (.invokevirtual 156, 3) := by decide +kernel
theorem dX6_leftNow_4 : decode cX6_leftNow 4 = .ok (.aload_n 0, 1) := by decide +kernel
theorem dX6_leftNow_5 : decode cX6_leftNow 5 = .ok (.aload_n 0, 1) := by decide +kernel
theorem dX6_leftNow_6 : decode cX6_leftNow 6 = .ok (.getfield 114, 3) := by decide +kernel
theorem dX6_leftNow_9 : decode cX6_leftNow 9 = .ok (.invokevirtual 159, 3) := by decide +kernel
theorem dX6_leftNow_12 : decode cX6_leftNow 12 = .ok (.isub, 1) := by decide +kernel
theorem dX6_leftNow_13 : decode cX6_leftNow 13 = .ok (.ireturn, 1) := by decide +kernel
set_option maxRecDepth 20000 in
theorem ggX6_longest_X6_longestNow : GoodIn wsX6_longest wsX6_longestNow := goodIn_r _ [5, 6, 7, 8, 9, 10, 11, 12, 13, 14, 4, 15, 16, 17, 18, 19, 20, 21, 22, 23, 24, 25, 26, 27, 28, 29, 30, 31, 32, 33, 34, 35, 36, 37, 38, 39, 40, 41, 42, 43, 44, 45] (by decide +kernel) (by decide +kernel)
set_option maxRecDepth 20000 in
theorem gX6_longest_X6_longestNow : GoodIn wsX6_longest (wsV RX6 162 RX6 yX6_longestNow wsX6_longestNow) := goodIn_app (goodIn_of _ (by decide +kernel)) ggX6_longest_X6_longestNow
theorem dX6_longest_0 : decode cX6_longest 0 = .ok (.aload_n 0, 1) := by decide +kernel
theorem dX6_longest_1 : decode cX6_longest 1 = .ok (.invokevirtual 162, 3) := by decide +kernel
theorem dX6_longest_4 : decode cX6_longest 4 = .ok (.ireturn, 1) := by decide +kernel
set_option maxRecDepth 20000 in
theorem ggX6_stretches_X6_isLast : GoodIn wsX6_stretches wsX6_isLast := goodIn_r _ [7, 1, 2, 14, 15, 16, 17, 18, 19, 20, 21, 22, 23, 24, 25, 26, 27, 28, 29, 30, 31, 32, 33, 34, 35, 36, 37] (by decide +kernel) (by decide +kernel)
set_option maxRecDepth 20000 in
theorem gX6_stretches_X6_isLast : GoodIn wsX6_stretches (wsV RX6 150 RX6 yX6_isLast wsX6_isLast) := goodIn_app (goodIn_of _ (by decide +kernel)) ggX6_stretches_X6_isLast
set_option maxRecDepth 20000 in
theorem ggX6_stretches_X6_counts : GoodIn wsX6_stretches wsX6_counts := goodIn_r _ [11, 12, 13, 14, 15, 16, 17, 18, 19, 20, 21, 22, 23, 24, 25, 26, 27, 28, 29, 30, 31, 32, 33, 34, 35, 36, 37] (by decide +kernel) (by decide +kernel)
set_option maxRecDepth 20000 in
theorem gX6_stretches_X6_counts : GoodIn wsX6_stretches (wsV RX6 134 RX6 yX6_counts wsX6_counts) := goodIn_app (goodIn_of _ (by decide +kernel)) ggX6_stretches_X6_counts
theorem dX6_stretches_0 : decode cX6_stretches 0 = .ok (.iconst 0, 1) := by decide +kernel
theorem dX6_stretches_1 : decode cX6_stretches 1 = .ok (.istore_n 1, 1) := by decide +kernel
theorem dX6_stretches_2 : decode cX6_stretches 2 = .ok (.iconst 0, 1) := by decide +kernel
theorem dX6_stretches_3 : decode cX6_stretches 3 = .ok (.istore_n 2, 1) := by decide +kernel
theorem dX6_stretches_4 : decode cX6_stretches 4 = .ok (.iload_n 2, 1) := by decide +kernel
theorem dX6_stretches_5 : decode cX6_stretches 5 = .ok (.aload_n 0, 1) := by decide +kernel
theorem dX6_stretches_6 : decode cX6_stretches 6 = .ok (.getfield 78, 3) := by decide +kernel
theorem dX6_stretches_9 : decode cX6_stretches 9 = .ok (.if_icmp .ge 33, 3) := by decide +kernel
theorem dX6_stretches_12 : decode cX6_stretches 12 = .ok (.aload_n 0, 1) := by decide +kernel
theorem dX6_stretches_13 : decode cX6_stretches 13 = .ok (.iload_n 2, 1) := by decide +kernel
theorem dX6_stretches_14 : decode cX6_stretches 14 = .ok (.invokevirtual 150, 3) := by decide +kernel
theorem dX6_stretches_17 : decode cX6_stretches 17 = .ok (.ifCond .eq 19, 3) := by decide +kernel
theorem dX6_stretches_20 : decode cX6_stretches 20 = .ok (.aload_n 0, 1) := by decide +kernel
theorem dX6_stretches_21 : decode cX6_stretches 21 = .ok (.aload_n 0, 1) := by decide +kernel
theorem dX6_stretches_22 : decode cX6_stretches 22 = .ok (.getfield 22, 3) := by decide +kernel
theorem dX6_stretches_25 : decode cX6_stretches 25 = .ok (.iload_n 2, 1) := by decide +kernel
theorem dX6_stretches_26 : decode cX6_stretches 26 = .ok (.iaload, 1) := by decide +kernel
theorem dX6_stretches_27 : decode cX6_stretches 27 = .ok (.invokevirtual 134, 3) := by decide +kernel
theorem dX6_stretches_30 : decode cX6_stretches 30 = .ok (.ifCond .eq 6, 3) := by decide +kernel
theorem dX6_stretches_33 : decode cX6_stretches 33 = .ok (.iinc 1 1, 3) := by decide +kernel
theorem dX6_stretches_36 : decode cX6_stretches 36 = .ok (.iinc 2 1, 3) := by decide +kernel
theorem dX6_stretches_39 : decode cX6_stretches 39 = .ok (.goto (-35), 3) := by decide +kernel
theorem dX6_stretches_42 : decode cX6_stretches 42 = .ok (.iload_n 1, 1) := by decide +kernel
theorem dX6_stretches_43 : decode cX6_stretches 43 = .ok (.ireturn, 1) := by decide +kernel
set_option maxRecDepth 20000 in
theorem ggX6_stretch_X6_isDay : GoodIn wsX6_stretch wsX6_isDay := goodIn_r _ [5, 6, 7, 8, 4, 9, 24, 25, 26, 27, 28, 29, 30, 31, 32, 33, 34, 35, 36, 37, 38, 39, 40, 41, 42, 43, 44, 45, 46, 47] (by decide +kernel) (by decide +kernel)
set_option maxRecDepth 20000 in
theorem gX6_stretch_X6_isDay : GoodIn wsX6_stretch (wsV RX6 117 RX6 yX6_isDay wsX6_isDay) := goodIn_app (goodIn_of _ (by decide +kernel)) ggX6_stretch_X6_isDay
set_option maxRecDepth 20000 in
theorem ggX6_stretch_X6_no : GoodIn wsX6_stretch wsX6_no := goodIn_r _ [13, 14, 24, 25, 26, 27, 28, 29, 30, 31, 32, 33, 34, 35, 36, 37, 38, 39, 40, 41, 42, 43, 44, 45, 46, 47] (by decide +kernel) (by decide +kernel)
set_option maxRecDepth 20000 in
theorem gX6_stretch_X6_no : GoodIn wsX6_stretch (wsV RX6 65 RX6 yX6_no wsX6_no) := goodIn_app (goodIn_of _ (by decide +kernel)) ggX6_stretch_X6_no
set_option maxRecDepth 20000 in
theorem ggX6_stretch_X6_within : GoodIn wsX6_stretch wsX6_within := goodIn_r _ [9] (by decide +kernel) (by decide +kernel)
set_option maxRecDepth 20000 in
theorem gX6_stretch_X6_within : GoodIn wsX6_stretch (va_wsS RX6 74 yX6_within wsX6_within) := goodIn_app (goodIn_of _ (by decide +kernel)) ggX6_stretch_X6_within
set_option maxRecDepth 20000 in
theorem ggX6_stretch_X6_which : GoodIn wsX6_stretch wsX6_which := goodIn_r _ [18, 19, 24, 25, 26, 27, 28, 29, 30, 31, 32, 33, 34, 35, 36, 37, 38, 39, 40, 41, 42, 43, 44, 45, 46, 47] (by decide +kernel) (by decide +kernel)
set_option maxRecDepth 20000 in
theorem gX6_stretch_X6_which : GoodIn wsX6_stretch (wsV RX6 137 RX6 yX6_which wsX6_which) := goodIn_app (goodIn_of _ (by decide +kernel)) ggX6_stretch_X6_which
set_option maxRecDepth 20000 in
theorem ggX6_stretch_X6_isLast : GoodIn wsX6_stretch wsX6_isLast := goodIn_r _ [23, 6, 19, 24, 25, 26, 27, 28, 29, 30, 31, 32, 33, 34, 35, 36, 37, 38, 39, 40, 41, 42, 43, 44, 45, 46, 47] (by decide +kernel) (by decide +kernel)
set_option maxRecDepth 20000 in
theorem gX6_stretch_X6_isLast : GoodIn wsX6_stretch (wsV RX6 150 RX6 yX6_isLast wsX6_isLast) := goodIn_app (goodIn_of _ (by decide +kernel)) ggX6_stretch_X6_isLast
theorem dX6_stretch_0 : decode cX6_stretch 0 = .ok (.aload_n 0, 1) := by decide +kernel
theorem dX6_stretch_1 : decode cX6_stretch 1 = .ok (.iload_n 1, 1) := by decide +kernel
theorem dX6_stretch_2 : decode cX6_stretch 2 = .ok (.invokevirtual 117, 3) := by decide +kernel
theorem dX6_stretch_5 : decode cX6_stretch 5 = .ok (.ifCond .ne 9, 3) := by decide +kernel
theorem dX6_stretch_8 : decode cX6_stretch 8 = .ok (.aload_n 0, 1) := by decide +kernel
theorem dX6_stretch_9 : decode cX6_stretch 9 = .ok (.iconst (-1), 1) := by decide +kernel
theorem dX6_stretch_10 : decode cX6_stretch 10 = .ok (.invokevirtual 65, 3) := by decide +kernel
theorem dX6_stretch_13 : decode cX6_stretch 13 = .ok (.ireturn, 1) := by decide +kernel
theorem dX6_stretch_14 : decode cX6_stretch 14 = .ok (.iload_n 2, 1) := by decide +kernel
theorem dX6_stretch_15 : decode cX6_stretch 15 = .ok (.iconst 0, 1) := by decide +kernel
theorem dX6_stretch_16 : decode cX6_stretch 16 = .ok (.iconst 1, 1) := by decide +kernel
theorem dX6_stretch_17 : decode cX6_stretch 17 = .ok (.invokestatic 74, 3) := by decide +kernel
theorem dX6_stretch_20 : decode cX6_stretch 20 = .ok (.ifCond .ne 10, 3) := by decide +kernel
theorem dX6_stretch_23 : decode cX6_stretch 23 = .ok (.aload_n 0, 1) := by decide +kernel
theorem dX6_stretch_24 : decode cX6_stretch 24 = .ok (.bipush (-2), 2) := by decide +kernel
theorem dX6_stretch_26 : decode cX6_stretch 26 = .ok (.invokevirtual 65, 3) := by decide +kernel
theorem dX6_stretch_29 : decode cX6_stretch 29 = .ok (.ireturn, 1) := by decide +kernel
theorem dX6_stretch_30 : decode cX6_stretch 30 = .ok (.iload_n 2, 1) := by decide +kernel
theorem dX6_stretch_31 : decode cX6_stretch 31 = .ok (.iconst 1, 1) := by decide +kernel
theorem dX6_stretch_32 : decode cX6_stretch 32 = .ok (.if_icmp .ne 9, 3) := by decide +kernel
theorem dX6_stretch_35 : decode cX6_stretch 35 = .ok (.aload_n 0, 1) := by decide +kernel
theorem dX6_stretch_36 : decode cX6_stretch 36 = .ok (.iload_n 1, 1) := by decide +kernel
theorem dX6_stretch_37 : decode cX6_stretch 37 = .ok (.invokevirtual 137, 3) := by decide +kernel
theorem dX6_stretch_40 : decode cX6_stretch 40 = .ok (.ireturn, 1) := by decide +kernel
theorem dX6_stretch_41 : decode cX6_stretch 41 = .ok (.iload_n 1, 1) := by decide +kernel
theorem dX6_stretch_42 : decode cX6_stretch 42 = .ok (.istore_n 3, 1) := by decide +kernel
theorem dX6_stretch_43 : decode cX6_stretch 43 = .ok (.aload_n 0, 1) := by decide +kernel
theorem dX6_stretch_44 : decode cX6_stretch 44 = .ok (.iload_n 3, 1) := by decide +kernel
theorem dX6_stretch_45 : decode cX6_stretch 45 = .ok (.invokevirtual 150, 3) := by decide +kernel
theorem dX6_stretch_48 : decode cX6_stretch 48 = .ok (.ifCond .ne 9, 3) := by decide +kernel
theorem dX6_stretch_51 : decode cX6_stretch 51 = .ok (.iinc 3 1, 3) := by decide +kernel
theorem dX6_stretch_54 : decode cX6_stretch 54 = .ok (.goto (-11), 3) := by decide +kernel
theorem dX6_stretch_57 : decode cX6_stretch 57 = .ok (.aload_n 0, 1) := by decide +kernel
theorem dX6_stretch_58 : decode cX6_stretch 58 = .ok (.iload_n 3, 1) := by decide +kernel
theorem dX6_stretch_59 : decode cX6_stretch 59 = .ok (.invokevirtual 137, 3) := by decide +kernel
theorem dX6_stretch_62 : decode cX6_stretch 62 = .ok (.ireturn, 1) := by decide +kernel
set_option maxRecDepth 20000 in
theorem ggX6_worth_X6_isDay : GoodIn wsX6_worth wsX6_isDay := goodIn_r _ [7, 8, 9, 10, 6, 11, 34, 35, 36, 37, 38, 39, 40, 41, 42, 43, 44, 45, 46, 47, 48, 49, 50, 51, 52, 53, 54, 55, 56, 57] (by decide +kernel) (by decide +kernel)
set_option maxRecDepth 20000 in
theorem gX6_worth_X6_isDay : GoodIn wsX6_worth (wsV RX6 117 RX6 yX6_isDay wsX6_isDay) := goodIn_app (goodIn_of _ (by decide +kernel)) ggX6_worth_X6_isDay
set_option maxRecDepth 20000 in
theorem ggX6_worth_X6_noFar : GoodIn wsX6_worth wsX6_noFar := goodIn_r _ [15, 16, 17, 18, 19, 6, 20, 21, 34, 35, 36, 37, 38, 39, 40, 41, 42, 43, 44, 45, 46, 47, 48, 49, 50, 51, 52, 53, 54, 55, 56, 57] (by decide +kernel) (by decide +kernel)
set_option maxRecDepth 20000 in
theorem gX6_worth_X6_noFar : GoodIn wsX6_worth (wsV RX6 165 RX6 yX6_noFar wsX6_noFar) := goodIn_app (goodIn_of _ (by decide +kernel)) ggX6_worth_X6_noFar
set_option maxRecDepth 20000 in
theorem ggX6_worth_X6_which : GoodIn wsX6_worth wsX6_which := goodIn_r _ [25, 2, 34, 35, 36, 37, 38, 39, 40, 41, 42, 43, 44, 45, 46, 47, 48, 49, 50, 51, 52, 53, 54, 55, 56, 57] (by decide +kernel) (by decide +kernel)
set_option maxRecDepth 20000 in
theorem gX6_worth_X6_which : GoodIn wsX6_worth (wsV RX6 137 RX6 yX6_which wsX6_which) := goodIn_app (goodIn_of _ (by decide +kernel)) ggX6_worth_X6_which
set_option maxRecDepth 20000 in
theorem ggX6_worth_X6_worthOf : GoodIn wsX6_worth wsX6_worthOf := goodIn_r _ [29, 30, 31, 32, 33, 34, 35, 36, 37, 38, 39, 40, 41, 42, 43, 44, 45, 46, 47, 48, 49, 50, 51, 52, 53, 54, 55, 56, 57] (by decide +kernel) (by decide +kernel)
set_option maxRecDepth 20000 in
theorem gX6_worth_X6_worthOf : GoodIn wsX6_worth (wsV RX6 153 RX6 yX6_worthOf wsX6_worthOf) := goodIn_app (goodIn_of _ (by decide +kernel)) ggX6_worth_X6_worthOf
theorem dX6_worth_0 : decode cX6_worth 0 = .ok (.aload_n 0, 1) := by decide +kernel
theorem dX6_worth_1 : decode cX6_worth 1 = .ok (.iload_n 1, 1) := by decide +kernel
theorem dX6_worth_2 : decode cX6_worth 2 = .ok (.invokevirtual 117, 3) := by decide +kernel
theorem dX6_worth_5 : decode cX6_worth 5 = .ok (.ifCond .ne 9, 3) := by decide +kernel
theorem dX6_worth_8 : decode cX6_worth 8 = .ok (.aload_n 0, 1) := by decide +kernel
theorem dX6_worth_9 : decode cX6_worth 9 = .ok (.iconst (-1), 1) := by decide +kernel
theorem dX6_worth_10 : decode cX6_worth 10 = .ok (.invokevirtual 165, 3) := by decide +kernel
theorem dX6_worth_13 : decode cX6_worth 13 = .ok (.ireturn, 1) := by decide +kernel
theorem dX6_worth_14 : decode cX6_worth 14 = .ok (.aload_n 0, 1) := by decide +kernel
theorem dX6_worth_15 : decode cX6_worth 15 = .ok (.getfield 71, 3) := by decide +kernel
theorem dX6_worth_18 : decode cX6_worth 18 = .ok (.ifCond .ne 12, 3) := by decide +kernel
theorem dX6_worth_21 : decode cX6_worth 21 = .ok (.aload_n 0, 1) := by decide +kernel
theorem dX6_worth_22 : decode cX6_worth 22 = .ok (.bipush (-3), 2) := by decide +kernel
theorem dX6_worth_24 : decode cX6_worth 24 = .ok (.invokevirtual 165, 3) := by decide +kernel
theorem dX6_worth_27 : decode cX6_worth 27 = .ok (.goto 18, 3) := by decide +kernel
theorem dX6_worth_30 : decode cX6_worth 30 = .ok (.aload_n 0, 1) := by decide +kernel
theorem dX6_worth_31 : decode cX6_worth 31 = .ok (.aload_n 0, 1) := by decide +kernel
theorem dX6_worth_32 : decode cX6_worth 32 = .ok (.getfield 22, 3) := by decide +kernel
theorem dX6_worth_35 : decode cX6_worth 35 = .ok (.iload_n 1, 1) := by decide +kernel
theorem dX6_worth_36 : decode cX6_worth 36 = .ok (.iaload, 1) := by decide +kernel
theorem dX6_worth_37 : decode cX6_worth 37 = .ok (.aload_n 0, 1) := by decide +kernel
theorem dX6_worth_38 : decode cX6_worth 38 = .ok (.iload_n 1, 1) := by decide +kernel
theorem dX6_worth_39 : decode cX6_worth 39 = .ok (.invokevirtual 137, 3) := by decide +kernel
theorem dX6_worth_42 : decode cX6_worth 42 = .ok (.invokevirtual 153, 3) := by decide +kernel
theorem dX6_worth_45 : decode cX6_worth 45 = .ok (.ireturn, 1) := by decide +kernel
set_option maxRecDepth 20000 in
theorem ggX6_earned_X6_noFar : GoodIn wsX6_earned wsX6_noFar := goodIn_r _ [6, 7, 8, 9, 10, 5, 11, 12, 36, 37, 38, 39, 40, 41, 42, 43, 44, 45, 46, 47, 48, 49, 50, 51, 52, 53, 54, 55, 56, 57, 58, 59] (by decide +kernel) (by decide +kernel)
set_option maxRecDepth 20000 in
theorem gX6_earned_X6_noFar : GoodIn wsX6_earned (wsV RX6 165 RX6 yX6_noFar wsX6_noFar) := goodIn_app (goodIn_of _ (by decide +kernel)) ggX6_earned_X6_noFar
set_option maxRecDepth 20000 in
theorem ggX6_earned_X6_earnedNow : GoodIn wsX6_earned wsX6_earnedNow := goodIn_r _ [16, 17, 18, 19, 20, 21, 22, 5, 23, 24, 25, 26, 27, 28, 29, 30, 31, 32, 33, 34, 35, 36, 37, 38, 39, 40, 41, 42, 43, 44, 45, 46, 47, 48, 49, 50, 51, 52, 53, 54, 55, 56, 57, 58, 59] (by decide +kernel) (by decide +kernel)
set_option maxRecDepth 20000 in
theorem gX6_earned_X6_earnedNow : GoodIn wsX6_earned (wsV RX6 156 RX6 yX6_earnedNow wsX6_earnedNow) := goodIn_app (goodIn_of _ (by decide +kernel)) ggX6_earned_X6_earnedNow
theorem dX6_earned_0 : decode cX6_earned 0 = .ok (.aload_n 0, 1) := by decide +kernel
theorem dX6_earned_1 : decode cX6_earned 1 = .ok (.getfield 71, 3) := by decide +kernel
theorem dX6_earned_4 : decode cX6_earned 4 = .ok (.ifCond .ne 12, 3) := by decide +kernel
theorem dX6_earned_7 : decode cX6_earned 7 = .ok (.aload_n 0, 1) := by decide +kernel
theorem dX6_earned_8 : decode cX6_earned 8 = .ok (.bipush (-3), 2) := by decide +kernel
theorem dX6_earned_10 : decode cX6_earned 10 = .ok (.invokevirtual 165, 3) := by decide +kernel
theorem dX6_earned_13 : decode cX6_earned 13 = .ok (.goto 7, 3) := by decide +kernel
theorem dX6_earned_16 : decode cX6_earned 16 = .ok (.aload_n 0, 1) := by decide +kernel
theorem dX6_earned_17 : decode cX6_earned 17 = .ok (.invokevirtual 156, 3) := by decide +kernel
theorem dX6_earned_20 : decode cX6_earned 20 = .ok (.ireturn, 1) := by decide +kernel
set_option maxRecDepth 20000 in
theorem ggX6_pays_X6_no : GoodIn wsX6_pays wsX6_no := goodIn_r _ [7, 8, 32, 33, 34, 35, 36, 37, 38, 39, 40, 41, 42, 43, 44, 45, 46, 47, 48, 49, 50, 51, 52, 53, 54, 55] (by decide +kernel) (by decide +kernel)
set_option maxRecDepth 20000 in
theorem gX6_pays_X6_no : GoodIn wsX6_pays (wsV RX6 65 RX6 yX6_no wsX6_no) := goodIn_app (goodIn_of _ (by decide +kernel)) ggX6_pays_X6_no
set_option maxRecDepth 20000 in
theorem ggX6_pays_X6_taxes : GoodIn wsX6_pays wsX6_taxes := goodIn_r _ [12, 13, 14, 15, 16, 17, 6, 18, 19, 20, 21, 22, 23, 24, 25, 26, 1, 27, 28, 29, 30, 31, 32, 33, 34, 35, 36, 37, 38, 39, 40, 41, 42, 43, 44, 45, 46, 47, 48, 49, 50, 51, 52, 53, 54, 55] (by decide +kernel) (by decide +kernel)
set_option maxRecDepth 20000 in
theorem gX6_pays_X6_taxes : GoodIn wsX6_pays (wsV RX6 159 RX6 yX6_taxes wsX6_taxes) := goodIn_app (goodIn_of _ (by decide +kernel)) ggX6_pays_X6_taxes
theorem dX6_pays_0 : decode cX6_pays 0 = .ok (.aload_n 0, 1) := by decide +kernel
theorem dX6_pays_1 : decode cX6_pays 1 = .ok (.getfield 71, 3) := by decide +kernel
theorem dX6_pays_4 : decode cX6_pays 4 = .ok (.ifCond .ne 12, 3) := by decide +kernel
theorem dX6_pays_7 : decode cX6_pays 7 = .ok (.aload_n 0, 1) := by decide +kernel
theorem dX6_pays_8 : decode cX6_pays 8 = .ok (.bipush (-3), 2) := by decide +kernel
theorem dX6_pays_10 : decode cX6_pays 10 = .ok (.invokevirtual 65, 3) := by decide +kernel
theorem dX6_pays_13 : decode cX6_pays 13 = .ok (.goto 11, 3) := by decide +kernel
theorem dX6_pays_16 : decode cX6_pays 16 = .ok (.aload_n 0, 1) := by decide +kernel
theorem dX6_pays_17 : decode cX6_pays 17 = .ok (.aload_n 0, 1) := by decide +kernel
theorem dX6_pays_18 : decode cX6_pays 18 = .ok (.getfield 114, 3) := by decide +kernel
theorem dX6_pays_21 : decode cX6_pays 21 = .ok (.invokevirtual 159, 3) := by decide +kernel
theorem dX6_pays_24 : decode cX6_pays 24 = .ok (.ireturn, 1) := by decide +kernel
set_option maxRecDepth 20000 in
theorem ggX6_left_X6_noFar : GoodIn wsX6_left wsX6_noFar := goodIn_r _ [6, 7, 8, 9, 10, 5, 11, 12, 53, 54, 55, 56, 57, 58, 59, 60, 61, 62, 63, 64, 65, 66, 67, 68, 69, 70, 71, 72, 73, 74, 75, 76] (by decide +kernel) (by decide +kernel)
set_option maxRecDepth 20000 in
theorem gX6_left_X6_noFar : GoodIn wsX6_left (wsV RX6 165 RX6 yX6_noFar wsX6_noFar) := goodIn_app (goodIn_of _ (by decide +kernel)) ggX6_left_X6_noFar
set_option maxRecDepth 20000 in
theorem ggX6_left_X6_leftNow : GoodIn wsX6_left wsX6_leftNow := goodIn_r _ [16, 17, 18, 19, 20, 5, 21, 22, 23, 24, 25, 26, 27, 28, 29, 30, 31, 32, 33, 34, 35, 36, 37, 38, 39, 40, 41, 42, 43, 44, 45, 46, 47, 48, 49, 50, 51, 52, 1, 53, 54, 55, 56, 57, 58, 59, 60, 61, 62, 63, 64, 65, 66, 67, 68, 69, 70, 71, 72, 73, 74, 75, 76] (by decide +kernel) (by decide +kernel)
set_option maxRecDepth 20000 in
theorem gX6_left_X6_leftNow : GoodIn wsX6_left (wsV RX6 168 RX6 yX6_leftNow wsX6_leftNow) := goodIn_app (goodIn_of _ (by decide +kernel)) ggX6_left_X6_leftNow
theorem dX6_left_0 : decode cX6_left 0 = .ok (.aload_n 0, 1) := by decide +kernel
theorem dX6_left_1 : decode cX6_left 1 = .ok (.getfield 71, 3) := by decide +kernel
theorem dX6_left_4 : decode cX6_left 4 = .ok (.ifCond .ne 12, 3) := by decide +kernel
theorem dX6_left_7 : decode cX6_left 7 = .ok (.aload_n 0, 1) := by decide +kernel
theorem dX6_left_8 : decode cX6_left 8 = .ok (.bipush (-3), 2) := by decide +kernel
theorem dX6_left_10 : decode cX6_left 10 = .ok (.invokevirtual 165, 3) := by decide +kernel
theorem dX6_left_13 : decode cX6_left 13 = .ok (.goto 7, 3) := by decide +kernel
theorem dX6_left_16 : decode cX6_left 16 = .ok (.aload_n 0, 1) := by decide +kernel
theorem dX6_left_17 : decode cX6_left 17 = .ok (.invokevirtual 168, 3) := by decide +kernel
theorem dX6_left_20 : decode cX6_left 20 = .ok (.ireturn, 1) := by decide +kernel
set_option maxRecDepth 20000 in
theorem ggX6_allowed_X6_on : GoodIn wsX6_allowed wsX6_on := goodIn_r _ [12, 13, 3, 14, 15, 16, 17, 11, 18, 2, 19, 20, 21, 22, 23, 24, 25, 26, 27, 28, 29, 30, 31, 32, 33, 34, 35, 36, 37, 38, 39, 40, 41, 42, 43, 44, 45, 46, 47, 48, 49, 50] (by decide +kernel) (by decide +kernel)
set_option maxRecDepth 20000 in
theorem gX6_allowed_X6_on : GoodIn wsX6_allowed (wsV RX6 171 RX6 yX6_on wsX6_on) := goodIn_app (goodIn_of _ (by decide +kernel)) ggX6_allowed_X6_on
theorem dX6_allowed_0 : decode cX6_allowed 0 = .ok (.aload_n 0, 1) := by decide +kernel
theorem dX6_allowed_1 : decode cX6_allowed 1 = .ok (.getfield 78, 3) := by decide +kernel
theorem dX6_allowed_4 : decode cX6_allowed 4 = .ok (.istore_n 2, 1) := by decide +kernel
theorem dX6_allowed_5 : decode cX6_allowed 5 = .ok (.iload_n 2, 1) := by decide +kernel
theorem dX6_allowed_6 : decode cX6_allowed 6 = .ok (.ifCond .lt 120, 3) := by decide +kernel
theorem dX6_allowed_9 : decode cX6_allowed 9 = .ok (.iconst 0, 1) := by decide +kernel
theorem dX6_allowed_10 : decode cX6_allowed 10 = .ok (.istore_n 3, 1) := by decide +kernel
theorem dX6_allowed_11 : decode cX6_allowed 11 = .ok (.iload_n 3, 1) := by decide +kernel
theorem dX6_allowed_12 : decode cX6_allowed 12 = .ok (.aload_n 0, 1) := by decide +kernel
theorem dX6_allowed_13 : decode cX6_allowed 13 = .ok (.getfield 71, 3) := by decide +kernel
theorem dX6_allowed_16 : decode cX6_allowed 16 = .ok (.if_icmp .ge 104, 3) := by decide +kernel
theorem dX6_allowed_19 : decode cX6_allowed 19 = .ok (.iconst 1, 1) := by decide +kernel
theorem dX6_allowed_20 : decode cX6_allowed 20 = .ok (.istore 4, 2) := by decide +kernel
theorem dX6_allowed_22 : decode cX6_allowed 22 = .ok (.iload 4, 2) := by decide +kernel
theorem dX6_allowed_24 : decode cX6_allowed 24 = .ok (.bipush 21, 2) := by decide +kernel
theorem dX6_allowed_26 : decode cX6_allowed 26 = .ok (.if_icmp .ge 88, 3) := by decide +kernel
theorem dX6_allowed_29 : decode cX6_allowed 29 = .ok (.sipush (-999), 3) := by decide +kernel
theorem dX6_allowed_32 : decode cX6_allowed 32 = .ok (.istore 5, 2) := by decide +kernel
theorem dX6_allowed_34 : decode cX6_allowed 34 = .ok (.iload_n 2, 1) := by decide +kernel
theorem dX6_allowed_35 : decode cX6_allowed 35 = .ok (.aload_n 0, 1) := by decide +kernel
theorem dX6_allowed_36 : decode cX6_allowed 36 = .ok (.getfield 78, 3) := by decide +kernel
theorem dX6_allowed_39 : decode cX6_allowed 39 = .ok (.if_icmp .ne 9, 3) := by decide +kernel
theorem dX6_allowed_42 : decode cX6_allowed 42 = .ok (.iconst 0, 1) := by decide +kernel
theorem dX6_allowed_43 : decode cX6_allowed 43 = .ok (.istore 5, 2) := by decide +kernel
theorem dX6_allowed_45 : decode cX6_allowed 45 = .ok (.goto 45, 3) := by decide +kernel
theorem dX6_allowed_48 : decode cX6_allowed 48 = .ok (.iconst 0, 1) := by decide +kernel
theorem dX6_allowed_49 : decode cX6_allowed 49 = .ok (.istore 6, 2) := by decide +kernel
theorem dX6_allowed_51 : decode cX6_allowed 51 = .ok (.iload 6, 2) := by decide +kernel
theorem dX6_allowed_53 : decode cX6_allowed 53 = .ok (.aload_n 0, 1) := by decide +kernel
theorem dX6_allowed_54 : decode cX6_allowed 54 = .ok (.getfield 71, 3) := by decide +kernel
theorem dX6_allowed_57 : decode cX6_allowed 57 = .ok (.if_icmp .ge 33, 3) := by decide +kernel
theorem dX6_allowed_60 : decode cX6_allowed 60 = .ok (.aload_n 0, 1) := by decide +kernel
theorem dX6_allowed_61 : decode cX6_allowed 61 = .ok (.iload_n 2, 1) := by decide +kernel
theorem dX6_allowed_62 : decode cX6_allowed 62 = .ok (.iload_n 3, 1) := by decide +kernel
theorem dX6_allowed_63 : decode cX6_allowed 63 = .ok (.iload 4, 2) := by decide +kernel
theorem dX6_allowed_65 : decode cX6_allowed 65 = .ok (.iload 6, 2) := by decide +kernel
theorem dX6_allowed_67 : decode cX6_allowed 67 = .ok (.iload_n 1, 1) := by decide +kernel
theorem dX6_allowed_68 : decode cX6_allowed 68 = .ok (.invokevirtual 171, 3) := by decide +kernel
theorem dX6_allowed_71 : decode cX6_allowed 71 = .ok (.istore 7, 2) := by decide +kernel
theorem dX6_allowed_73 : decode cX6_allowed 73 = .ok (.iload 7, 2) := by decide +kernel
theorem dX6_allowed_75 : decode cX6_allowed 75 = .ok (.iload 5, 2) := by decide +kernel
theorem dX6_allowed_77 : decode cX6_allowed 77 = .ok (.if_icmp .le 7, 3) := by decide +kernel
theorem dX6_allowed_80 : decode cX6_allowed 80 = .ok (.iload 7, 2) := by decide +kernel
theorem dX6_allowed_82 : decode cX6_allowed 82 = .ok (.istore 5, 2) := by decide +kernel
theorem dX6_allowed_84 : decode cX6_allowed 84 = .ok (.iinc 6 1, 3) := by decide +kernel
theorem dX6_allowed_87 : decode cX6_allowed 87 = .ok (.goto (-36), 3) := by decide +kernel
theorem dX6_allowed_90 : decode cX6_allowed 90 = .ok (.aload_n 0, 1) := by decide +kernel
theorem dX6_allowed_91 : decode cX6_allowed 91 = .ok (.getfield 43, 3) := by decide +kernel
theorem dX6_allowed_94 : decode cX6_allowed 94 = .ok (.iconst 4, 1) := by decide +kernel
theorem dX6_allowed_95 : decode cX6_allowed 95 = .ok (.iload_n 2, 1) := by decide +kernel
theorem dX6_allowed_96 : decode cX6_allowed 96 = .ok (.imul, 1) := by decide +kernel
theorem dX6_allowed_97 : decode cX6_allowed 97 = .ok (.iload_n 3, 1) := by decide +kernel
theorem dX6_allowed_98 : decode cX6_allowed 98 = .ok (.iadd, 1) := by decide +kernel
theorem dX6_allowed_99 : decode cX6_allowed 99 = .ok (.bipush 22, 2) := by decide +kernel
theorem dX6_allowed_101 : decode cX6_allowed 101 = .ok (.imul, 1) := by decide +kernel
theorem dX6_allowed_102 : decode cX6_allowed 102 = .ok (.iload 4, 2) := by decide +kernel
theorem dX6_allowed_104 : decode cX6_allowed 104 = .ok (.iadd, 1) := by decide +kernel
theorem dX6_allowed_105 : decode cX6_allowed 105 = .ok (.iload 5, 2) := by decide +kernel
theorem dX6_allowed_107 : decode cX6_allowed 107 = .ok (.iastore, 1) := by decide +kernel
theorem dX6_allowed_108 : decode cX6_allowed 108 = .ok (.iinc 4 1, 3) := by decide +kernel
theorem dX6_allowed_111 : decode cX6_allowed 111 = .ok (.goto (-89), 3) := by decide +kernel
theorem dX6_allowed_114 : decode cX6_allowed 114 = .ok (.iinc 3 1, 3) := by decide +kernel
theorem dX6_allowed_117 : decode cX6_allowed 117 = .ok (.goto (-106), 3) := by decide +kernel
theorem dX6_allowed_120 : decode cX6_allowed 120 = .ok (.iinc 2 (-1), 3) := by decide +kernel
theorem dX6_allowed_123 : decode cX6_allowed 123 = .ok (.goto (-118), 3) := by decide +kernel
theorem dX6_allowed_126 : decode cX6_allowed 126 = .ok (.sipush (-999), 3) := by decide +kernel
theorem dX6_allowed_129 : decode cX6_allowed 129 = .ok (.istore_n 2, 1) := by decide +kernel
theorem dX6_allowed_130 : decode cX6_allowed 130 = .ok (.iconst 0, 1) := by decide +kernel
theorem dX6_allowed_131 : decode cX6_allowed 131 = .ok (.istore_n 3, 1) := by decide +kernel
theorem dX6_allowed_132 : decode cX6_allowed 132 = .ok (.iload_n 3, 1) := by decide +kernel
theorem dX6_allowed_133 : decode cX6_allowed 133 = .ok (.aload_n 0, 1) := by decide +kernel
theorem dX6_allowed_134 : decode cX6_allowed 134 = .ok (.getfield 71, 3) := by decide +kernel
theorem dX6_allowed_137 : decode cX6_allowed 137 = .ok (.if_icmp .ge 23, 3) := by decide +kernel
theorem dX6_allowed_140 : decode cX6_allowed 140 = .ok (.iload_n 2, 1) := by decide +kernel
theorem dX6_allowed_141 : decode cX6_allowed 141 = .ok (.aload_n 0, 1) := by decide +kernel
theorem dX6_allowed_142 : decode cX6_allowed 142 = .ok (.iconst 0, 1) := by decide +kernel
theorem dX6_allowed_143 : decode cX6_allowed 143 = .ok (.iconst (-1), 1) := by decide +kernel
theorem dX6_allowed_144 : decode cX6_allowed 144 = .ok (.iconst 0, 1) := by decide +kernel
theorem dX6_allowed_145 : decode cX6_allowed 145 = .ok (.iload_n 3, 1) := by decide +kernel
theorem dX6_allowed_146 : decode cX6_allowed 146 = .ok (.iload_n 1, 1) := by decide +kernel
theorem dX6_allowed_147 : decode cX6_allowed 147 = .ok (.invokevirtual 171, 3) := by decide +kernel
theorem dX6_allowed_150 : decode cX6_allowed 150 = .ok (.invokestatic 140, 3) := by decide +kernel
theorem dX6_allowed_153 : decode cX6_allowed 153 = .ok (.istore_n 2, 1) := by decide +kernel
theorem dX6_allowed_154 : decode cX6_allowed 154 = .ok (.iinc 3 1, 3) := by decide +kernel
theorem dX6_allowed_157 : decode cX6_allowed 157 = .ok (.goto (-25), 3) := by decide +kernel
theorem dX6_allowed_160 : decode cX6_allowed 160 = .ok (.iload_n 2, 1) := by decide +kernel
theorem dX6_allowed_161 : decode cX6_allowed 161 = .ok (.ireturn, 1) := by decide +kernel
set_option maxRecDepth 20000 in
theorem ggX6_on_X6_counts : GoodIn wsX6_on wsX6_counts := goodIn_r _ [8, 9, 10, 18, 19, 20, 21, 22, 23, 24, 25, 26, 27, 28, 29, 30, 31, 32, 33, 34, 35, 36, 37, 38, 39, 40, 41] (by decide +kernel) (by decide +kernel)
set_option maxRecDepth 20000 in
theorem gX6_on_X6_counts : GoodIn wsX6_on (wsV RX6 134 RX6 yX6_counts wsX6_counts) := goodIn_app (goodIn_of _ (by decide +kernel)) ggX6_on_X6_counts
set_option maxRecDepth 20000 in
theorem ggX6_on_X6_worthOf : GoodIn wsX6_on wsX6_worthOf := goodIn_r _ [14, 10, 15, 16, 17, 18, 19, 20, 21, 22, 23, 24, 25, 26, 27, 28, 29, 30, 31, 32, 33, 34, 35, 36, 37, 38, 39, 40, 41] (by decide +kernel) (by decide +kernel)
set_option maxRecDepth 20000 in
theorem gX6_on_X6_worthOf : GoodIn wsX6_on (wsV RX6 153 RX6 yX6_worthOf wsX6_worthOf) := goodIn_app (goodIn_of _ (by decide +kernel)) ggX6_on_X6_worthOf
theorem dX6_on_0 : decode cX6_on 0 = .ok (.aload_n 0, 1) := by decide +kernel
theorem dX6_on_1 : decode cX6_on 1 = .ok (.getfield 25, 3) := by decide +kernel
theorem dX6_on_4 : decode cX6_on 4 = .ok (.iload_n 1, 1) := by decide +kernel
theorem dX6_on_5 : decode cX6_on 5 = .ok (.iaload, 1) := by decide +kernel
theorem dX6_on_6 : decode cX6_on 6 = .ok (.bipush (-9), 2) := by decide +kernel
theorem dX6_on_8 : decode cX6_on 8 = .ok (.if_icmp .eq 18, 3) := by decide +kernel
theorem dX6_on_11 : decode cX6_on 11 = .ok (.aload_n 0, 1) := by decide +kernel
theorem dX6_on_12 : decode cX6_on 12 = .ok (.getfield 25, 3) := by decide +kernel
theorem dX6_on_15 : decode cX6_on 15 = .ok (.iload_n 1, 1) := by decide +kernel
theorem dX6_on_16 : decode cX6_on 16 = .ok (.iaload, 1) := by decide +kernel
theorem dX6_on_17 : decode cX6_on 17 = .ok (.iload 4, 2) := by decide +kernel
theorem dX6_on_19 : decode cX6_on 19 = .ok (.if_icmp .eq 7, 3) := by decide +kernel
theorem dX6_on_22 : decode cX6_on 22 = .ok (.sipush (-999), 3) := by decide +kernel
theorem dX6_on_25 : decode cX6_on 25 = .ok (.ireturn, 1) := by decide +kernel
theorem dX6_on_26 : decode cX6_on 26 = .ok (.iload_n 2, 1) := by decide +kernel
theorem dX6_on_27 : decode cX6_on 27 = .ok (.iload 4, 2) := by decide +kernel
theorem dX6_on_29 : decode cX6_on 29 = .ok (.if_icmp .ne 9, 3) := by decide +kernel
theorem dX6_on_32 : decode cX6_on 32 = .ok (.iload_n 3, 1) := by decide +kernel
theorem dX6_on_33 : decode cX6_on 33 = .ok (.iconst 1, 1) := by decide +kernel
theorem dX6_on_34 : decode cX6_on 34 = .ok (.iadd, 1) := by decide +kernel
theorem dX6_on_35 : decode cX6_on 35 = .ok (.goto 4, 3) := by decide +kernel
theorem dX6_on_38 : decode cX6_on 38 = .ok (.iconst 1, 1) := by decide +kernel
theorem dX6_on_39 : decode cX6_on 39 = .ok (.istore 6, 2) := by decide +kernel
theorem dX6_on_41 : decode cX6_on 41 = .ok (.iload 6, 2) := by decide +kernel
theorem dX6_on_43 : decode cX6_on 43 = .ok (.iload 5, 2) := by decide +kernel
theorem dX6_on_45 : decode cX6_on 45 = .ok (.if_icmp .le 12, 3) := by decide +kernel
theorem dX6_on_48 : decode cX6_on 48 = .ok (.aload_n 0, 1) := by decide +kernel
theorem dX6_on_49 : decode cX6_on 49 = .ok (.iload 4, 2) := by decide +kernel
theorem dX6_on_51 : decode cX6_on 51 = .ok (.invokevirtual 134, 3) := by decide +kernel
theorem dX6_on_54 : decode cX6_on 54 = .ok (.ifCond .ne 10, 3) := by decide +kernel
theorem dX6_on_57 : decode cX6_on 57 = .ok (.iload 6, 2) := by decide +kernel
theorem dX6_on_59 : decode cX6_on 59 = .ok (.bipush 20, 2) := by decide +kernel
theorem dX6_on_61 : decode cX6_on 61 = .ok (.if_icmp .le 7, 3) := by decide +kernel
theorem dX6_on_64 : decode cX6_on 64 = .ok (.sipush (-999), 3) := by decide +kernel
theorem dX6_on_67 : decode cX6_on 67 = .ok (.ireturn, 1) := by decide +kernel
theorem dX6_on_68 : decode cX6_on 68 = .ok (.aload_n 0, 1) := by decide +kernel
theorem dX6_on_69 : decode cX6_on 69 = .ok (.getfield 43, 3) := by decide +kernel
theorem dX6_on_72 : decode cX6_on 72 = .ok (.iconst 4, 1) := by decide +kernel
theorem dX6_on_73 : decode cX6_on 73 = .ok (.iload_n 1, 1) := by decide +kernel
theorem dX6_on_74 : decode cX6_on 74 = .ok (.iconst 1, 1) := by decide +kernel
theorem dX6_on_75 : decode cX6_on 75 = .ok (.iadd, 1) := by decide +kernel
theorem dX6_on_76 : decode cX6_on 76 = .ok (.imul, 1) := by decide +kernel
theorem dX6_on_77 : decode cX6_on 77 = .ok (.iload 4, 2) := by decide +kernel
theorem dX6_on_79 : decode cX6_on 79 = .ok (.iadd, 1) := by decide +kernel
theorem dX6_on_80 : decode cX6_on 80 = .ok (.bipush 22, 2) := by decide +kernel
theorem dX6_on_82 : decode cX6_on 82 = .ok (.imul, 1) := by decide +kernel
theorem dX6_on_83 : decode cX6_on 83 = .ok (.iload 6, 2) := by decide +kernel
theorem dX6_on_85 : decode cX6_on 85 = .ok (.iadd, 1) := by decide +kernel
theorem dX6_on_86 : decode cX6_on 86 = .ok (.iaload, 1) := by decide +kernel
theorem dX6_on_87 : decode cX6_on 87 = .ok (.istore 7, 2) := by decide +kernel
theorem dX6_on_89 : decode cX6_on 89 = .ok (.iload 7, 2) := by decide +kernel
theorem dX6_on_91 : decode cX6_on 91 = .ok (.sipush (-999), 3) := by decide +kernel
theorem dX6_on_94 : decode cX6_on 94 = .ok (.if_icmp .ne 7, 3) := by decide +kernel
theorem dX6_on_97 : decode cX6_on 97 = .ok (.sipush (-999), 3) := by decide +kernel
theorem dX6_on_100 : decode cX6_on 100 = .ok (.ireturn, 1) := by decide +kernel
theorem dX6_on_101 : decode cX6_on 101 = .ok (.iload 7, 2) := by decide +kernel
theorem dX6_on_103 : decode cX6_on 103 = .ok (.aload_n 0, 1) := by decide +kernel
theorem dX6_on_104 : decode cX6_on 104 = .ok (.iload 4, 2) := by decide +kernel
theorem dX6_on_106 : decode cX6_on 106 = .ok (.iload 6, 2) := by decide +kernel
theorem dX6_on_108 : decode cX6_on 108 = .ok (.invokevirtual 153, 3) := by decide +kernel
theorem dX6_on_111 : decode cX6_on 111 = .ok (.iadd, 1) := by decide +kernel
theorem dX6_on_112 : decode cX6_on 112 = .ok (.iload_n 1, 1) := by decide +kernel
theorem dX6_on_113 : decode cX6_on 113 = .ok (.ifCond .le 16, 3) := by decide +kernel
theorem dX6_on_116 : decode cX6_on 116 = .ok (.iload_n 2, 1) := by decide +kernel
theorem dX6_on_117 : decode cX6_on 117 = .ok (.iload 4, 2) := by decide +kernel
theorem dX6_on_119 : decode cX6_on 119 = .ok (.if_icmp .eq 10, 3) := by decide +kernel
theorem dX6_on_122 : decode cX6_on 122 = .ok (.aload_n 0, 1) := by decide +kernel
theorem dX6_on_123 : decode cX6_on 123 = .ok (.getfield 60, 3) := by decide +kernel
theorem dX6_on_126 : decode cX6_on 126 = .ok (.goto 4, 3) := by decide +kernel
theorem dX6_on_129 : decode cX6_on 129 = .ok (.iconst 0, 1) := by decide +kernel
theorem dX6_on_130 : decode cX6_on 130 = .ok (.isub, 1) := by decide +kernel
theorem dX6_on_131 : decode cX6_on 131 = .ok (.ireturn, 1) := by decide +kernel
set_option maxRecDepth 20000 in
theorem ggX6_allow_X6_noFar : GoodIn wsX6_allow wsX6_noFar := goodIn_r _ [6, 7, 8, 9, 10, 5, 11, 12, 41, 42, 43, 44, 45, 46, 47, 48, 49, 50, 51, 52, 53, 54, 55, 56, 57, 58, 59, 60, 61, 62, 63, 64] (by decide +kernel) (by decide +kernel)
set_option maxRecDepth 20000 in
theorem gX6_allow_X6_noFar : GoodIn wsX6_allow (wsV RX6 165 RX6 yX6_noFar wsX6_noFar) := goodIn_app (goodIn_of _ (by decide +kernel)) ggX6_allow_X6_noFar
set_option maxRecDepth 20000 in
theorem ggX6_allow_X6_allowed : GoodIn wsX6_allow wsX6_allowed := goodIn_r _ [16, 17, 1, 18, 19, 20, 21, 22, 23, 24, 25, 5, 26, 27, 28, 29, 30, 31, 32, 33, 34, 35, 36, 37, 38, 39, 40, 41, 42, 43, 44, 45, 46, 47, 48, 49, 50, 51, 52, 53, 54, 55, 56, 57, 58, 59, 60, 61, 62, 63, 64] (by decide +kernel) (by decide +kernel)
set_option maxRecDepth 20000 in
theorem gX6_allow_X6_allowed : GoodIn wsX6_allow (wsV RX6 175 RX6 yX6_allowed wsX6_allowed) := goodIn_app (goodIn_of _ (by decide +kernel)) ggX6_allow_X6_allowed
theorem dX6_allow_0 : decode cX6_allow 0 = .ok (.iload_n 1, 1) := by decide +kernel
theorem dX6_allow_1 : decode cX6_allow 1 = .ok (.iconst 1, 1) := by decide +kernel
theorem dX6_allow_2 : decode cX6_allow 2 = .ok (.if_icmp .ge 10, 3) := by decide +kernel
theorem dX6_allow_5 : decode cX6_allow 5 = .ok (.aload_n 0, 1) := by decide +kernel
theorem dX6_allow_6 : decode cX6_allow 6 = .ok (.bipush (-4), 2) := by decide +kernel
theorem dX6_allow_8 : decode cX6_allow 8 = .ok (.invokevirtual 165, 3) := by decide +kernel
theorem dX6_allow_11 : decode cX6_allow 11 = .ok (.ireturn, 1) := by decide +kernel
theorem dX6_allow_12 : decode cX6_allow 12 = .ok (.iload_n 1, 1) := by decide +kernel
theorem dX6_allow_13 : decode cX6_allow 13 = .ok (.bipush 20, 2) := by decide +kernel
theorem dX6_allow_15 : decode cX6_allow 15 = .ok (.if_icmp .le 10, 3) := by decide +kernel
theorem dX6_allow_18 : decode cX6_allow 18 = .ok (.aload_n 0, 1) := by decide +kernel
theorem dX6_allow_19 : decode cX6_allow 19 = .ok (.bipush (-6), 2) := by decide +kernel
theorem dX6_allow_21 : decode cX6_allow 21 = .ok (.invokevirtual 165, 3) := by decide +kernel
theorem dX6_allow_24 : decode cX6_allow 24 = .ok (.ireturn, 1) := by decide +kernel
theorem dX6_allow_25 : decode cX6_allow 25 = .ok (.aload_n 0, 1) := by decide +kernel
theorem dX6_allow_26 : decode cX6_allow 26 = .ok (.getfield 71, 3) := by decide +kernel
theorem dX6_allow_29 : decode cX6_allow 29 = .ok (.ifCond .ne 12, 3) := by decide +kernel
theorem dX6_allow_32 : decode cX6_allow 32 = .ok (.aload_n 0, 1) := by decide +kernel
theorem dX6_allow_33 : decode cX6_allow 33 = .ok (.bipush (-3), 2) := by decide +kernel
theorem dX6_allow_35 : decode cX6_allow 35 = .ok (.invokevirtual 165, 3) := by decide +kernel
theorem dX6_allow_38 : decode cX6_allow 38 = .ok (.goto 8, 3) := by decide +kernel
theorem dX6_allow_41 : decode cX6_allow 41 = .ok (.aload_n 0, 1) := by decide +kernel
theorem dX6_allow_42 : decode cX6_allow 42 = .ok (.iload_n 1, 1) := by decide +kernel
theorem dX6_allow_43 : decode cX6_allow 43 = .ok (.invokevirtual 175, 3) := by decide +kernel
theorem dX6_allow_46 : decode cX6_allow 46 = .ok (.ireturn, 1) := by decide +kernel
set_option maxRecDepth 20000 in
theorem ggX6_bestOf_X6_allowed : GoodIn wsX6_bestOf wsX6_allowed := goodIn_r _ [8, 1, 9, 3, 10, 11, 12, 13, 14, 15, 16, 7, 17, 18, 19, 20, 21, 22, 23, 24, 25, 26, 27, 28, 29, 30, 31, 32, 33, 34, 35, 36, 37, 38, 39, 40, 41, 42, 43, 44, 45, 46, 47, 48, 49, 50, 51, 52, 53, 54, 55] (by decide +kernel) (by decide +kernel)
set_option maxRecDepth 20000 in
theorem gX6_bestOf_X6_allowed : GoodIn wsX6_bestOf (wsV RX6 175 RX6 yX6_allowed wsX6_allowed) := goodIn_app (goodIn_of _ (by decide +kernel)) ggX6_bestOf_X6_allowed
set_option maxRecDepth 20000 in
theorem ggX6_bestOf_X6_on : GoodIn wsX6_bestOf wsX6_on := goodIn_r _ [17, 18, 3, 19, 20, 21, 22, 7, 23, 9, 24, 25, 26, 27, 28, 29, 30, 31, 32, 33, 34, 35, 36, 37, 38, 39, 40, 41, 42, 43, 44, 45, 46, 47, 48, 49, 50, 51, 52, 53, 54, 55] (by decide +kernel) (by decide +kernel)
set_option maxRecDepth 20000 in
theorem gX6_bestOf_X6_on : GoodIn wsX6_bestOf (wsV RX6 171 RX6 yX6_on wsX6_on) := goodIn_app (goodIn_of _ (by decide +kernel)) ggX6_bestOf_X6_on
theorem dX6_bestOf_0 : decode cX6_bestOf 0 = .ok (.iconst 0, 1) := by decide +kernel
theorem dX6_bestOf_1 : decode cX6_bestOf 1 = .ok (.istore_n 1, 1) := by decide +kernel
theorem dX6_bestOf_2 : decode cX6_bestOf 2 = .ok (.iconst 0, 1) := by decide +kernel
theorem dX6_bestOf_3 : decode cX6_bestOf 3 = .ok (.istore_n 2, 1) := by decide +kernel
theorem dX6_bestOf_4 : decode cX6_bestOf 4 = .ok (.iconst 1, 1) := by decide +kernel
theorem dX6_bestOf_5 : decode cX6_bestOf 5 = .ok (.istore_n 3, 1) := by decide +kernel
theorem dX6_bestOf_6 : decode cX6_bestOf 6 = .ok (.iload_n 3, 1) := by decide +kernel
theorem dX6_bestOf_7 : decode cX6_bestOf 7 = .ok (.bipush 21, 2) := by decide +kernel
theorem dX6_bestOf_9 : decode cX6_bestOf 9 = .ok (.if_icmp .ge 50, 3) := by decide +kernel
theorem dX6_bestOf_12 : decode cX6_bestOf 12 = .ok (.aload_n 0, 1) := by decide +kernel
theorem dX6_bestOf_13 : decode cX6_bestOf 13 = .ok (.iload_n 3, 1) := by decide +kernel
theorem dX6_bestOf_14 : decode cX6_bestOf 14 = .ok (.invokevirtual 175, 3) := by decide +kernel
theorem dX6_bestOf_17 : decode cX6_bestOf 17 = .ok (.istore 4, 2) := by decide +kernel
theorem dX6_bestOf_19 : decode cX6_bestOf 19 = .ok (.iload 4, 2) := by decide +kernel
theorem dX6_bestOf_21 : decode cX6_bestOf 21 = .ok (.sipush (-999), 3) := by decide +kernel
theorem dX6_bestOf_24 : decode cX6_bestOf 24 = .ok (.if_icmp .eq 29, 3) := by decide +kernel
theorem dX6_bestOf_27 : decode cX6_bestOf 27 = .ok (.iload_n 1, 1) := by decide +kernel
theorem dX6_bestOf_28 : decode cX6_bestOf 28 = .ok (.ifCond .le 16, 3) := by decide +kernel
theorem dX6_bestOf_31 : decode cX6_bestOf 31 = .ok (.iload 4, 2) := by decide +kernel
theorem dX6_bestOf_33 : decode cX6_bestOf 33 = .ok (.iload_n 3, 1) := by decide +kernel
theorem dX6_bestOf_34 : decode cX6_bestOf 34 = .ok (.iload_n 3, 1) := by decide +kernel
theorem dX6_bestOf_35 : decode cX6_bestOf 35 = .ok (.imul, 1) := by decide +kernel
theorem dX6_bestOf_36 : decode cX6_bestOf 36 = .ok (.isub, 1) := by decide +kernel
theorem dX6_bestOf_37 : decode cX6_bestOf 37 = .ok (.iload_n 2, 1) := by decide +kernel
theorem dX6_bestOf_38 : decode cX6_bestOf 38 = .ok (.if_icmp .gt 6, 3) := by decide +kernel
theorem dX6_bestOf_41 : decode cX6_bestOf 41 = .ok (.goto 12, 3) := by decide +kernel
theorem dX6_bestOf_44 : decode cX6_bestOf 44 = .ok (.iload_n 3, 1) := by decide +kernel
theorem dX6_bestOf_45 : decode cX6_bestOf 45 = .ok (.istore_n 1, 1) := by decide +kernel
theorem dX6_bestOf_46 : decode cX6_bestOf 46 = .ok (.iload 4, 2) := by decide +kernel
theorem dX6_bestOf_48 : decode cX6_bestOf 48 = .ok (.iload_n 3, 1) := by decide +kernel
theorem dX6_bestOf_49 : decode cX6_bestOf 49 = .ok (.iload_n 3, 1) := by decide +kernel
theorem dX6_bestOf_50 : decode cX6_bestOf 50 = .ok (.imul, 1) := by decide +kernel
theorem dX6_bestOf_51 : decode cX6_bestOf 51 = .ok (.isub, 1) := by decide +kernel
theorem dX6_bestOf_52 : decode cX6_bestOf 52 = .ok (.istore_n 2, 1) := by decide +kernel
theorem dX6_bestOf_53 : decode cX6_bestOf 53 = .ok (.iinc 3 1, 3) := by decide +kernel
theorem dX6_bestOf_56 : decode cX6_bestOf 56 = .ok (.goto (-50), 3) := by decide +kernel
theorem dX6_bestOf_59 : decode cX6_bestOf 59 = .ok (.iload_n 1, 1) := by decide +kernel
theorem dX6_bestOf_60 : decode cX6_bestOf 60 = .ok (.ifCond .ne 5, 3) := by decide +kernel
theorem dX6_bestOf_63 : decode cX6_bestOf 63 = .ok (.iconst 0, 1) := by decide +kernel
theorem dX6_bestOf_64 : decode cX6_bestOf 64 = .ok (.ireturn, 1) := by decide +kernel
theorem dX6_bestOf_65 : decode cX6_bestOf 65 = .ok (.aload_n 0, 1) := by decide +kernel
theorem dX6_bestOf_66 : decode cX6_bestOf 66 = .ok (.iload_n 1, 1) := by decide +kernel
theorem dX6_bestOf_67 : decode cX6_bestOf 67 = .ok (.invokevirtual 175, 3) := by decide +kernel
theorem dX6_bestOf_70 : decode cX6_bestOf 70 = .ok (.istore_n 3, 1) := by decide +kernel
theorem dX6_bestOf_71 : decode cX6_bestOf 71 = .ok (.iconst (-1), 1) := by decide +kernel
theorem dX6_bestOf_72 : decode cX6_bestOf 72 = .ok (.istore 4, 2) := by decide +kernel
theorem dX6_bestOf_74 : decode cX6_bestOf 74 = .ok (.iconst 0, 1) := by decide +kernel
theorem dX6_bestOf_75 : decode cX6_bestOf 75 = .ok (.istore 5, 2) := by decide +kernel
theorem dX6_bestOf_77 : decode cX6_bestOf 77 = .ok (.iconst 0, 1) := by decide +kernel
theorem dX6_bestOf_78 : decode cX6_bestOf 78 = .ok (.istore 6, 2) := by decide +kernel
theorem dX6_bestOf_80 : decode cX6_bestOf 80 = .ok (.iload 6, 2) := by decide +kernel
theorem dX6_bestOf_82 : decode cX6_bestOf 82 = .ok (.aload_n 0, 1) := by decide +kernel
theorem dX6_bestOf_83 : decode cX6_bestOf 83 = .ok (.getfield 78, 3) := by decide +kernel
theorem dX6_bestOf_86 : decode cX6_bestOf 86 = .ok (.if_icmp .ge 86, 3) := by decide +kernel
theorem dX6_bestOf_89 : decode cX6_bestOf 89 = .ok (.iconst 0, 1) := by decide +kernel
theorem dX6_bestOf_90 : decode cX6_bestOf 90 = .ok (.istore 7, 2) := by decide +kernel
theorem dX6_bestOf_92 : decode cX6_bestOf 92 = .ok (.aload_n 0, 1) := by decide +kernel
theorem dX6_bestOf_93 : decode cX6_bestOf 93 = .ok (.iload 6, 2) := by decide +kernel
theorem dX6_bestOf_95 : decode cX6_bestOf 95 = .ok (.iload 4, 2) := by decide +kernel
theorem dX6_bestOf_97 : decode cX6_bestOf 97 = .ok (.iload 5, 2) := by decide +kernel
theorem dX6_bestOf_99 : decode cX6_bestOf 99 = .ok (.iload 7, 2) := by decide +kernel
theorem dX6_bestOf_101 : decode cX6_bestOf 101 = .ok (.iload_n 1, 1) := by decide +kernel
theorem dX6_bestOf_102 : decode cX6_bestOf 102 = .ok (.invokevirtual 171, 3) := by decide +kernel
theorem dX6_bestOf_105 : decode cX6_bestOf 105 = .ok (.iload_n 3, 1) := by decide +kernel
theorem dX6_bestOf_106 : decode cX6_bestOf 106 = .ok (.if_icmp .eq 9, 3) := by decide +kernel
theorem dX6_bestOf_109 : decode cX6_bestOf 109 = .ok (.iinc 7 1, 3) := by decide +kernel
theorem dX6_bestOf_112 : decode cX6_bestOf 112 = .ok (.goto (-20), 3) := by decide +kernel
theorem dX6_bestOf_115 : decode cX6_bestOf 115 = .ok (.aload_n 0, 1) := by decide +kernel
theorem dX6_bestOf_116 : decode cX6_bestOf 116 = .ok (.getfield 46, 3) := by decide +kernel
theorem dX6_bestOf_119 : decode cX6_bestOf 119 = .ok (.iload 6, 2) := by decide +kernel
theorem dX6_bestOf_121 : decode cX6_bestOf 121 = .ok (.iload 7, 2) := by decide +kernel
theorem dX6_bestOf_123 : decode cX6_bestOf 123 = .ok (.iastore, 1) := by decide +kernel
theorem dX6_bestOf_124 : decode cX6_bestOf 124 = .ok (.iload 7, 2) := by decide +kernel
theorem dX6_bestOf_126 : decode cX6_bestOf 126 = .ok (.iload 4, 2) := by decide +kernel
theorem dX6_bestOf_128 : decode cX6_bestOf 128 = .ok (.if_icmp .ne 10, 3) := by decide +kernel
theorem dX6_bestOf_131 : decode cX6_bestOf 131 = .ok (.iload 5, 2) := by decide +kernel
theorem dX6_bestOf_133 : decode cX6_bestOf 133 = .ok (.iconst 1, 1) := by decide +kernel
theorem dX6_bestOf_134 : decode cX6_bestOf 134 = .ok (.iadd, 1) := by decide +kernel
theorem dX6_bestOf_135 : decode cX6_bestOf 135 = .ok (.goto 4, 3) := by decide +kernel
theorem dX6_bestOf_138 : decode cX6_bestOf 138 = .ok (.iconst 1, 1) := by decide +kernel
theorem dX6_bestOf_139 : decode cX6_bestOf 139 = .ok (.istore 5, 2) := by decide +kernel
theorem dX6_bestOf_141 : decode cX6_bestOf 141 = .ok (.aload_n 0, 1) := by decide +kernel
theorem dX6_bestOf_142 : decode cX6_bestOf 142 = .ok (.getfield 43, 3) := by decide +kernel
theorem dX6_bestOf_145 : decode cX6_bestOf 145 = .ok (.iconst 4, 1) := by decide +kernel
theorem dX6_bestOf_146 : decode cX6_bestOf 146 = .ok (.iload 6, 2) := by decide +kernel
theorem dX6_bestOf_148 : decode cX6_bestOf 148 = .ok (.iconst 1, 1) := by decide +kernel
theorem dX6_bestOf_149 : decode cX6_bestOf 149 = .ok (.iadd, 1) := by decide +kernel
theorem dX6_bestOf_150 : decode cX6_bestOf 150 = .ok (.imul, 1) := by decide +kernel
theorem dX6_bestOf_151 : decode cX6_bestOf 151 = .ok (.iload 7, 2) := by decide +kernel
theorem dX6_bestOf_153 : decode cX6_bestOf 153 = .ok (.iadd, 1) := by decide +kernel
theorem dX6_bestOf_154 : decode cX6_bestOf 154 = .ok (.bipush 22, 2) := by decide +kernel
theorem dX6_bestOf_156 : decode cX6_bestOf 156 = .ok (.imul, 1) := by decide +kernel
theorem dX6_bestOf_157 : decode cX6_bestOf 157 = .ok (.iload 5, 2) := by decide +kernel
theorem dX6_bestOf_159 : decode cX6_bestOf 159 = .ok (.iadd, 1) := by decide +kernel
theorem dX6_bestOf_160 : decode cX6_bestOf 160 = .ok (.iaload, 1) := by decide +kernel
theorem dX6_bestOf_161 : decode cX6_bestOf 161 = .ok (.istore_n 3, 1) := by decide +kernel
theorem dX6_bestOf_162 : decode cX6_bestOf 162 = .ok (.iload 7, 2) := by decide +kernel
theorem dX6_bestOf_164 : decode cX6_bestOf 164 = .ok (.istore 4, 2) := by decide +kernel
theorem dX6_bestOf_166 : decode cX6_bestOf 166 = .ok (.iinc 6 1, 3) := by decide +kernel
theorem dX6_bestOf_169 : decode cX6_bestOf 169 = .ok (.goto (-89), 3) := by decide +kernel
theorem dX6_bestOf_172 : decode cX6_bestOf 172 = .ok (.iload_n 1, 1) := by decide +kernel
theorem dX6_bestOf_173 : decode cX6_bestOf 173 = .ok (.ireturn, 1) := by decide +kernel
set_option maxRecDepth 20000 in
theorem ggX6_best_X6_within : GoodIn wsX6_best wsX6_within := goodIn_r _ [5] (by decide +kernel) (by decide +kernel)
set_option maxRecDepth 20000 in
theorem gX6_best_X6_within : GoodIn wsX6_best (va_wsS RX6 74 yX6_within wsX6_within) := goodIn_app (goodIn_of _ (by decide +kernel)) ggX6_best_X6_within
set_option maxRecDepth 20000 in
theorem ggX6_best_X6_noFar : GoodIn wsX6_best wsX6_noFar := goodIn_r _ [9, 10, 11, 12, 13, 4, 14, 15, 49, 50, 51, 52, 53, 54, 55, 56, 57, 58, 59, 60, 61, 62, 63, 64, 65, 66, 67, 68, 69, 70, 71, 72] (by decide +kernel) (by decide +kernel)
set_option maxRecDepth 20000 in
theorem gX6_best_X6_noFar : GoodIn wsX6_best (wsV RX6 165 RX6 yX6_noFar wsX6_noFar) := goodIn_app (goodIn_of _ (by decide +kernel)) ggX6_best_X6_noFar
set_option maxRecDepth 20000 in
theorem ggX6_best_X6_bestOf : GoodIn wsX6_best wsX6_bestOf := goodIn_r _ [19, 20, 21, 22, 23, 24, 25, 4, 26, 1, 27, 28, 29, 30, 31, 32, 33, 34, 35, 36, 37, 38, 39, 40, 41, 42, 43, 44, 45, 46, 47, 48, 49, 50, 51, 52, 53, 54, 55, 56, 57, 58, 59, 60, 61, 62, 63, 64, 65, 66, 67, 68, 69, 70, 71, 72] (by decide +kernel) (by decide +kernel)
set_option maxRecDepth 20000 in
theorem gX6_best_X6_bestOf : GoodIn wsX6_best (wsV RX6 178 RX6 yX6_bestOf wsX6_bestOf) := goodIn_app (goodIn_of _ (by decide +kernel)) ggX6_best_X6_bestOf
set_option maxRecDepth 20000 in
theorem ggX6_best_X6_allowed : GoodIn wsX6_best wsX6_allowed := goodIn_r _ [26, 20, 1, 22, 27, 28, 29, 30, 31, 32, 33, 4, 34, 35, 36, 37, 38, 39, 40, 41, 42, 43, 44, 45, 46, 47, 48, 49, 50, 51, 52, 53, 54, 55, 56, 57, 58, 59, 60, 61, 62, 63, 64, 65, 66, 67, 68, 69, 70, 71, 72] (by decide +kernel) (by decide +kernel)
set_option maxRecDepth 20000 in
theorem gX6_best_X6_allowed : GoodIn wsX6_best (wsV RX6 175 RX6 yX6_allowed wsX6_allowed) := goodIn_app (goodIn_of _ (by decide +kernel)) ggX6_best_X6_allowed
theorem dX6_best_0 : decode cX6_best 0 = .ok (.iload_n 1, 1) := by decide +kernel
theorem dX6_best_1 : decode cX6_best 1 = .ok (.iconst 0, 1) := by decide +kernel
theorem dX6_best_2 : decode cX6_best 2 = .ok (.iconst 1, 1) := by decide +kernel
theorem dX6_best_3 : decode cX6_best 3 = .ok (.invokestatic 74, 3) := by decide +kernel
theorem dX6_best_6 : decode cX6_best 6 = .ok (.ifCond .ne 10, 3) := by decide +kernel
theorem dX6_best_9 : decode cX6_best 9 = .ok (.aload_n 0, 1) := by decide +kernel
theorem dX6_best_10 : decode cX6_best 10 = .ok (.bipush (-2), 2) := by decide +kernel
theorem dX6_best_12 : decode cX6_best 12 = .ok (.invokevirtual 165, 3) := by decide +kernel
theorem dX6_best_15 : decode cX6_best 15 = .ok (.ireturn, 1) := by decide +kernel
theorem dX6_best_16 : decode cX6_best 16 = .ok (.aload_n 0, 1) := by decide +kernel
theorem dX6_best_17 : decode cX6_best 17 = .ok (.getfield 71, 3) := by decide +kernel
theorem dX6_best_20 : decode cX6_best 20 = .ok (.ifCond .ne 10, 3) := by decide +kernel
theorem dX6_best_23 : decode cX6_best 23 = .ok (.aload_n 0, 1) := by decide +kernel
theorem dX6_best_24 : decode cX6_best 24 = .ok (.bipush (-3), 2) := by decide +kernel
theorem dX6_best_26 : decode cX6_best 26 = .ok (.invokevirtual 165, 3) := by decide +kernel
theorem dX6_best_29 : decode cX6_best 29 = .ok (.ireturn, 1) := by decide +kernel
theorem dX6_best_30 : decode cX6_best 30 = .ok (.aload_n 0, 1) := by decide +kernel
theorem dX6_best_31 : decode cX6_best 31 = .ok (.invokevirtual 178, 3) := by decide +kernel
theorem dX6_best_34 : decode cX6_best 34 = .ok (.istore_n 2, 1) := by decide +kernel
theorem dX6_best_35 : decode cX6_best 35 = .ok (.iload_n 1, 1) := by decide +kernel
theorem dX6_best_36 : decode cX6_best 36 = .ok (.iconst 1, 1) := by decide +kernel
theorem dX6_best_37 : decode cX6_best 37 = .ok (.if_icmp .ne 14, 3) := by decide +kernel
theorem dX6_best_40 : decode cX6_best 40 = .ok (.iload_n 2, 1) := by decide +kernel
theorem dX6_best_41 : decode cX6_best 41 = .ok (.ifCond .ne 8, 3) := by decide +kernel
theorem dX6_best_44 : decode cX6_best 44 = .ok (.bipush (-9), 2) := by decide +kernel
theorem dX6_best_46 : decode cX6_best 46 = .ok (.goto 4, 3) := by decide +kernel
theorem dX6_best_49 : decode cX6_best 49 = .ok (.iload_n 2, 1) := by decide +kernel
theorem dX6_best_50 : decode cX6_best 50 = .ok (.ireturn, 1) := by decide +kernel
theorem dX6_best_51 : decode cX6_best 51 = .ok (.iload_n 2, 1) := by decide +kernel
theorem dX6_best_52 : decode cX6_best 52 = .ok (.ifCond .ne 9, 3) := by decide +kernel
theorem dX6_best_55 : decode cX6_best 55 = .ok (.sipush (-999), 3) := by decide +kernel
theorem dX6_best_58 : decode cX6_best 58 = .ok (.goto 12, 3) := by decide +kernel
theorem dX6_best_61 : decode cX6_best 61 = .ok (.aload_n 0, 1) := by decide +kernel
theorem dX6_best_62 : decode cX6_best 62 = .ok (.iload_n 2, 1) := by decide +kernel
theorem dX6_best_63 : decode cX6_best 63 = .ok (.invokevirtual 175, 3) := by decide +kernel
theorem dX6_best_66 : decode cX6_best 66 = .ok (.iload_n 2, 1) := by decide +kernel
theorem dX6_best_67 : decode cX6_best 67 = .ok (.iload_n 2, 1) := by decide +kernel
theorem dX6_best_68 : decode cX6_best 68 = .ok (.imul, 1) := by decide +kernel
theorem dX6_best_69 : decode cX6_best 69 = .ok (.isub, 1) := by decide +kernel
theorem dX6_best_70 : decode cX6_best 70 = .ok (.ireturn, 1) := by decide +kernel
set_option maxRecDepth 20000 in
theorem ggX6_bestDay_X6_isDay : GoodIn wsX6_bestDay wsX6_isDay := goodIn_r _ [7, 8, 9, 10, 6, 11, 48, 49, 50, 51, 52, 53, 54, 55, 56, 57, 58, 59, 60, 61, 62, 63, 64, 65, 66, 67, 68, 69, 70, 71] (by decide +kernel) (by decide +kernel)
set_option maxRecDepth 20000 in
theorem gX6_bestDay_X6_isDay : GoodIn wsX6_bestDay (wsV RX6 117 RX6 yX6_isDay wsX6_isDay) := goodIn_app (goodIn_of _ (by decide +kernel)) ggX6_bestDay_X6_isDay
set_option maxRecDepth 20000 in
theorem ggX6_bestDay_X6_no : GoodIn wsX6_bestDay wsX6_no := goodIn_r _ [15, 16, 48, 49, 50, 51, 52, 53, 54, 55, 56, 57, 58, 59, 60, 61, 62, 63, 64, 65, 66, 67, 68, 69, 70, 71] (by decide +kernel) (by decide +kernel)
set_option maxRecDepth 20000 in
theorem gX6_bestDay_X6_no : GoodIn wsX6_bestDay (wsV RX6 65 RX6 yX6_no wsX6_no) := goodIn_app (goodIn_of _ (by decide +kernel)) ggX6_bestDay_X6_no
set_option maxRecDepth 20000 in
theorem ggX6_bestDay_X6_bestOf : GoodIn wsX6_bestDay wsX6_bestOf := goodIn_r _ [20, 8, 2, 21, 22, 23, 24, 6, 25, 1, 26, 27, 28, 29, 30, 31, 32, 33, 34, 35, 36, 37, 38, 39, 40, 41, 42, 43, 44, 45, 46, 47, 48, 49, 50, 51, 52, 53, 54, 55, 56, 57, 58, 59, 60, 61, 62, 63, 64, 65, 66, 67, 68, 69, 70, 71] (by decide +kernel) (by decide +kernel)
set_option maxRecDepth 20000 in
theorem gX6_bestDay_X6_bestOf : GoodIn wsX6_bestDay (wsV RX6 178 RX6 yX6_bestOf wsX6_bestOf) := goodIn_app (goodIn_of _ (by decide +kernel)) ggX6_bestDay_X6_bestOf
theorem dX6_bestDay_0 : decode cX6_bestDay 0 = .ok (.aload_n 0, 1) := by decide +kernel
theorem dX6_bestDay_1 : decode cX6_bestDay 1 = .ok (.iload_n 1, 1) := by decide +kernel
theorem dX6_bestDay_2 : decode cX6_bestDay 2 = .ok (.invokevirtual 117, 3) := by decide +kernel
theorem dX6_bestDay_5 : decode cX6_bestDay 5 = .ok (.ifCond .ne 9, 3) := by decide +kernel
theorem dX6_bestDay_8 : decode cX6_bestDay 8 = .ok (.aload_n 0, 1) := by decide +kernel
theorem dX6_bestDay_9 : decode cX6_bestDay 9 = .ok (.iconst (-1), 1) := by decide +kernel
theorem dX6_bestDay_10 : decode cX6_bestDay 10 = .ok (.invokevirtual 65, 3) := by decide +kernel
theorem dX6_bestDay_13 : decode cX6_bestDay 13 = .ok (.ireturn, 1) := by decide +kernel
theorem dX6_bestDay_14 : decode cX6_bestDay 14 = .ok (.aload_n 0, 1) := by decide +kernel
theorem dX6_bestDay_15 : decode cX6_bestDay 15 = .ok (.getfield 71, 3) := by decide +kernel
theorem dX6_bestDay_18 : decode cX6_bestDay 18 = .ok (.ifCond .ne 10, 3) := by decide +kernel
theorem dX6_bestDay_21 : decode cX6_bestDay 21 = .ok (.aload_n 0, 1) := by decide +kernel
theorem dX6_bestDay_22 : decode cX6_bestDay 22 = .ok (.bipush (-3), 2) := by decide +kernel
theorem dX6_bestDay_24 : decode cX6_bestDay 24 = .ok (.invokevirtual 65, 3) := by decide +kernel
theorem dX6_bestDay_27 : decode cX6_bestDay 27 = .ok (.ireturn, 1) := by decide +kernel
theorem dX6_bestDay_28 : decode cX6_bestDay 28 = .ok (.aload_n 0, 1) := by decide +kernel
theorem dX6_bestDay_29 : decode cX6_bestDay 29 = .ok (.invokevirtual 178, 3) := by decide +kernel
theorem dX6_bestDay_32 : decode cX6_bestDay 32 = .ok (.ifCond .ne 8, 3) := by decide +kernel
theorem dX6_bestDay_35 : decode cX6_bestDay 35 = .ok (.bipush (-9), 2) := by decide +kernel
theorem dX6_bestDay_37 : decode cX6_bestDay 37 = .ok (.goto 9, 3) := by decide +kernel
theorem dX6_bestDay_40 : decode cX6_bestDay 40 = .ok (.aload_n 0, 1) := by decide +kernel
theorem dX6_bestDay_41 : decode cX6_bestDay 41 = .ok (.getfield 46, 3) := by decide +kernel
theorem dX6_bestDay_44 : decode cX6_bestDay 44 = .ok (.iload_n 1, 1) := by decide +kernel
theorem dX6_bestDay_45 : decode cX6_bestDay 45 = .ok (.iaload, 1) := by decide +kernel
theorem dX6_bestDay_46 : decode cX6_bestDay 46 = .ok (.ireturn, 1) := by decide +kernel
set_option maxRecDepth 20000 in
theorem ggX6_breaking_X6_no : GoodIn wsX6_breaking wsX6_no := goodIn_r _ [9, 10, 49, 50, 51, 52, 53, 54, 55, 56, 57, 58, 59, 60, 61, 62, 63, 64, 65, 66, 67, 68, 69, 70, 71, 72] (by decide +kernel) (by decide +kernel)
set_option maxRecDepth 20000 in
theorem gX6_breaking_X6_no : GoodIn wsX6_breaking (wsV RX6 65 RX6 yX6_no wsX6_no) := goodIn_app (goodIn_of _ (by decide +kernel)) ggX6_breaking_X6_no
set_option maxRecDepth 20000 in
theorem ggX6_breaking_X6_leftNow : GoodIn wsX6_breaking wsX6_leftNow := goodIn_r _ [14, 15, 16, 17, 18, 8, 19, 20, 2, 4, 21, 22, 23, 24, 25, 26, 27, 28, 29, 30, 31, 32, 33, 34, 35, 36, 37, 38, 39, 40, 41, 42, 43, 44, 45, 46, 47, 48, 1, 49, 50, 51, 52, 53, 54, 55, 56, 57, 58, 59, 60, 61, 62, 63, 64, 65, 66, 67, 68, 69, 70, 71, 72] (by decide +kernel) (by decide +kernel)
set_option maxRecDepth 20000 in
theorem gX6_breaking_X6_leftNow : GoodIn wsX6_breaking (wsV RX6 168 RX6 yX6_leftNow wsX6_leftNow) := goodIn_app (goodIn_of _ (by decide +kernel)) ggX6_breaking_X6_leftNow
theorem dX6_breaking_0 : decode cX6_breaking 0 = .ok (.aload_n 0, 1) := by decide +kernel
theorem dX6_breaking_1 : decode cX6_breaking 1 = .ok (.getfield 71, 3) := by decide +kernel
theorem dX6_breaking_4 : decode cX6_breaking 4 = .ok (.ifCond .ne 10, 3) := by decide +kernel
theorem dX6_breaking_7 : decode cX6_breaking 7 = .ok (.aload_n 0, 1) := by decide +kernel
theorem dX6_breaking_8 : decode cX6_breaking 8 = .ok (.bipush (-3), 2) := by decide +kernel
theorem dX6_breaking_10 : decode cX6_breaking 10 = .ok (.invokevirtual 65, 3) := by decide +kernel
theorem dX6_breaking_13 : decode cX6_breaking 13 = .ok (.ireturn, 1) := by decide +kernel
theorem dX6_breaking_14 : decode cX6_breaking 14 = .ok (.bipush (-9), 2) := by decide +kernel
theorem dX6_breaking_16 : decode cX6_breaking 16 = .ok (.istore_n 1, 1) := by decide +kernel
theorem dX6_breaking_17 : decode cX6_breaking 17 = .ok (.aload_n 0, 1) := by decide +kernel
theorem dX6_breaking_18 : decode cX6_breaking 18 = .ok (.invokevirtual 168, 3) := by decide +kernel
theorem dX6_breaking_21 : decode cX6_breaking 21 = .ok (.istore_n 2, 1) := by decide +kernel
theorem dX6_breaking_22 : decode cX6_breaking 22 = .ok (.iconst 0, 1) := by decide +kernel
theorem dX6_breaking_23 : decode cX6_breaking 23 = .ok (.istore_n 3, 1) := by decide +kernel
theorem dX6_breaking_24 : decode cX6_breaking 24 = .ok (.iload_n 3, 1) := by decide +kernel
theorem dX6_breaking_25 : decode cX6_breaking 25 = .ok (.aload_n 0, 1) := by decide +kernel
theorem dX6_breaking_26 : decode cX6_breaking 26 = .ok (.getfield 78, 3) := by decide +kernel
theorem dX6_breaking_29 : decode cX6_breaking 29 = .ok (.if_icmp .ge 101, 3) := by decide +kernel
theorem dX6_breaking_32 : decode cX6_breaking 32 = .ok (.aload_n 0, 1) := by decide +kernel
theorem dX6_breaking_33 : decode cX6_breaking 33 = .ok (.getfield 25, 3) := by decide +kernel
theorem dX6_breaking_36 : decode cX6_breaking 36 = .ok (.iload_n 3, 1) := by decide +kernel
theorem dX6_breaking_37 : decode cX6_breaking 37 = .ok (.iaload, 1) := by decide +kernel
theorem dX6_breaking_38 : decode cX6_breaking 38 = .ok (.bipush (-9), 2) := by decide +kernel
theorem dX6_breaking_40 : decode cX6_breaking 40 = .ok (.if_icmp .eq 6, 3) := by decide +kernel
theorem dX6_breaking_43 : decode cX6_breaking 43 = .ok (.goto 81, 3) := by decide +kernel
theorem dX6_breaking_46 : decode cX6_breaking 46 = .ok (.aload_n 0, 1) := by decide +kernel
theorem dX6_breaking_47 : decode cX6_breaking 47 = .ok (.getfield 22, 3) := by decide +kernel
theorem dX6_breaking_50 : decode cX6_breaking 50 = .ok (.iload_n 3, 1) := by decide +kernel
theorem dX6_breaking_51 : decode cX6_breaking 51 = .ok (.iaload, 1) := by decide +kernel
theorem dX6_breaking_52 : decode cX6_breaking 52 = .ok (.istore 4, 2) := by decide +kernel
theorem dX6_breaking_54 : decode cX6_breaking 54 = .ok (.iconst 0, 1) := by decide +kernel
theorem dX6_breaking_55 : decode cX6_breaking 55 = .ok (.istore 5, 2) := by decide +kernel
theorem dX6_breaking_57 : decode cX6_breaking 57 = .ok (.iload 5, 2) := by decide +kernel
theorem dX6_breaking_59 : decode cX6_breaking 59 = .ok (.aload_n 0, 1) := by decide +kernel
theorem dX6_breaking_60 : decode cX6_breaking 60 = .ok (.getfield 71, 3) := by decide +kernel
theorem dX6_breaking_63 : decode cX6_breaking 63 = .ok (.if_icmp .ge 61, 3) := by decide +kernel
theorem dX6_breaking_66 : decode cX6_breaking 66 = .ok (.iload 5, 2) := by decide +kernel
theorem dX6_breaking_68 : decode cX6_breaking 68 = .ok (.iload 4, 2) := by decide +kernel
theorem dX6_breaking_70 : decode cX6_breaking 70 = .ok (.if_icmp .ne 6, 3) := by decide +kernel
theorem dX6_breaking_73 : decode cX6_breaking 73 = .ok (.goto 45, 3) := by decide +kernel
theorem dX6_breaking_76 : decode cX6_breaking 76 = .ok (.aload_n 0, 1) := by decide +kernel
theorem dX6_breaking_77 : decode cX6_breaking 77 = .ok (.getfield 22, 3) := by decide +kernel
theorem dX6_breaking_80 : decode cX6_breaking 80 = .ok (.iload_n 3, 1) := by decide +kernel
theorem dX6_breaking_81 : decode cX6_breaking 81 = .ok (.iload 5, 2) := by decide +kernel
theorem dX6_breaking_83 : decode cX6_breaking 83 = .ok (.iastore, 1) := by decide +kernel
theorem dX6_breaking_84 : decode cX6_breaking 84 = .ok (.aload_n 0, 1) := by decide +kernel
theorem dX6_breaking_85 : decode cX6_breaking 85 = .ok (.invokevirtual 168, 3) := by decide +kernel
theorem dX6_breaking_88 : decode cX6_breaking 88 = .ok (.istore 6, 2) := by decide +kernel
theorem dX6_breaking_90 : decode cX6_breaking 90 = .ok (.aload_n 0, 1) := by decide +kernel
theorem dX6_breaking_91 : decode cX6_breaking 91 = .ok (.getfield 22, 3) := by decide +kernel
theorem dX6_breaking_94 : decode cX6_breaking 94 = .ok (.iload_n 3, 1) := by decide +kernel
theorem dX6_breaking_95 : decode cX6_breaking 95 = .ok (.iload 4, 2) := by decide +kernel
theorem dX6_breaking_97 : decode cX6_breaking 97 = .ok (.iastore, 1) := by decide +kernel
theorem dX6_breaking_98 : decode cX6_breaking 98 = .ok (.iload 6, 2) := by decide +kernel
theorem dX6_breaking_100 : decode cX6_breaking 100 = .ok (.iload_n 2, 1) := by decide +kernel
theorem dX6_breaking_101 : decode cX6_breaking 101 = .ok (.if_icmp .gt 6, 3) := by decide +kernel
theorem dX6_breaking_104 : decode cX6_breaking 104 = .ok (.goto 14, 3) := by decide +kernel
theorem dX6_breaking_107 : decode cX6_breaking 107 = .ok (.iload 6, 2) := by decide +kernel
theorem dX6_breaking_109 : decode cX6_breaking 109 = .ok (.istore_n 2, 1) := by decide +kernel
theorem dX6_breaking_110 : decode cX6_breaking 110 = .ok (.bipush 10, 2) := by decide +kernel
theorem dX6_breaking_112 : decode cX6_breaking 112 = .ok (.iload_n 3, 1) := by decide +kernel
theorem dX6_breaking_113 : decode cX6_breaking 113 = .ok (.imul, 1) := by decide +kernel
theorem dX6_breaking_114 : decode cX6_breaking 114 = .ok (.iload 5, 2) := by decide +kernel
theorem dX6_breaking_116 : decode cX6_breaking 116 = .ok (.iadd, 1) := by decide +kernel
theorem dX6_breaking_117 : decode cX6_breaking 117 = .ok (.istore_n 1, 1) := by decide +kernel
theorem dX6_breaking_118 : decode cX6_breaking 118 = .ok (.iinc 5 1, 3) := by decide +kernel
theorem dX6_breaking_121 : decode cX6_breaking 121 = .ok (.goto (-64), 3) := by decide +kernel
theorem dX6_breaking_124 : decode cX6_breaking 124 = .ok (.iinc 3 1, 3) := by decide +kernel
theorem dX6_breaking_127 : decode cX6_breaking 127 = .ok (.goto (-103), 3) := by decide +kernel
theorem dX6_breaking_130 : decode cX6_breaking 130 = .ok (.iload_n 1, 1) := by decide +kernel
theorem dX6_breaking_131 : decode cX6_breaking 131 = .ok (.ireturn, 1) := by decide +kernel
set_option maxRecDepth 20000 in
theorem ggX6_more_X6_isThing : GoodIn wsX6_more wsX6_isThing := goodIn_r _ [7, 8, 9, 10, 6, 11, 60, 61, 62, 63, 64, 65, 66, 67, 68, 69, 70, 71, 72, 73, 74, 75, 76, 77, 78, 79, 80, 81, 82, 83] (by decide +kernel) (by decide +kernel)
set_option maxRecDepth 20000 in
theorem gX6_more_X6_isThing : GoodIn wsX6_more (wsV RX6 120 RX6 yX6_isThing wsX6_isThing) := goodIn_app (goodIn_of _ (by decide +kernel)) ggX6_more_X6_isThing
set_option maxRecDepth 20000 in
theorem ggX6_more_X6_noFar : GoodIn wsX6_more wsX6_noFar := goodIn_r _ [15, 16, 17, 18, 19, 6, 20, 21, 60, 61, 62, 63, 64, 65, 66, 67, 68, 69, 70, 71, 72, 73, 74, 75, 76, 77, 78, 79, 80, 81, 82, 83] (by decide +kernel) (by decide +kernel)
set_option maxRecDepth 20000 in
theorem gX6_more_X6_noFar : GoodIn wsX6_more (wsV RX6 165 RX6 yX6_noFar wsX6_noFar) := goodIn_app (goodIn_of _ (by decide +kernel)) ggX6_more_X6_noFar
set_option maxRecDepth 20000 in
theorem ggX6_more_X6_leftNow : GoodIn wsX6_more wsX6_leftNow := goodIn_r _ [25, 26, 27, 28, 29, 6, 30, 31, 2, 1, 32, 33, 34, 35, 36, 37, 38, 39, 40, 41, 42, 43, 44, 45, 46, 47, 48, 49, 50, 51, 52, 53, 54, 55, 56, 57, 58, 59, 8, 60, 61, 62, 63, 64, 65, 66, 67, 68, 69, 70, 71, 72, 73, 74, 75, 76, 77, 78, 79, 80, 81, 82, 83] (by decide +kernel) (by decide +kernel)
set_option maxRecDepth 20000 in
theorem gX6_more_X6_leftNow : GoodIn wsX6_more (wsV RX6 168 RX6 yX6_leftNow wsX6_leftNow) := goodIn_app (goodIn_of _ (by decide +kernel)) ggX6_more_X6_leftNow
theorem dX6_more_0 : decode cX6_more 0 = .ok (.aload_n 0, 1) := by decide +kernel
theorem dX6_more_1 : decode cX6_more 1 = .ok (.iload_n 1, 1) := by decide +kernel
theorem dX6_more_2 : decode cX6_more 2 = .ok (.invokevirtual 120, 3) := by decide +kernel
theorem dX6_more_5 : decode cX6_more 5 = .ok (.ifCond .ne 9, 3) := by decide +kernel
theorem dX6_more_8 : decode cX6_more 8 = .ok (.aload_n 0, 1) := by decide +kernel
theorem dX6_more_9 : decode cX6_more 9 = .ok (.iconst (-1), 1) := by decide +kernel
theorem dX6_more_10 : decode cX6_more 10 = .ok (.invokevirtual 165, 3) := by decide +kernel
theorem dX6_more_13 : decode cX6_more 13 = .ok (.ireturn, 1) := by decide +kernel
theorem dX6_more_14 : decode cX6_more 14 = .ok (.aload_n 0, 1) := by decide +kernel
theorem dX6_more_15 : decode cX6_more 15 = .ok (.invokevirtual 168, 3) := by decide +kernel
theorem dX6_more_18 : decode cX6_more 18 = .ok (.istore_n 2, 1) := by decide +kernel
theorem dX6_more_19 : decode cX6_more 19 = .ok (.aload_n 0, 1) := by decide +kernel
theorem dX6_more_20 : decode cX6_more 20 = .ok (.getfield 22, 3) := by decide +kernel
theorem dX6_more_23 : decode cX6_more 23 = .ok (.aload_n 0, 1) := by decide +kernel
theorem dX6_more_24 : decode cX6_more 24 = .ok (.getfield 78, 3) := by decide +kernel
theorem dX6_more_27 : decode cX6_more 27 = .ok (.iaload, 1) := by decide +kernel
theorem dX6_more_28 : decode cX6_more 28 = .ok (.istore_n 3, 1) := by decide +kernel
theorem dX6_more_29 : decode cX6_more 29 = .ok (.aload_n 0, 1) := by decide +kernel
theorem dX6_more_30 : decode cX6_more 30 = .ok (.getfield 22, 3) := by decide +kernel
theorem dX6_more_33 : decode cX6_more 33 = .ok (.aload_n 0, 1) := by decide +kernel
theorem dX6_more_34 : decode cX6_more 34 = .ok (.dup, 1) := by decide +kernel
theorem dX6_more_35 : decode cX6_more 35 = .ok (.getfield 78, 3) := by decide +kernel
theorem dX6_more_38 : decode cX6_more 38 = .ok (.dup_x1, 1) := by decide +kernel
theorem dX6_more_39 : decode cX6_more 39 = .ok (.iconst 1, 1) := by decide +kernel
theorem dX6_more_40 : decode cX6_more 40 = .ok (.iadd, 1) := by decide +kernel
theorem dX6_more_41 : decode cX6_more 41 = .ok (.putfield 78, 3) := by decide +kernel
theorem dX6_more_44 : decode cX6_more 44 = .ok (.iload_n 1, 1) := by decide +kernel
theorem dX6_more_45 : decode cX6_more 45 = .ok (.iastore, 1) := by decide +kernel
theorem dX6_more_46 : decode cX6_more 46 = .ok (.aload_n 0, 1) := by decide +kernel
theorem dX6_more_47 : decode cX6_more 47 = .ok (.invokevirtual 168, 3) := by decide +kernel
theorem dX6_more_50 : decode cX6_more 50 = .ok (.istore 4, 2) := by decide +kernel
theorem dX6_more_52 : decode cX6_more 52 = .ok (.aload_n 0, 1) := by decide +kernel
theorem dX6_more_53 : decode cX6_more 53 = .ok (.getfield 22, 3) := by decide +kernel
theorem dX6_more_56 : decode cX6_more 56 = .ok (.aload_n 0, 1) := by decide +kernel
theorem dX6_more_57 : decode cX6_more 57 = .ok (.dup, 1) := by decide +kernel
theorem dX6_more_58 : decode cX6_more 58 = .ok (.getfield 78, 3) := by decide +kernel
theorem dX6_more_61 : decode cX6_more 61 = .ok (.iconst 1, 1) := by decide +kernel
theorem dX6_more_62 : decode cX6_more 62 = .ok (.isub, 1) := by decide +kernel
theorem dX6_more_63 : decode cX6_more 63 = .ok (.dup_x1, 1) := by decide +kernel
theorem dX6_more_64 : decode cX6_more 64 = .ok (.putfield 78, 3) := by decide +kernel
theorem dX6_more_67 : decode cX6_more 67 = .ok (.iload_n 3, 1) := by decide +kernel
theorem dX6_more_68 : decode cX6_more 68 = .ok (.iastore, 1) := by decide +kernel
theorem dX6_more_69 : decode cX6_more 69 = .ok (.iload 4, 2) := by decide +kernel
theorem dX6_more_71 : decode cX6_more 71 = .ok (.iload_n 2, 1) := by decide +kernel
theorem dX6_more_72 : decode cX6_more 72 = .ok (.isub, 1) := by decide +kernel
theorem dX6_more_73 : decode cX6_more 73 = .ok (.ireturn, 1) := by decide +kernel
set_option maxRecDepth 20000 in
theorem ggX6_brought_X6_isThing : GoodIn wsX6_brought wsX6_isThing := goodIn_r _ [7, 8, 9, 10, 6, 11, 34, 35, 36, 37, 38, 39, 40, 41, 42, 43, 44, 45, 46, 47, 48, 49, 50, 51, 52, 53, 54, 55, 56, 57] (by decide +kernel) (by decide +kernel)
set_option maxRecDepth 20000 in
theorem gX6_brought_X6_isThing : GoodIn wsX6_brought (wsV RX6 120 RX6 yX6_isThing wsX6_isThing) := goodIn_app (goodIn_of _ (by decide +kernel)) ggX6_brought_X6_isThing
set_option maxRecDepth 20000 in
theorem ggX6_brought_X6_noFar : GoodIn wsX6_brought wsX6_noFar := goodIn_r _ [15, 16, 17, 18, 19, 6, 20, 21, 34, 35, 36, 37, 38, 39, 40, 41, 42, 43, 44, 45, 46, 47, 48, 49, 50, 51, 52, 53, 54, 55, 56, 57] (by decide +kernel) (by decide +kernel)
set_option maxRecDepth 20000 in
theorem gX6_brought_X6_noFar : GoodIn wsX6_brought (wsV RX6 165 RX6 yX6_noFar wsX6_noFar) := goodIn_app (goodIn_of _ (by decide +kernel)) ggX6_brought_X6_noFar
set_option maxRecDepth 20000 in
theorem ggX6_brought_X6_which : GoodIn wsX6_brought wsX6_which := goodIn_r _ [25, 2, 34, 35, 36, 37, 38, 39, 40, 41, 42, 43, 44, 45, 46, 47, 48, 49, 50, 51, 52, 53, 54, 55, 56, 57] (by decide +kernel) (by decide +kernel)
set_option maxRecDepth 20000 in
theorem gX6_brought_X6_which : GoodIn wsX6_brought (wsV RX6 137 RX6 yX6_which wsX6_which) := goodIn_app (goodIn_of _ (by decide +kernel)) ggX6_brought_X6_which
set_option maxRecDepth 20000 in
theorem ggX6_brought_X6_worthOf : GoodIn wsX6_brought wsX6_worthOf := goodIn_r _ [29, 30, 31, 32, 33, 34, 35, 36, 37, 38, 39, 40, 41, 42, 43, 44, 45, 46, 47, 48, 49, 50, 51, 52, 53, 54, 55, 56, 57] (by decide +kernel) (by decide +kernel)
set_option maxRecDepth 20000 in
theorem gX6_brought_X6_worthOf : GoodIn wsX6_brought (wsV RX6 153 RX6 yX6_worthOf wsX6_worthOf) := goodIn_app (goodIn_of _ (by decide +kernel)) ggX6_brought_X6_worthOf
theorem dX6_brought_0 : decode cX6_brought 0 = .ok (.aload_n 0, 1) := by decide +kernel
theorem dX6_brought_1 : decode cX6_brought 1 = .ok (.iload_n 1, 1) := by decide +kernel
theorem dX6_brought_2 : decode cX6_brought 2 = .ok (.invokevirtual 120, 3) := by decide +kernel
theorem dX6_brought_5 : decode cX6_brought 5 = .ok (.ifCond .ne 9, 3) := by decide +kernel
theorem dX6_brought_8 : decode cX6_brought 8 = .ok (.aload_n 0, 1) := by decide +kernel
theorem dX6_brought_9 : decode cX6_brought 9 = .ok (.iconst (-1), 1) := by decide +kernel
theorem dX6_brought_10 : decode cX6_brought 10 = .ok (.invokevirtual 165, 3) := by decide +kernel
theorem dX6_brought_13 : decode cX6_brought 13 = .ok (.ireturn, 1) := by decide +kernel
theorem dX6_brought_14 : decode cX6_brought 14 = .ok (.iconst 0, 1) := by decide +kernel
theorem dX6_brought_15 : decode cX6_brought 15 = .ok (.istore_n 2, 1) := by decide +kernel
theorem dX6_brought_16 : decode cX6_brought 16 = .ok (.iconst 0, 1) := by decide +kernel
theorem dX6_brought_17 : decode cX6_brought 17 = .ok (.istore_n 3, 1) := by decide +kernel
theorem dX6_brought_18 : decode cX6_brought 18 = .ok (.iload_n 3, 1) := by decide +kernel
theorem dX6_brought_19 : decode cX6_brought 19 = .ok (.aload_n 0, 1) := by decide +kernel
theorem dX6_brought_20 : decode cX6_brought 20 = .ok (.getfield 78, 3) := by decide +kernel
theorem dX6_brought_23 : decode cX6_brought 23 = .ok (.if_icmp .ge 32, 3) := by decide +kernel
theorem dX6_brought_26 : decode cX6_brought 26 = .ok (.aload_n 0, 1) := by decide +kernel
theorem dX6_brought_27 : decode cX6_brought 27 = .ok (.getfield 22, 3) := by decide +kernel
theorem dX6_brought_30 : decode cX6_brought 30 = .ok (.iload_n 3, 1) := by decide +kernel
theorem dX6_brought_31 : decode cX6_brought 31 = .ok (.iaload, 1) := by decide +kernel
theorem dX6_brought_32 : decode cX6_brought 32 = .ok (.iload_n 1, 1) := by decide +kernel
theorem dX6_brought_33 : decode cX6_brought 33 = .ok (.if_icmp .ne 16, 3) := by decide +kernel
theorem dX6_brought_36 : decode cX6_brought 36 = .ok (.iload_n 2, 1) := by decide +kernel
theorem dX6_brought_37 : decode cX6_brought 37 = .ok (.aload_n 0, 1) := by decide +kernel
theorem dX6_brought_38 : decode cX6_brought 38 = .ok (.iload_n 1, 1) := by decide +kernel
theorem dX6_brought_39 : decode cX6_brought 39 = .ok (.aload_n 0, 1) := by decide +kernel
theorem dX6_brought_40 : decode cX6_brought 40 = .ok (.iload_n 3, 1) := by decide +kernel
theorem dX6_brought_41 : decode cX6_brought 41 = .ok (.invokevirtual 137, 3) := by decide +kernel
theorem dX6_brought_44 : decode cX6_brought 44 = .ok (.invokevirtual 153, 3) := by decide +kernel
theorem dX6_brought_47 : decode cX6_brought 47 = .ok (.iadd, 1) := by decide +kernel
theorem dX6_brought_48 : decode cX6_brought 48 = .ok (.istore_n 2, 1) := by decide +kernel
theorem dX6_brought_49 : decode cX6_brought 49 = .ok (.iinc 3 1, 3) := by decide +kernel
theorem dX6_brought_52 : decode cX6_brought 52 = .ok (.goto (-34), 3) := by decide +kernel
theorem dX6_brought_55 : decode cX6_brought 55 = .ok (.iload_n 2, 1) := by decide +kernel
theorem dX6_brought_56 : decode cX6_brought 56 = .ok (.ireturn, 1) := by decide +kernel
set_option maxRecDepth 20000 in
theorem ggX6_byLaw_X6_within : GoodIn wsX6_byLaw wsX6_within := goodIn_r _ [5] (by decide +kernel) (by decide +kernel)
set_option maxRecDepth 20000 in
theorem gX6_byLaw_X6_within : GoodIn wsX6_byLaw (va_wsS RX6 74 yX6_within wsX6_within) := goodIn_app (goodIn_of _ (by decide +kernel)) ggX6_byLaw_X6_within
set_option maxRecDepth 20000 in
theorem ggX6_byLaw_X6_no : GoodIn wsX6_byLaw wsX6_no := goodIn_r _ [9, 10, 34, 35, 36, 37, 38, 39, 40, 41, 42, 43, 44, 45, 46, 47, 48, 49, 50, 51, 52, 53, 54, 55, 56, 57] (by decide +kernel) (by decide +kernel)
set_option maxRecDepth 20000 in
theorem gX6_byLaw_X6_no : GoodIn wsX6_byLaw (wsV RX6 65 RX6 yX6_no wsX6_no) := goodIn_app (goodIn_of _ (by decide +kernel)) ggX6_byLaw_X6_no
set_option maxRecDepth 20000 in
theorem ggX6_byLaw_X6_taxes : GoodIn wsX6_byLaw wsX6_taxes := goodIn_r _ [14, 15, 16, 17, 18, 19, 4, 20, 21, 22, 23, 24, 25, 26, 27, 28, 1, 29, 30, 31, 32, 33, 34, 35, 36, 37, 38, 39, 40, 41, 42, 43, 44, 45, 46, 47, 48, 49, 50, 51, 52, 53, 54, 55, 56, 57] (by decide +kernel) (by decide +kernel)
set_option maxRecDepth 20000 in
theorem gX6_byLaw_X6_taxes : GoodIn wsX6_byLaw (wsV RX6 159 RX6 yX6_taxes wsX6_taxes) := goodIn_app (goodIn_of _ (by decide +kernel)) ggX6_byLaw_X6_taxes
theorem dX6_byLaw_0 : decode cX6_byLaw 0 = .ok (.iload_n 1, 1) := by decide +kernel
theorem dX6_byLaw_1 : decode cX6_byLaw 1 = .ok (.iconst 0, 1) := by decide +kernel
theorem dX6_byLaw_2 : decode cX6_byLaw 2 = .ok (.iconst 5, 1) := by decide +kernel
theorem dX6_byLaw_3 : decode cX6_byLaw 3 = .ok (.invokestatic 74, 3) := by decide +kernel
theorem dX6_byLaw_6 : decode cX6_byLaw 6 = .ok (.ifCond .ne 10, 3) := by decide +kernel
theorem dX6_byLaw_9 : decode cX6_byLaw 9 = .ok (.aload_n 0, 1) := by decide +kernel
theorem dX6_byLaw_10 : decode cX6_byLaw 10 = .ok (.bipush (-2), 2) := by decide +kernel
theorem dX6_byLaw_12 : decode cX6_byLaw 12 = .ok (.invokevirtual 65, 3) := by decide +kernel
theorem dX6_byLaw_15 : decode cX6_byLaw 15 = .ok (.ireturn, 1) := by decide +kernel
theorem dX6_byLaw_16 : decode cX6_byLaw 16 = .ok (.aload_n 0, 1) := by decide +kernel
theorem dX6_byLaw_17 : decode cX6_byLaw 17 = .ok (.getfield 71, 3) := by decide +kernel
theorem dX6_byLaw_20 : decode cX6_byLaw 20 = .ok (.ifCond .ne 12, 3) := by decide +kernel
theorem dX6_byLaw_23 : decode cX6_byLaw 23 = .ok (.aload_n 0, 1) := by decide +kernel
theorem dX6_byLaw_24 : decode cX6_byLaw 24 = .ok (.bipush (-3), 2) := by decide +kernel
theorem dX6_byLaw_26 : decode cX6_byLaw 26 = .ok (.invokevirtual 65, 3) := by decide +kernel
theorem dX6_byLaw_29 : decode cX6_byLaw 29 = .ok (.goto 8, 3) := by decide +kernel
theorem dX6_byLaw_32 : decode cX6_byLaw 32 = .ok (.aload_n 0, 1) := by decide +kernel
theorem dX6_byLaw_33 : decode cX6_byLaw 33 = .ok (.iload_n 1, 1) := by decide +kernel
theorem dX6_byLaw_34 : decode cX6_byLaw 34 = .ok (.invokevirtual 159, 3) := by decide +kernel
theorem dX6_byLaw_37 : decode cX6_byLaw 37 = .ok (.ireturn, 1) := by decide +kernel

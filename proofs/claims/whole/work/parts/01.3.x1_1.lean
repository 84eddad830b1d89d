theorem dX1_transfer_84 : decode cX1_transfer 84 = .ok (.lload 12, 2) := by decide +kernel
theorem dX1_transfer_86 : decode cX1_transfer 86 = .ok (.invokestatic 110, 3) := by decide +kernel
theorem dX1_transfer_89 : decode cX1_transfer 89 = .ok (.ifCond .eq 25, 3) := by decide +kernel
theorem dX1_transfer_92 : decode cX1_transfer 92 = .ok (.lload 8, 2) := by decide +kernel
theorem dX1_transfer_94 : decode cX1_transfer 94 = .ok (.invokestatic 51, 3) := by decide +kernel
theorem dX1_transfer_97 : decode cX1_transfer 97 = .ok (.ifCond .eq 17, 3) := by decide +kernel
theorem dX1_transfer_100 : decode cX1_transfer 100 = .ok (.lload 8, 2) := by decide +kernel
theorem dX1_transfer_102 : decode cX1_transfer 102 = .ok (.invokestatic 55, 3) := by decide +kernel
theorem dX1_transfer_105 : decode cX1_transfer 105 = .ok (.ldc 106, 2) := by decide +kernel
theorem dX1_transfer_107 : decode cX1_transfer 107 = .ok (.if_icmp .ge 7, 3) := by decide +kernel
theorem dX1_transfer_110 : decode cX1_transfer 110 = .ok (.iconst 1, 1) := by decide +kernel
theorem dX1_transfer_111 : decode cX1_transfer 111 = .ok (.goto 4, 3) := by decide +kernel
theorem dX1_transfer_114 : decode cX1_transfer 114 = .ok (.iconst 0, 1) := by decide +kernel
theorem dX1_transfer_115 : decode cX1_transfer 115 = .ok (.istore 14, 2) := by decide +kernel
theorem dX1_transfer_117 : decode cX1_transfer 117 = .ok (.aload_n 0, 1) := by decide +kernel
theorem dX1_transfer_118 : decode cX1_transfer 118 = .ok (.iconst 0, 1) := by decide +kernel
theorem dX1_transfer_119 : decode cX1_transfer 119 = .ok (.putfield 63, 3) := by decide +kernel
theorem dX1_transfer_122 : decode cX1_transfer 122 = .ok (.aload_n 0, 1) := by decide +kernel
theorem dX1_transfer_123 : decode cX1_transfer 123 = .ok (.iload_n 1, 1) := by decide +kernel
theorem dX1_transfer_124 : decode cX1_transfer 124 = .ok (.invokevirtual 90, 3) := by decide +kernel
theorem dX1_transfer_127 : decode cX1_transfer 127 = .ok (.aload_n 0, 1) := by decide +kernel
theorem dX1_transfer_128 : decode cX1_transfer 128 = .ok (.iload_n 2, 1) := by decide +kernel
theorem dX1_transfer_129 : decode cX1_transfer 129 = .ok (.invokevirtual 90, 3) := by decide +kernel
theorem dX1_transfer_132 : decode cX1_transfer 132 = .ok (.aload_n 0, 1) := by decide +kernel
theorem dX1_transfer_133 : decode cX1_transfer 133 = .ok (.bipush 16, 2) := by decide +kernel
theorem dX1_transfer_135 : decode cX1_transfer 135 = .ok (.invokevirtual 90, 3) := by decide +kernel
theorem dX1_transfer_138 : decode cX1_transfer 138 = .ok (.iload 14, 2) := by decide +kernel
theorem dX1_transfer_140 : decode cX1_transfer 140 = .ok (.ifCond .eq 137, 3) := by decide +kernel
theorem dX1_transfer_143 : decode cX1_transfer 143 = .ok (.lload 8, 2) := by decide +kernel
theorem dX1_transfer_145 : decode cX1_transfer 145 = .ok (.invokestatic 55, 3) := by decide +kernel
theorem dX1_transfer_148 : decode cX1_transfer 148 = .ok (.iconst 1, 1) := by decide +kernel
theorem dX1_transfer_149 : decode cX1_transfer 149 = .ok (.iadd, 1) := by decide +kernel
theorem dX1_transfer_150 : decode cX1_transfer 150 = .ok (.istore 15, 2) := by decide +kernel
theorem dX1_transfer_152 : decode cX1_transfer 152 = .ok (.sipush 256, 3) := by decide +kernel
theorem dX1_transfer_155 : decode cX1_transfer 155 = .ok (.iload_n 1, 1) := by decide +kernel
theorem dX1_transfer_156 : decode cX1_transfer 156 = .ok (.imul, 1) := by decide +kernel
theorem dX1_transfer_157 : decode cX1_transfer 157 = .ok (.iload_n 2, 1) := by decide +kernel
theorem dX1_transfer_158 : decode cX1_transfer 158 = .ok (.iadd, 1) := by decide +kernel
theorem dX1_transfer_159 : decode cX1_transfer 159 = .ok (.istore 16, 2) := by decide +kernel
theorem dX1_transfer_161 : decode cX1_transfer 161 = .ok (.aload_n 0, 1) := by decide +kernel
theorem dX1_transfer_162 : decode cX1_transfer 162 = .ok (.bipush 16, 2) := by decide +kernel
theorem dX1_transfer_164 : decode cX1_transfer 164 = .ok (.iload_n 3, 1) := by decide +kernel
theorem dX1_transfer_165 : decode cX1_transfer 165 = .ok (.iload 15, 2) := by decide +kernel
theorem dX1_transfer_167 : decode cX1_transfer 167 = .ok (.invokestatic 37, 3) := by decide +kernel
theorem dX1_transfer_170 : decode cX1_transfer 170 = .ok (.invokevirtual 80, 3) := by decide +kernel
theorem dX1_transfer_173 : decode cX1_transfer 173 = .ok (.aload_n 0, 1) := by decide +kernel
theorem dX1_transfer_174 : decode cX1_transfer 174 = .ok (.bipush 17, 2) := by decide +kernel
theorem dX1_transfer_176 : decode cX1_transfer 176 = .ok (.lload 4, 2) := by decide +kernel
theorem dX1_transfer_178 : decode cX1_transfer 178 = .ok (.invokestatic 55, 3) := by decide +kernel
theorem dX1_transfer_181 : decode cX1_transfer 181 = .ok (.iconst 1, 1) := by decide +kernel
theorem dX1_transfer_182 : decode cX1_transfer 182 = .ok (.iadd, 1) := by decide +kernel
theorem dX1_transfer_183 : decode cX1_transfer 183 = .ok (.iload 15, 2) := by decide +kernel
theorem dX1_transfer_185 : decode cX1_transfer 185 = .ok (.invokestatic 37, 3) := by decide +kernel
theorem dX1_transfer_188 : decode cX1_transfer 188 = .ok (.invokevirtual 80, 3) := by decide +kernel
theorem dX1_transfer_191 : decode cX1_transfer 191 = .ok (.aload_n 0, 1) := by decide +kernel
theorem dX1_transfer_192 : decode cX1_transfer 192 = .ok (.bipush 18, 2) := by decide +kernel
theorem dX1_transfer_194 : decode cX1_transfer 194 = .ok (.lload 6, 2) := by decide +kernel
theorem dX1_transfer_196 : decode cX1_transfer 196 = .ok (.invokestatic 55, 3) := by decide +kernel
theorem dX1_transfer_199 : decode cX1_transfer 199 = .ok (.iconst 1, 1) := by decide +kernel
theorem dX1_transfer_200 : decode cX1_transfer 200 = .ok (.iadd, 1) := by decide +kernel
theorem dX1_transfer_201 : decode cX1_transfer 201 = .ok (.iload 15, 2) := by decide +kernel
theorem dX1_transfer_203 : decode cX1_transfer 203 = .ok (.invokestatic 37, 3) := by decide +kernel
theorem dX1_transfer_206 : decode cX1_transfer 206 = .ok (.invokevirtual 80, 3) := by decide +kernel
theorem dX1_transfer_209 : decode cX1_transfer 209 = .ok (.aload_n 0, 1) := by decide +kernel
theorem dX1_transfer_210 : decode cX1_transfer 210 = .ok (.bipush 19, 2) := by decide +kernel
theorem dX1_transfer_212 : decode cX1_transfer 212 = .ok (.iload 16, 2) := by decide +kernel
theorem dX1_transfer_214 : decode cX1_transfer 214 = .ok (.ldc 114, 2) := by decide +kernel
theorem dX1_transfer_216 : decode cX1_transfer 216 = .ok (.iadd, 1) := by decide +kernel
theorem dX1_transfer_217 : decode cX1_transfer 217 = .ok (.iload 15, 2) := by decide +kernel
theorem dX1_transfer_219 : decode cX1_transfer 219 = .ok (.invokestatic 37, 3) := by decide +kernel
theorem dX1_transfer_222 : decode cX1_transfer 222 = .ok (.invokevirtual 80, 3) := by decide +kernel
theorem dX1_transfer_225 : decode cX1_transfer 225 = .ok (.aload_n 0, 1) := by decide +kernel
theorem dX1_transfer_226 : decode cX1_transfer 226 = .ok (.iload_n 1, 1) := by decide +kernel
theorem dX1_transfer_227 : decode cX1_transfer 227 = .ok (.lload 10, 2) := by decide +kernel
theorem dX1_transfer_229 : decode cX1_transfer 229 = .ok (.l2i, 1) := by decide +kernel
theorem dX1_transfer_230 : decode cX1_transfer 230 = .ok (.lload 4, 2) := by decide +kernel
theorem dX1_transfer_232 : decode cX1_transfer 232 = .ok (.invokestatic 55, 3) := by decide +kernel
theorem dX1_transfer_235 : decode cX1_transfer 235 = .ok (.iconst 1, 1) := by decide +kernel
theorem dX1_transfer_236 : decode cX1_transfer 236 = .ok (.iadd, 1) := by decide +kernel
theorem dX1_transfer_237 : decode cX1_transfer 237 = .ok (.invokestatic 37, 3) := by decide +kernel
theorem dX1_transfer_240 : decode cX1_transfer 240 = .ok (.invokevirtual 80, 3) := by decide +kernel
theorem dX1_transfer_243 : decode cX1_transfer 243 = .ok (.aload_n 0, 1) := by decide +kernel
theorem dX1_transfer_244 : decode cX1_transfer 244 = .ok (.iload_n 2, 1) := by decide +kernel
theorem dX1_transfer_245 : decode cX1_transfer 245 = .ok (.lload 12, 2) := by decide +kernel
theorem dX1_transfer_247 : decode cX1_transfer 247 = .ok (.l2i, 1) := by decide +kernel
theorem dX1_transfer_248 : decode cX1_transfer 248 = .ok (.lload 6, 2) := by decide +kernel
theorem dX1_transfer_250 : decode cX1_transfer 250 = .ok (.invokestatic 55, 3) := by decide +kernel
theorem dX1_transfer_253 : decode cX1_transfer 253 = .ok (.iconst 1, 1) := by decide +kernel
theorem dX1_transfer_254 : decode cX1_transfer 254 = .ok (.iadd, 1) := by decide +kernel
theorem dX1_transfer_255 : decode cX1_transfer 255 = .ok (.invokestatic 37, 3) := by decide +kernel
theorem dX1_transfer_258 : decode cX1_transfer 258 = .ok (.invokevirtual 80, 3) := by decide +kernel
theorem dX1_transfer_261 : decode cX1_transfer 261 = .ok (.aload_n 0, 1) := by decide +kernel
theorem dX1_transfer_262 : decode cX1_transfer 262 = .ok (.bipush 19, 2) := by decide +kernel
theorem dX1_transfer_264 : decode cX1_transfer 264 = .ok (.iload 16, 2) := by decide +kernel
theorem dX1_transfer_266 : decode cX1_transfer 266 = .ok (.ldc 115, 2) := by decide +kernel
theorem dX1_transfer_268 : decode cX1_transfer 268 = .ok (.iadd, 1) := by decide +kernel
theorem dX1_transfer_269 : decode cX1_transfer 269 = .ok (.iload 15, 2) := by decide +kernel
theorem dX1_transfer_271 : decode cX1_transfer 271 = .ok (.invokestatic 37, 3) := by decide +kernel
theorem dX1_transfer_274 : decode cX1_transfer 274 = .ok (.invokevirtual 80, 3) := by decide +kernel
theorem dX1_transfer_277 : decode cX1_transfer 277 = .ok (.aload_n 0, 1) := by decide +kernel
theorem dX1_transfer_278 : decode cX1_transfer 278 = .ok (.invokevirtual 84, 3) := by decide +kernel
theorem dX1_transfer_281 : decode cX1_transfer 281 = .ok (.ifCond .ne 8, 3) := by decide +kernel
theorem dX1_transfer_284 : decode cX1_transfer 284 = .ok (.bipush (-2), 2) := by decide +kernel
theorem dX1_transfer_286 : decode cX1_transfer 286 = .ok (.goto 13, 3) := by decide +kernel
theorem dX1_transfer_289 : decode cX1_transfer 289 = .ok (.iload 14, 2) := by decide +kernel
theorem dX1_transfer_291 : decode cX1_transfer 291 = .ok (.ifCond .eq 7, 3) := by decide +kernel
theorem dX1_transfer_294 : decode cX1_transfer 294 = .ok (.iconst 1, 1) := by decide +kernel
theorem dX1_transfer_295 : decode cX1_transfer 295 = .ok (.goto 4, 3) := by decide +kernel
theorem dX1_transfer_298 : decode cX1_transfer 298 = .ok (.iconst (-1), 1) := by decide +kernel
theorem dX1_transfer_299 : decode cX1_transfer 299 = .ok (.ireturn, 1) := by decide +kernel
set_option maxRecDepth 20000 in
theorem ggX1_total_X1_look : GoodIn wsX1_total wsX1_look := goodIn_r _ [8, 2, 9, 10, 11, 7, 12, 13, 1, 14, 15, 43, 44, 45, 46, 47, 48, 49, 50, 51, 52, 53] (by decide +kernel) (by decide +kernel)
set_option maxRecDepth 20000 in
theorem gX1_total_X1_look : GoodIn wsX1_total (wsV RX1 90 RX1 yX1_look wsX1_look) := goodIn_app (goodIn_of _ (by decide +kernel)) ggX1_total_X1_look
set_option maxRecDepth 20000 in
theorem ggX1_total_X1_isOpen : GoodIn wsX1_total wsX1_isOpen := goodIn_r _ [18, 19, 20, 7, 21, 22, 23, 24, 25, 26, 27, 28, 29, 30] (by decide +kernel) (by decide +kernel)
set_option maxRecDepth 20000 in
theorem gX1_total_X1_isOpen : GoodIn wsX1_total (va_wsS RX1 103 yX1_isOpen wsX1_isOpen) := goodIn_app (goodIn_of _ (by decide +kernel)) ggX1_total_X1_isOpen
set_option maxRecDepth 20000 in
theorem ggX1_total_X1_balanceOf : GoodIn wsX1_total wsX1_balanceOf := goodIn_r _ [33] (by decide +kernel) (by decide +kernel)
set_option maxRecDepth 20000 in
theorem gX1_total_X1_balanceOf : GoodIn wsX1_total (va_wsS RX1 100 yX1_balanceOf wsX1_balanceOf) := goodIn_app (goodIn_of _ (by decide +kernel)) ggX1_total_X1_balanceOf
set_option maxRecDepth 20000 in
theorem ggX1_total_X1_works : GoodIn wsX1_total wsX1_works := goodIn_r _ [37, 1, 38, 39, 13, 40, 2, 14, 41, 15, 42, 43, 44, 45, 46, 47, 48, 49, 50, 51, 52, 53] (by decide +kernel) (by decide +kernel)
set_option maxRecDepth 20000 in
theorem gX1_total_X1_works : GoodIn wsX1_total (wsV RX1 84 RX1 yX1_works wsX1_works) := goodIn_app (goodIn_of _ (by decide +kernel)) ggX1_total_X1_works
theorem dX1_total_0 : decode cX1_total 0 = .ok (.lconst 0, 1) := by decide +kernel
theorem dX1_total_1 : decode cX1_total 1 = .ok (.lstore_n 1, 1) := by decide +kernel
theorem dX1_total_2 : decode cX1_total 2 = .ok (.aload_n 0, 1) := by decide +kernel
theorem dX1_total_3 : decode cX1_total 3 = .ok (.iconst 0, 1) := by decide +kernel
theorem dX1_total_4 : decode cX1_total 4 = .ok (.putfield 63, 3) := by decide +kernel
theorem dX1_total_7 : decode cX1_total 7 = .ok (.iconst 0, 1) := by decide +kernel
theorem dX1_total_8 : decode cX1_total 8 = .ok (.istore_n 3, 1) := by decide +kernel
theorem dX1_total_9 : decode cX1_total 9 = .ok (.iload_n 3, 1) := by decide +kernel
theorem dX1_total_10 : decode cX1_total 10 = .ok (.bipush 16, 2) := by decide +kernel
theorem dX1_total_12 : decode cX1_total 12 = .ok (.if_icmp .ge 43, 3) := by decide +kernel
theorem dX1_total_15 : decode cX1_total 15 = .ok (.aload_n 0, 1) := by decide +kernel
theorem dX1_total_16 : decode cX1_total 16 = .ok (.iload_n 3, 1) := by decide +kernel
theorem dX1_total_17 : decode cX1_total 17 = .ok (.invokevirtual 90, 3) := by decide +kernel
theorem dX1_total_20 : decode cX1_total 20 = .ok (.lload_n 1, 1) := by decide +kernel
theorem dX1_total_21 : decode cX1_total 21 = .ok (.aload_n 0, 1) := by decide +kernel
theorem dX1_total_22 : decode cX1_total 22 = .ok (.getfield 7, 3) := by decide +kernel
theorem dX1_total_25 : decode cX1_total 25 = .ok (.iload_n 3, 1) := by decide +kernel
theorem dX1_total_26 : decode cX1_total 26 = .ok (.laload, 1) := by decide +kernel
theorem dX1_total_27 : decode cX1_total 27 = .ok (.invokestatic 103, 3) := by decide +kernel
theorem dX1_total_30 : decode cX1_total 30 = .ok (.ifCond .eq 16, 3) := by decide +kernel
theorem dX1_total_33 : decode cX1_total 33 = .ok (.aload_n 0, 1) := by decide +kernel
theorem dX1_total_34 : decode cX1_total 34 = .ok (.getfield 7, 3) := by decide +kernel
theorem dX1_total_37 : decode cX1_total 37 = .ok (.iload_n 3, 1) := by decide +kernel
theorem dX1_total_38 : decode cX1_total 38 = .ok (.laload, 1) := by decide +kernel
theorem dX1_total_39 : decode cX1_total 39 = .ok (.invokestatic 100, 3) := by decide +kernel
theorem dX1_total_42 : decode cX1_total 42 = .ok (.i2l, 1) := by decide +kernel
theorem dX1_total_43 : decode cX1_total 43 = .ok (.goto 4, 3) := by decide +kernel
theorem dX1_total_46 : decode cX1_total 46 = .ok (.lconst 0, 1) := by decide +kernel
theorem dX1_total_47 : decode cX1_total 47 = .ok (.ladd, 1) := by decide +kernel
theorem dX1_total_48 : decode cX1_total 48 = .ok (.lstore_n 1, 1) := by decide +kernel
theorem dX1_total_49 : decode cX1_total 49 = .ok (.iinc 3 1, 3) := by decide +kernel
theorem dX1_total_52 : decode cX1_total 52 = .ok (.goto (-43), 3) := by decide +kernel
theorem dX1_total_55 : decode cX1_total 55 = .ok (.aload_n 0, 1) := by decide +kernel
theorem dX1_total_56 : decode cX1_total 56 = .ok (.invokevirtual 84, 3) := by decide +kernel
theorem dX1_total_59 : decode cX1_total 59 = .ok (.ifCond .eq 7, 3) := by decide +kernel
theorem dX1_total_62 : decode cX1_total 62 = .ok (.lload_n 1, 1) := by decide +kernel
theorem dX1_total_63 : decode cX1_total 63 = .ok (.goto 6, 3) := by decide +kernel
theorem dX1_total_66 : decode cX1_total 66 = .ok (.ldc2_w 94, 3) := by decide +kernel
theorem dX1_total_69 : decode cX1_total 69 = .ok (.lreturn, 1) := by decide +kernel
set_option maxRecDepth 20000 in
theorem ggX1_number_X1_isAccount : GoodIn wsX1_number wsX1_isAccount := goodIn_r _ [6] (by decide +kernel) (by decide +kernel)
set_option maxRecDepth 20000 in
theorem gX1_number_X1_isAccount : GoodIn wsX1_number (va_wsS RX1 76 yX1_isAccount wsX1_isAccount) := goodIn_app (goodIn_of _ (by decide +kernel)) ggX1_number_X1_isAccount
set_option maxRecDepth 20000 in
theorem ggX1_number_X1_look : GoodIn wsX1_number wsX1_look := goodIn_r _ [10, 1, 11, 12, 13, 5, 14, 15, 2, 16, 17, 39, 40, 41, 42, 43, 44, 45, 46, 47, 48, 49] (by decide +kernel) (by decide +kernel)
set_option maxRecDepth 20000 in
theorem gX1_number_X1_look : GoodIn wsX1_number (wsV RX1 90 RX1 yX1_look wsX1_look) := goodIn_app (goodIn_of _ (by decide +kernel)) ggX1_number_X1_look
set_option maxRecDepth 20000 in
theorem ggX1_number_X1_works : GoodIn wsX1_number wsX1_works := goodIn_r _ [21, 2, 22, 23, 15, 24, 1, 16, 25, 17, 26, 39, 40, 41, 42, 43, 44, 45, 46, 47, 48, 49] (by decide +kernel) (by decide +kernel)
set_option maxRecDepth 20000 in
theorem gX1_number_X1_works : GoodIn wsX1_number (wsV RX1 84 RX1 yX1_works wsX1_works) := goodIn_app (goodIn_of _ (by decide +kernel)) ggX1_number_X1_works
set_option maxRecDepth 20000 in
theorem ggX1_number_X1_isValid : GoodIn wsX1_number wsX1_isValid := goodIn_r _ [29, 30, 31, 32, 5, 33, 34] (by decide +kernel) (by decide +kernel)
set_option maxRecDepth 20000 in
theorem gX1_number_X1_isValid : GoodIn wsX1_number (va_wsS RX1 51 yX1_isValid wsX1_isValid) := goodIn_app (goodIn_of _ (by decide +kernel)) ggX1_number_X1_isValid
set_option maxRecDepth 20000 in
theorem ggX1_number_X1_numberOf : GoodIn wsX1_number wsX1_numberOf := goodIn_r _ [37, 38] (by decide +kernel) (by decide +kernel)
set_option maxRecDepth 20000 in
theorem gX1_number_X1_numberOf : GoodIn wsX1_number (va_wsS RX1 55 yX1_numberOf wsX1_numberOf) := goodIn_app (goodIn_of _ (by decide +kernel)) ggX1_number_X1_numberOf
theorem dX1_number_0 : decode cX1_number 0 = .ok (.iload_n 1, 1) := by decide +kernel
theorem dX1_number_1 : decode cX1_number 1 = .ok (.invokestatic 76, 3) := by decide +kernel
theorem dX1_number_4 : decode cX1_number 4 = .ok (.ifCond .ne 5, 3) := by decide +kernel
theorem dX1_number_7 : decode cX1_number 7 = .ok (.iconst (-1), 1) := by decide +kernel
theorem dX1_number_8 : decode cX1_number 8 = .ok (.ireturn, 1) := by decide +kernel
theorem dX1_number_9 : decode cX1_number 9 = .ok (.aload_n 0, 1) := by decide +kernel
theorem dX1_number_10 : decode cX1_number 10 = .ok (.getfield 7, 3) := by decide +kernel
theorem dX1_number_13 : decode cX1_number 13 = .ok (.iload_n 1, 1) := by decide +kernel
theorem dX1_number_14 : decode cX1_number 14 = .ok (.laload, 1) := by decide +kernel
theorem dX1_number_15 : decode cX1_number 15 = .ok (.lstore_n 2, 1) := by decide +kernel
theorem dX1_number_16 : decode cX1_number 16 = .ok (.aload_n 0, 1) := by decide +kernel
theorem dX1_number_17 : decode cX1_number 17 = .ok (.iconst 0, 1) := by decide +kernel
theorem dX1_number_18 : decode cX1_number 18 = .ok (.putfield 63, 3) := by decide +kernel
theorem dX1_number_21 : decode cX1_number 21 = .ok (.aload_n 0, 1) := by decide +kernel
theorem dX1_number_22 : decode cX1_number 22 = .ok (.iload_n 1, 1) := by decide +kernel
theorem dX1_number_23 : decode cX1_number 23 = .ok (.invokevirtual 90, 3) := by decide +kernel
theorem dX1_number_26 : decode cX1_number 26 = .ok (.aload_n 0, 1) := by decide +kernel
theorem dX1_number_27 : decode cX1_number 27 = .ok (.invokevirtual 84, 3) := by decide +kernel
theorem dX1_number_30 : decode cX1_number 30 = .ok (.ifCond .ne 8, 3) := by decide +kernel
theorem dX1_number_33 : decode cX1_number 33 = .ok (.bipush (-2), 2) := by decide +kernel
theorem dX1_number_35 : decode cX1_number 35 = .ok (.goto 18, 3) := by decide +kernel
theorem dX1_number_38 : decode cX1_number 38 = .ok (.lload_n 2, 1) := by decide +kernel
theorem dX1_number_39 : decode cX1_number 39 = .ok (.invokestatic 51, 3) := by decide +kernel
theorem dX1_number_42 : decode cX1_number 42 = .ok (.ifCond .eq 10, 3) := by decide +kernel
theorem dX1_number_45 : decode cX1_number 45 = .ok (.lload_n 2, 1) := by decide +kernel
theorem dX1_number_46 : decode cX1_number 46 = .ok (.invokestatic 55, 3) := by decide +kernel
theorem dX1_number_49 : decode cX1_number 49 = .ok (.goto 4, 3) := by decide +kernel
theorem dX1_number_52 : decode cX1_number 52 = .ok (.iconst (-1), 1) := by decide +kernel
theorem dX1_number_53 : decode cX1_number 53 = .ok (.ireturn, 1) := by decide +kernel
theorem dX1_failAfter_0 : decode cX1_failAfter 0 = .ok (.iload_n 1, 1) := by decide +kernel
theorem dX1_failAfter_1 : decode cX1_failAfter 1 = .ok (.ifCond .ge 5, 3) := by decide +kernel
theorem dX1_failAfter_4 : decode cX1_failAfter 4 = .ok (.iconst 0, 1) := by decide +kernel
theorem dX1_failAfter_5 : decode cX1_failAfter 5 = .ok (.ireturn, 1) := by decide +kernel
theorem dX1_failAfter_6 : decode cX1_failAfter 6 = .ok (.aload_n 0, 1) := by decide +kernel
theorem dX1_failAfter_7 : decode cX1_failAfter 7 = .ok (.iload_n 1, 1) := by decide +kernel
theorem dX1_failAfter_8 : decode cX1_failAfter 8 = .ok (.putfield 21, 3) := by decide +kernel
theorem dX1_failAfter_11 : decode cX1_failAfter 11 = .ok (.iconst 1, 1) := by decide +kernel
theorem dX1_failAfter_12 : decode cX1_failAfter 12 = .ok (.ireturn, 1) := by decide +kernel
theorem dX1_fail_0 : decode cX1_fail 0 = .ok (.aload_n 0, 1) := by decide +kernel
theorem dX1_fail_1 : decode cX1_fail 1 = .ok (.getfield 17, 3) := by decide +kernel
theorem dX1_fail_4 : decode cX1_fail 4 = .ok (.ifCond .ne 5, 3) := by decide +kernel
theorem dX1_fail_7 : decode cX1_fail 7 = .ok (.iconst 0, 1) := by decide +kernel
theorem dX1_fail_8 : decode cX1_fail 8 = .ok (.ireturn, 1) := by decide +kernel
theorem dX1_fail_9 : decode cX1_fail 9 = .ok (.aload_n 0, 1) := by decide +kernel
theorem dX1_fail_10 : decode cX1_fail 10 = .ok (.iconst 0, 1) := by decide +kernel
theorem dX1_fail_11 : decode cX1_fail 11 = .ok (.putfield 17, 3) := by decide +kernel
theorem dX1_fail_14 : decode cX1_fail 14 = .ok (.aload_n 0, 1) := by decide +kernel
theorem dX1_fail_15 : decode cX1_fail 15 = .ok (.iconst (-1), 1) := by decide +kernel
theorem dX1_fail_16 : decode cX1_fail 16 = .ok (.putfield 21, 3) := by decide +kernel
theorem dX1_fail_19 : decode cX1_fail 19 = .ok (.iconst 1, 1) := by decide +kernel
theorem dX1_fail_20 : decode cX1_fail 20 = .ok (.ireturn, 1) := by decide +kernel
set_option maxRecDepth 20000 in
theorem ggX1_best_X1_isValid : GoodIn wsX1_best wsX1_isValid := goodIn_r _ [5, 6, 7, 8, 4, 9, 10] (by decide +kernel) (by decide +kernel)
set_option maxRecDepth 20000 in
theorem gX1_best_X1_isValid : GoodIn wsX1_best (va_wsS RX1 51 yX1_isValid wsX1_isValid) := goodIn_app (goodIn_of _ (by decide +kernel)) ggX1_best_X1_isValid
set_option maxRecDepth 20000 in
theorem ggX1_best_X1_numberOf : GoodIn wsX1_best wsX1_numberOf := goodIn_r _ [13, 14] (by decide +kernel) (by decide +kernel)
set_option maxRecDepth 20000 in
theorem gX1_best_X1_numberOf : GoodIn wsX1_best (va_wsS RX1 55 yX1_numberOf wsX1_numberOf) := goodIn_app (goodIn_of _ (by decide +kernel)) ggX1_best_X1_numberOf
set_option maxRecDepth 20000 in
theorem ggX1_best_X1_balanceOf : GoodIn wsX1_best wsX1_balanceOf := goodIn_r _ [17] (by decide +kernel) (by decide +kernel)
set_option maxRecDepth 20000 in
theorem gX1_best_X1_balanceOf : GoodIn wsX1_best (va_wsS RX1 100 yX1_balanceOf wsX1_balanceOf) := goodIn_app (goodIn_of _ (by decide +kernel)) ggX1_best_X1_balanceOf
theorem dX1_best_0 : decode cX1_best 0 = .ok (.lconst 0, 1) := by decide +kernel
theorem dX1_best_1 : decode cX1_best 1 = .ok (.lstore_n 2, 1) := by decide +kernel
theorem dX1_best_2 : decode cX1_best 2 = .ok (.iconst 0, 1) := by decide +kernel
theorem dX1_best_3 : decode cX1_best 3 = .ok (.istore 4, 2) := by decide +kernel
theorem dX1_best_5 : decode cX1_best 5 = .ok (.iload 4, 2) := by decide +kernel
theorem dX1_best_7 : decode cX1_best 7 = .ok (.iconst 4, 1) := by decide +kernel
theorem dX1_best_8 : decode cX1_best 8 = .ok (.if_icmp .ge 95, 3) := by decide +kernel
theorem dX1_best_11 : decode cX1_best 11 = .ok (.aload_n 0, 1) := by decide +kernel
theorem dX1_best_12 : decode cX1_best 12 = .ok (.getfield 7, 3) := by decide +kernel
theorem dX1_best_15 : decode cX1_best 15 = .ok (.bipush 20, 2) := by decide +kernel
theorem dX1_best_17 : decode cX1_best 17 = .ok (.iload 4, 2) := by decide +kernel
theorem dX1_best_19 : decode cX1_best 19 = .ok (.imul, 1) := by decide +kernel
theorem dX1_best_20 : decode cX1_best 20 = .ok (.iload_n 1, 1) := by decide +kernel
theorem dX1_best_21 : decode cX1_best 21 = .ok (.iadd, 1) := by decide +kernel
theorem dX1_best_22 : decode cX1_best 22 = .ok (.laload, 1) := by decide +kernel
theorem dX1_best_23 : decode cX1_best 23 = .ok (.lstore 5, 2) := by decide +kernel
theorem dX1_best_25 : decode cX1_best 25 = .ok (.lload 5, 2) := by decide +kernel
theorem dX1_best_27 : decode cX1_best 27 = .ok (.invokestatic 51, 3) := by decide +kernel
theorem dX1_best_30 : decode cX1_best 30 = .ok (.ifCond .ne 6, 3) := by decide +kernel
theorem dX1_best_33 : decode cX1_best 33 = .ok (.goto 64, 3) := by decide +kernel
theorem dX1_best_36 : decode cX1_best 36 = .ok (.lload_n 2, 1) := by decide +kernel
theorem dX1_best_37 : decode cX1_best 37 = .ok (.lconst 0, 1) := by decide +kernel
theorem dX1_best_38 : decode cX1_best 38 = .ok (.lcmp, 1) := by decide +kernel
theorem dX1_best_39 : decode cX1_best 39 = .ok (.ifCond .eq 39, 3) := by decide +kernel
theorem dX1_best_42 : decode cX1_best 42 = .ok (.lload 5, 2) := by decide +kernel
theorem dX1_best_44 : decode cX1_best 44 = .ok (.invokestatic 55, 3) := by decide +kernel
theorem dX1_best_47 : decode cX1_best 47 = .ok (.lload_n 2, 1) := by decide +kernel
theorem dX1_best_48 : decode cX1_best 48 = .ok (.invokestatic 55, 3) := by decide +kernel
theorem dX1_best_51 : decode cX1_best 51 = .ok (.if_icmp .gt 27, 3) := by decide +kernel
theorem dX1_best_54 : decode cX1_best 54 = .ok (.lload 5, 2) := by decide +kernel
theorem dX1_best_56 : decode cX1_best 56 = .ok (.invokestatic 55, 3) := by decide +kernel
theorem dX1_best_59 : decode cX1_best 59 = .ok (.lload_n 2, 1) := by decide +kernel
theorem dX1_best_60 : decode cX1_best 60 = .ok (.invokestatic 55, 3) := by decide +kernel
theorem dX1_best_63 : decode cX1_best 63 = .ok (.if_icmp .ne 19, 3) := by decide +kernel
theorem dX1_best_66 : decode cX1_best 66 = .ok (.lload 5, 2) := by decide +kernel
theorem dX1_best_68 : decode cX1_best 68 = .ok (.invokestatic 100, 3) := by decide +kernel
theorem dX1_best_71 : decode cX1_best 71 = .ok (.lload_n 2, 1) := by decide +kernel
theorem dX1_best_72 : decode cX1_best 72 = .ok (.invokestatic 100, 3) := by decide +kernel
theorem dX1_best_75 : decode cX1_best 75 = .ok (.if_icmp .le 7, 3) := by decide +kernel
theorem dX1_best_78 : decode cX1_best 78 = .ok (.iconst 1, 1) := by decide +kernel
theorem dX1_best_79 : decode cX1_best 79 = .ok (.goto 4, 3) := by decide +kernel
theorem dX1_best_82 : decode cX1_best 82 = .ok (.iconst 0, 1) := by decide +kernel
theorem dX1_best_83 : decode cX1_best 83 = .ok (.istore 7, 2) := by decide +kernel
theorem dX1_best_85 : decode cX1_best 85 = .ok (.iload 7, 2) := by decide +kernel
theorem dX1_best_87 : decode cX1_best 87 = .ok (.ifCond .eq 8, 3) := by decide +kernel
theorem dX1_best_90 : decode cX1_best 90 = .ok (.lload 5, 2) := by decide +kernel
theorem dX1_best_92 : decode cX1_best 92 = .ok (.goto 4, 3) := by decide +kernel
theorem dX1_best_95 : decode cX1_best 95 = .ok (.lload_n 2, 1) := by decide +kernel
theorem dX1_best_96 : decode cX1_best 96 = .ok (.lstore_n 2, 1) := by decide +kernel
theorem dX1_best_97 : decode cX1_best 97 = .ok (.iinc 4 1, 3) := by decide +kernel
theorem dX1_best_100 : decode cX1_best 100 = .ok (.goto (-95), 3) := by decide +kernel
theorem dX1_best_103 : decode cX1_best 103 = .ok (.lload_n 2, 1) := by decide +kernel
theorem dX1_best_104 : decode cX1_best 104 = .ok (.lreturn, 1) := by decide +kernel
set_option maxRecDepth 20000 in
theorem ggX1_mend_X1_isValid : GoodIn wsX1_mend wsX1_isValid := goodIn_r _ [6, 7, 8, 9, 5, 10, 11] (by decide +kernel) (by decide +kernel)
set_option maxRecDepth 20000 in
theorem gX1_mend_X1_isValid : GoodIn wsX1_mend (va_wsS RX1 51 yX1_isValid wsX1_isValid) := goodIn_app (goodIn_of _ (by decide +kernel)) ggX1_mend_X1_isValid
set_option maxRecDepth 20000 in
theorem ggX1_mend_X1_turn : GoodIn wsX1_mend wsX1_turn := goodIn_r _ [15, 16, 17, 18, 19, 31, 32, 33, 34, 35, 36, 37, 38, 39, 40, 41] (by decide +kernel) (by decide +kernel)
set_option maxRecDepth 20000 in
theorem gX1_mend_X1_turn : GoodIn wsX1_mend (wsV RX1 66 RX1 yX1_turn wsX1_turn) := goodIn_app (goodIn_of _ (by decide +kernel)) ggX1_mend_X1_turn
set_option maxRecDepth 20000 in
theorem ggX1_mend_X1_best : GoodIn wsX1_mend wsX1_best := goodIn_r _ [23, 1, 3, 4, 5, 6, 7, 8, 9, 10, 11, 24, 25, 26, 27, 28, 29, 30, 31, 32, 33, 34, 35, 36, 37, 38, 39, 40, 41] (by decide +kernel) (by decide +kernel)
set_option maxRecDepth 20000 in
theorem gX1_mend_X1_best : GoodIn wsX1_mend (wsV RX1 116 RX1 yX1_best wsX1_best) := goodIn_app (goodIn_of _ (by decide +kernel)) ggX1_mend_X1_best
theorem dX1_mend_0 : decode cX1_mend 0 = .ok (.iconst 0, 1) := by decide +kernel
theorem dX1_mend_1 : decode cX1_mend 1 = .ok (.istore_n 2, 1) := by decide +kernel
theorem dX1_mend_2 : decode cX1_mend 2 = .ok (.iconst 0, 1) := by decide +kernel
theorem dX1_mend_3 : decode cX1_mend 3 = .ok (.istore_n 3, 1) := by decide +kernel
theorem dX1_mend_4 : decode cX1_mend 4 = .ok (.iload_n 3, 1) := by decide +kernel
theorem dX1_mend_5 : decode cX1_mend 5 = .ok (.iconst 4, 1) := by decide +kernel
theorem dX1_mend_6 : decode cX1_mend 6 = .ok (.if_icmp .ge 34, 3) := by decide +kernel
theorem dX1_mend_9 : decode cX1_mend 9 = .ok (.iload_n 2, 1) := by decide +kernel
theorem dX1_mend_10 : decode cX1_mend 10 = .ok (.aload_n 0, 1) := by decide +kernel
theorem dX1_mend_11 : decode cX1_mend 11 = .ok (.getfield 7, 3) := by decide +kernel
theorem dX1_mend_14 : decode cX1_mend 14 = .ok (.bipush 20, 2) := by decide +kernel
theorem dX1_mend_16 : decode cX1_mend 16 = .ok (.iload_n 3, 1) := by decide +kernel
theorem dX1_mend_17 : decode cX1_mend 17 = .ok (.imul, 1) := by decide +kernel
theorem dX1_mend_18 : decode cX1_mend 18 = .ok (.iload_n 1, 1) := by decide +kernel
theorem dX1_mend_19 : decode cX1_mend 19 = .ok (.iadd, 1) := by decide +kernel
theorem dX1_mend_20 : decode cX1_mend 20 = .ok (.laload, 1) := by decide +kernel
theorem dX1_mend_21 : decode cX1_mend 21 = .ok (.invokestatic 51, 3) := by decide +kernel
theorem dX1_mend_24 : decode cX1_mend 24 = .ok (.ifCond .eq 7, 3) := by decide +kernel
theorem dX1_mend_27 : decode cX1_mend 27 = .ok (.iconst 0, 1) := by decide +kernel
theorem dX1_mend_28 : decode cX1_mend 28 = .ok (.goto 4, 3) := by decide +kernel
theorem dX1_mend_31 : decode cX1_mend 31 = .ok (.iconst 1, 1) := by decide +kernel
theorem dX1_mend_32 : decode cX1_mend 32 = .ok (.iadd, 1) := by decide +kernel
theorem dX1_mend_33 : decode cX1_mend 33 = .ok (.istore_n 2, 1) := by decide +kernel
theorem dX1_mend_34 : decode cX1_mend 34 = .ok (.iinc 3 1, 3) := by decide +kernel
theorem dX1_mend_37 : decode cX1_mend 37 = .ok (.goto (-33), 3) := by decide +kernel
theorem dX1_mend_40 : decode cX1_mend 40 = .ok (.iconst 0, 1) := by decide +kernel
theorem dX1_mend_41 : decode cX1_mend 41 = .ok (.istore_n 3, 1) := by decide +kernel
theorem dX1_mend_42 : decode cX1_mend 42 = .ok (.iload_n 3, 1) := by decide +kernel
theorem dX1_mend_43 : decode cX1_mend 43 = .ok (.iconst 4, 1) := by decide +kernel
theorem dX1_mend_44 : decode cX1_mend 44 = .ok (.if_icmp .ge 47, 3) := by decide +kernel
theorem dX1_mend_47 : decode cX1_mend 47 = .ok (.aload_n 0, 1) := by decide +kernel
theorem dX1_mend_48 : decode cX1_mend 48 = .ok (.iconst 0, 1) := by decide +kernel
theorem dX1_mend_49 : decode cX1_mend 49 = .ok (.iload_n 3, 1) := by decide +kernel
theorem dX1_mend_50 : decode cX1_mend 50 = .ok (.iload_n 1, 1) := by decide +kernel
theorem dX1_mend_51 : decode cX1_mend 51 = .ok (.iload_n 3, 1) := by decide +kernel
theorem dX1_mend_52 : decode cX1_mend 52 = .ok (.iconst 3, 1) := by decide +kernel
theorem dX1_mend_53 : decode cX1_mend 53 = .ok (.if_icmp .ne 10, 3) := by decide +kernel
theorem dX1_mend_56 : decode cX1_mend 56 = .ok (.iload_n 2, 1) := by decide +kernel
theorem dX1_mend_57 : decode cX1_mend 57 = .ok (.i2l, 1) := by decide +kernel
theorem dX1_mend_58 : decode cX1_mend 58 = .ok (.lconst 1, 1) := by decide +kernel
theorem dX1_mend_59 : decode cX1_mend 59 = .ok (.ladd, 1) := by decide +kernel
theorem dX1_mend_60 : decode cX1_mend 60 = .ok (.goto 4, 3) := by decide +kernel
theorem dX1_mend_63 : decode cX1_mend 63 = .ok (.lconst 0, 1) := by decide +kernel
theorem dX1_mend_64 : decode cX1_mend 64 = .ok (.invokevirtual 66, 3) := by decide +kernel
theorem dX1_mend_67 : decode cX1_mend 67 = .ok (.aload_n 0, 1) := by decide +kernel
theorem dX1_mend_68 : decode cX1_mend 68 = .ok (.iconst 1, 1) := by decide +kernel
theorem dX1_mend_69 : decode cX1_mend 69 = .ok (.iload_n 3, 1) := by decide +kernel
theorem dX1_mend_70 : decode cX1_mend 70 = .ok (.iload_n 1, 1) := by decide +kernel
theorem dX1_mend_71 : decode cX1_mend 71 = .ok (.aload_n 0, 1) := by decide +kernel
theorem dX1_mend_72 : decode cX1_mend 72 = .ok (.getfield 7, 3) := by decide +kernel
theorem dX1_mend_75 : decode cX1_mend 75 = .ok (.bipush 20, 2) := by decide +kernel
theorem dX1_mend_77 : decode cX1_mend 77 = .ok (.iload_n 3, 1) := by decide +kernel
theorem dX1_mend_78 : decode cX1_mend 78 = .ok (.imul, 1) := by decide +kernel
theorem dX1_mend_79 : decode cX1_mend 79 = .ok (.iload_n 1, 1) := by decide +kernel
theorem dX1_mend_80 : decode cX1_mend 80 = .ok (.iadd, 1) := by decide +kernel
theorem dX1_mend_81 : decode cX1_mend 81 = .ok (.laload, 1) := by decide +kernel
theorem dX1_mend_82 : decode cX1_mend 82 = .ok (.invokevirtual 66, 3) := by decide +kernel
theorem dX1_mend_85 : decode cX1_mend 85 = .ok (.iinc 3 1, 3) := by decide +kernel
theorem dX1_mend_88 : decode cX1_mend 88 = .ok (.goto (-46), 3) := by decide +kernel
theorem dX1_mend_91 : decode cX1_mend 91 = .ok (.aload_n 0, 1) := by decide +kernel
theorem dX1_mend_92 : decode cX1_mend 92 = .ok (.getfield 34, 3) := by decide +kernel
theorem dX1_mend_95 : decode cX1_mend 95 = .ok (.iload_n 1, 1) := by decide +kernel
theorem dX1_mend_96 : decode cX1_mend 96 = .ok (.aload_n 0, 1) := by decide +kernel
theorem dX1_mend_97 : decode cX1_mend 97 = .ok (.iload_n 1, 1) := by decide +kernel
theorem dX1_mend_98 : decode cX1_mend 98 = .ok (.invokevirtual 116, 3) := by decide +kernel
theorem dX1_mend_101 : decode cX1_mend 101 = .ok (.lastore, 1) := by decide +kernel
theorem dX1_mend_102 : decode cX1_mend 102 = .ok (.iconst 0, 1) := by decide +kernel
theorem dX1_mend_103 : decode cX1_mend 103 = .ok (.istore_n 3, 1) := by decide +kernel
theorem dX1_mend_104 : decode cX1_mend 104 = .ok (.iload_n 3, 1) := by decide +kernel
theorem dX1_mend_105 : decode cX1_mend 105 = .ok (.iconst 4, 1) := by decide +kernel
theorem dX1_mend_106 : decode cX1_mend 106 = .ok (.if_icmp .ge 54, 3) := by decide +kernel
theorem dX1_mend_109 : decode cX1_mend 109 = .ok (.aload_n 0, 1) := by decide +kernel
theorem dX1_mend_110 : decode cX1_mend 110 = .ok (.getfield 34, 3) := by decide +kernel
theorem dX1_mend_113 : decode cX1_mend 113 = .ok (.iload_n 1, 1) := by decide +kernel
theorem dX1_mend_114 : decode cX1_mend 114 = .ok (.laload, 1) := by decide +kernel
theorem dX1_mend_115 : decode cX1_mend 115 = .ok (.lconst 0, 1) := by decide +kernel
theorem dX1_mend_116 : decode cX1_mend 116 = .ok (.lcmp, 1) := by decide +kernel
theorem dX1_mend_117 : decode cX1_mend 117 = .ok (.ifCond .eq 43, 3) := by decide +kernel
theorem dX1_mend_120 : decode cX1_mend 120 = .ok (.aload_n 0, 1) := by decide +kernel
theorem dX1_mend_121 : decode cX1_mend 121 = .ok (.getfield 7, 3) := by decide +kernel
theorem dX1_mend_124 : decode cX1_mend 124 = .ok (.bipush 20, 2) := by decide +kernel
theorem dX1_mend_126 : decode cX1_mend 126 = .ok (.iload_n 3, 1) := by decide +kernel
theorem dX1_mend_127 : decode cX1_mend 127 = .ok (.imul, 1) := by decide +kernel
theorem dX1_mend_128 : decode cX1_mend 128 = .ok (.iload_n 1, 1) := by decide +kernel
theorem dX1_mend_129 : decode cX1_mend 129 = .ok (.iadd, 1) := by decide +kernel
theorem dX1_mend_130 : decode cX1_mend 130 = .ok (.laload, 1) := by decide +kernel
theorem dX1_mend_131 : decode cX1_mend 131 = .ok (.aload_n 0, 1) := by decide +kernel
theorem dX1_mend_132 : decode cX1_mend 132 = .ok (.getfield 34, 3) := by decide +kernel
theorem dX1_mend_135 : decode cX1_mend 135 = .ok (.iload_n 1, 1) := by decide +kernel
theorem dX1_mend_136 : decode cX1_mend 136 = .ok (.laload, 1) := by decide +kernel
theorem dX1_mend_137 : decode cX1_mend 137 = .ok (.lcmp, 1) := by decide +kernel
theorem dX1_mend_138 : decode cX1_mend 138 = .ok (.ifCond .eq 16, 3) := by decide +kernel
theorem dX1_mend_141 : decode cX1_mend 141 = .ok (.aload_n 0, 1) := by decide +kernel
theorem dX1_mend_142 : decode cX1_mend 142 = .ok (.iconst 1, 1) := by decide +kernel
theorem dX1_mend_143 : decode cX1_mend 143 = .ok (.iload_n 3, 1) := by decide +kernel
theorem dX1_mend_144 : decode cX1_mend 144 = .ok (.iload_n 1, 1) := by decide +kernel
theorem dX1_mend_145 : decode cX1_mend 145 = .ok (.aload_n 0, 1) := by decide +kernel
theorem dX1_mend_146 : decode cX1_mend 146 = .ok (.getfield 34, 3) := by decide +kernel
theorem dX1_mend_149 : decode cX1_mend 149 = .ok (.iload_n 1, 1) := by decide +kernel
theorem dX1_mend_150 : decode cX1_mend 150 = .ok (.laload, 1) := by decide +kernel
theorem dX1_mend_151 : decode cX1_mend 151 = .ok (.invokevirtual 66, 3) := by decide +kernel
theorem dX1_mend_154 : decode cX1_mend 154 = .ok (.iinc 3 1, 3) := by decide +kernel
theorem dX1_mend_157 : decode cX1_mend 157 = .ok (.goto (-53), 3) := by decide +kernel
theorem dX1_mend_160 : decode cX1_mend 160 = .ok (.return_, 1) := by decide +kernel
set_option maxRecDepth 20000 in
theorem ggX1_settle_X1_numberOf : GoodIn wsX1_settle wsX1_numberOf := goodIn_r _ [5, 6] (by decide +kernel) (by decide +kernel)
set_option maxRecDepth 20000 in
theorem gX1_settle_X1_numberOf : GoodIn wsX1_settle (va_wsS RX1 55 yX1_numberOf wsX1_numberOf) := goodIn_app (goodIn_of _ (by decide +kernel)) ggX1_settle_X1_numberOf
set_option maxRecDepth 20000 in
theorem ggX1_settle_X1_balanceOf : GoodIn wsX1_settle wsX1_balanceOf := goodIn_r _ [9] (by decide +kernel) (by decide +kernel)
set_option maxRecDepth 20000 in
theorem gX1_settle_X1_balanceOf : GoodIn wsX1_settle (va_wsS RX1 100 yX1_balanceOf wsX1_balanceOf) := goodIn_app (goodIn_of _ (by decide +kernel)) ggX1_settle_X1_balanceOf
set_option maxRecDepth 20000 in
theorem ggX1_settle_X1_wordOf : GoodIn wsX1_settle wsX1_wordOf := goodIn_r _ [12, 13, 14, 4, 15, 16, 17] (by decide +kernel) (by decide +kernel)
set_option maxRecDepth 20000 in
theorem gX1_settle_X1_wordOf : GoodIn wsX1_settle (va_wsS RX1 37 yX1_wordOf wsX1_wordOf) := goodIn_app (goodIn_of _ (by decide +kernel)) ggX1_settle_X1_wordOf
set_option maxRecDepth 20000 in
theorem ggX1_settle_X1_putAll : GoodIn wsX1_settle wsX1_putAll := goodIn_r _ [21, 22, 23, 24, 4, 25, 26, 27, 28, 29, 30, 31, 32, 33, 34, 35, 36, 37, 38, 39, 40] (by decide +kernel) (by decide +kernel)
set_option maxRecDepth 20000 in
theorem gX1_settle_X1_putAll : GoodIn wsX1_settle (wsV RX1 80 RX1 yX1_putAll wsX1_putAll) := goodIn_app (goodIn_of _ (by decide +kernel)) ggX1_settle_X1_putAll
theorem dX1_settle_0 : decode cX1_settle 0 = .ok (.aload_n 0, 1) := by decide +kernel
theorem dX1_settle_1 : decode cX1_settle 1 = .ok (.getfield 34, 3) := by decide +kernel
theorem dX1_settle_4 : decode cX1_settle 4 = .ok (.iload_n 1, 1) := by decide +kernel
theorem dX1_settle_5 : decode cX1_settle 5 = .ok (.laload, 1) := by decide +kernel
theorem dX1_settle_6 : decode cX1_settle 6 = .ok (.lstore 4, 2) := by decide +kernel
theorem dX1_settle_8 : decode cX1_settle 8 = .ok (.lload 4, 2) := by decide +kernel
theorem dX1_settle_10 : decode cX1_settle 10 = .ok (.lconst 0, 1) := by decide +kernel
theorem dX1_settle_11 : decode cX1_settle 11 = .ok (.lcmp, 1) := by decide +kernel
theorem dX1_settle_12 : decode cX1_settle 12 = .ok (.ifCond .eq 20, 3) := by decide +kernel
theorem dX1_settle_15 : decode cX1_settle 15 = .ok (.lload 4, 2) := by decide +kernel
theorem dX1_settle_17 : decode cX1_settle 17 = .ok (.invokestatic 55, 3) := by decide +kernel
theorem dX1_settle_20 : decode cX1_settle 20 = .ok (.aload_n 0, 1) := by decide +kernel
theorem dX1_settle_21 : decode cX1_settle 21 = .ok (.getfield 34, 3) := by decide +kernel
theorem dX1_settle_24 : decode cX1_settle 24 = .ok (.iload_n 2, 1) := by decide +kernel
theorem dX1_settle_25 : decode cX1_settle 25 = .ok (.laload, 1) := by decide +kernel
theorem dX1_settle_26 : decode cX1_settle 26 = .ok (.invokestatic 100, 3) := by decide +kernel
theorem dX1_settle_29 : decode cX1_settle 29 = .ok (.if_icmp .lt 4, 3) := by decide +kernel
theorem dX1_settle_32 : decode cX1_settle 32 = .ok (.return_, 1) := by decide +kernel
theorem dX1_settle_33 : decode cX1_settle 33 = .ok (.aload_n 0, 1) := by decide +kernel
theorem dX1_settle_34 : decode cX1_settle 34 = .ok (.iload_n 1, 1) := by decide +kernel
theorem dX1_settle_35 : decode cX1_settle 35 = .ok (.lload 4, 2) := by decide +kernel
theorem dX1_settle_37 : decode cX1_settle 37 = .ok (.invokestatic 100, 3) := by decide +kernel
theorem dX1_settle_40 : decode cX1_settle 40 = .ok (.iload_n 3, 1) := by decide +kernel
theorem dX1_settle_41 : decode cX1_settle 41 = .ok (.iadd, 1) := by decide +kernel
theorem dX1_settle_42 : decode cX1_settle 42 = .ok (.aload_n 0, 1) := by decide +kernel
theorem dX1_settle_43 : decode cX1_settle 43 = .ok (.getfield 34, 3) := by decide +kernel
theorem dX1_settle_46 : decode cX1_settle 46 = .ok (.iload_n 2, 1) := by decide +kernel
theorem dX1_settle_47 : decode cX1_settle 47 = .ok (.laload, 1) := by decide +kernel
theorem dX1_settle_48 : decode cX1_settle 48 = .ok (.invokestatic 100, 3) := by decide +kernel
theorem dX1_settle_51 : decode cX1_settle 51 = .ok (.invokestatic 37, 3) := by decide +kernel
theorem dX1_settle_54 : decode cX1_settle 54 = .ok (.invokevirtual 80, 3) := by decide +kernel
theorem dX1_settle_57 : decode cX1_settle 57 = .ok (.return_, 1) := by decide +kernel
set_option maxRecDepth 20000 in
theorem ggX1_mount_X1_mend : GoodIn wsX1_mount wsX1_mend := goodIn_r _ [9, 10, 3, 11, 12, 8, 13, 14, 15, 16, 17, 18, 19, 20, 21, 22, 23, 2, 24, 25, 26, 27, 28, 29, 30, 31, 32, 33, 34, 35, 36, 59, 60, 61, 62, 63, 64, 65, 66, 67, 68, 69] (by decide +kernel) (by decide +kernel)
set_option maxRecDepth 20000 in
theorem gX1_mount_X1_mend : GoodIn wsX1_mount (wsV RX1 120 RX1 yX1_mend wsX1_mend) := goodIn_app (goodIn_of _ (by decide +kernel)) ggX1_mount_X1_mend
set_option maxRecDepth 20000 in
theorem ggX1_mount_X1_numberOf : GoodIn wsX1_mount wsX1_numberOf := goodIn_r _ [32, 33] (by decide +kernel) (by decide +kernel)
set_option maxRecDepth 20000 in
theorem gX1_mount_X1_numberOf : GoodIn wsX1_mount (va_wsS RX1 55 yX1_numberOf wsX1_numberOf) := goodIn_app (goodIn_of _ (by decide +kernel)) ggX1_mount_X1_numberOf
set_option maxRecDepth 20000 in
theorem ggX1_mount_X1_balanceOf : GoodIn wsX1_mount wsX1_balanceOf := goodIn_r _ [36] (by decide +kernel) (by decide +kernel)
set_option maxRecDepth 20000 in
theorem gX1_mount_X1_balanceOf : GoodIn wsX1_mount (va_wsS RX1 100 yX1_balanceOf wsX1_balanceOf) := goodIn_app (goodIn_of _ (by decide +kernel)) ggX1_mount_X1_balanceOf
set_option maxRecDepth 20000 in
theorem ggX1_mount_X1_isAccount : GoodIn wsX1_mount wsX1_isAccount := goodIn_r _ [39] (by decide +kernel) (by decide +kernel)
set_option maxRecDepth 20000 in
theorem gX1_mount_X1_isAccount : GoodIn wsX1_mount (va_wsS RX1 76 yX1_isAccount wsX1_isAccount) := goodIn_app (goodIn_of _ (by decide +kernel)) ggX1_mount_X1_isAccount
set_option maxRecDepth 20000 in
theorem ggX1_mount_X1_settle : GoodIn wsX1_mount wsX1_settle := goodIn_r _ [43, 3, 30, 31, 8, 32, 33, 34, 35, 36, 44, 45, 46, 15, 16, 17, 14, 18, 47, 48, 49, 50, 19, 20, 21, 22, 23, 2, 24, 25, 59, 60, 61, 62, 63, 64, 65, 66, 67, 68, 69] (by decide +kernel) (by decide +kernel)
set_option maxRecDepth 20000 in
theorem gX1_mount_X1_settle : GoodIn wsX1_mount (wsV RX1 123 RX1 yX1_settle wsX1_settle) := goodIn_app (goodIn_of _ (by decide +kernel)) ggX1_mount_X1_settle
set_option maxRecDepth 20000 in
theorem ggX1_mount_X1_wordOf : GoodIn wsX1_mount wsX1_wordOf := goodIn_r _ [46, 15, 16, 8, 17, 14, 18] (by decide +kernel) (by decide +kernel)
set_option maxRecDepth 20000 in
theorem gX1_mount_X1_wordOf : GoodIn wsX1_mount (va_wsS RX1 37 yX1_wordOf wsX1_wordOf) := goodIn_app (goodIn_of _ (by decide +kernel)) ggX1_mount_X1_wordOf
set_option maxRecDepth 20000 in
theorem ggX1_mount_X1_putAll : GoodIn wsX1_mount wsX1_putAll := goodIn_r _ [50, 19, 20, 21, 8, 22, 23, 2, 24, 25, 59, 60, 61, 62, 63, 64, 65, 66, 67, 68, 69] (by decide +kernel) (by decide +kernel)
set_option maxRecDepth 20000 in
theorem gX1_mount_X1_putAll : GoodIn wsX1_mount (wsV RX1 80 RX1 yX1_putAll wsX1_putAll) := goodIn_app (goodIn_of _ (by decide +kernel)) ggX1_mount_X1_putAll
set_option maxRecDepth 20000 in
theorem ggX1_mount_X1_works : GoodIn wsX1_mount wsX1_works := goodIn_r _ [54, 2, 1, 55, 23, 56, 10, 24, 57, 25, 58, 59, 60, 61, 62, 63, 64, 65, 66, 67, 68, 69] (by decide +kernel) (by decide +kernel)
set_option maxRecDepth 20000 in
theorem gX1_mount_X1_works : GoodIn wsX1_mount (wsV RX1 84 RX1 yX1_works wsX1_works) := goodIn_app (goodIn_of _ (by decide +kernel)) ggX1_mount_X1_works
theorem dX1_mount_0 : decode cX1_mount 0 = .ok (.aload_n 0, 1) := by decide +kernel
theorem dX1_mount_1 : decode cX1_mount 1 = .ok (.iconst 1, 1) := by decide +kernel
theorem dX1_mount_2 : decode cX1_mount 2 = .ok (.putfield 17, 3) := by decide +kernel
theorem dX1_mount_5 : decode cX1_mount 5 = .ok (.aload_n 0, 1) := by decide +kernel
theorem dX1_mount_6 : decode cX1_mount 6 = .ok (.iconst 0, 1) := by decide +kernel
theorem dX1_mount_7 : decode cX1_mount 7 = .ok (.putfield 63, 3) := by decide +kernel
theorem dX1_mount_10 : decode cX1_mount 10 = .ok (.iconst 0, 1) := by decide +kernel
theorem dX1_mount_11 : decode cX1_mount 11 = .ok (.istore_n 1, 1) := by decide +kernel
theorem dX1_mount_12 : decode cX1_mount 12 = .ok (.iload_n 1, 1) := by decide +kernel
theorem dX1_mount_13 : decode cX1_mount 13 = .ok (.bipush 20, 2) := by decide +kernel
theorem dX1_mount_15 : decode cX1_mount 15 = .ok (.if_icmp .ge 14, 3) := by decide +kernel
theorem dX1_mount_18 : decode cX1_mount 18 = .ok (.aload_n 0, 1) := by decide +kernel
theorem dX1_mount_19 : decode cX1_mount 19 = .ok (.iload_n 1, 1) := by decide +kernel
theorem dX1_mount_20 : decode cX1_mount 20 = .ok (.invokevirtual 120, 3) := by decide +kernel
theorem dX1_mount_23 : decode cX1_mount 23 = .ok (.iinc 1 1, 3) := by decide +kernel
theorem dX1_mount_26 : decode cX1_mount 26 = .ok (.goto (-14), 3) := by decide +kernel
theorem dX1_mount_29 : decode cX1_mount 29 = .ok (.iconst 1, 1) := by decide +kernel
theorem dX1_mount_30 : decode cX1_mount 30 = .ok (.istore_n 1, 1) := by decide +kernel
theorem dX1_mount_31 : decode cX1_mount 31 = .ok (.bipush 16, 2) := by decide +kernel
theorem dX1_mount_33 : decode cX1_mount 33 = .ok (.istore_n 2, 1) := by decide +kernel
theorem dX1_mount_34 : decode cX1_mount 34 = .ok (.iload_n 2, 1) := by decide +kernel
theorem dX1_mount_35 : decode cX1_mount 35 = .ok (.bipush 20, 2) := by decide +kernel
theorem dX1_mount_37 : decode cX1_mount 37 = .ok (.if_icmp .ge 52, 3) := by decide +kernel
theorem dX1_mount_40 : decode cX1_mount 40 = .ok (.iload_n 1, 1) := by decide +kernel
theorem dX1_mount_41 : decode cX1_mount 41 = .ok (.ifCond .eq 40, 3) := by decide +kernel
theorem dX1_mount_44 : decode cX1_mount 44 = .ok (.aload_n 0, 1) := by decide +kernel
theorem dX1_mount_45 : decode cX1_mount 45 = .ok (.getfield 34, 3) := by decide +kernel
theorem dX1_mount_48 : decode cX1_mount 48 = .ok (.iload_n 2, 1) := by decide +kernel
theorem dX1_mount_49 : decode cX1_mount 49 = .ok (.laload, 1) := by decide +kernel
theorem dX1_mount_50 : decode cX1_mount 50 = .ok (.lconst 0, 1) := by decide +kernel
theorem dX1_mount_51 : decode cX1_mount 51 = .ok (.lcmp, 1) := by decide +kernel
theorem dX1_mount_52 : decode cX1_mount 52 = .ok (.ifCond .eq 29, 3) := by decide +kernel
theorem dX1_mount_55 : decode cX1_mount 55 = .ok (.aload_n 0, 1) := by decide +kernel
theorem dX1_mount_56 : decode cX1_mount 56 = .ok (.getfield 34, 3) := by decide +kernel
theorem dX1_mount_59 : decode cX1_mount 59 = .ok (.iload_n 2, 1) := by decide +kernel
theorem dX1_mount_60 : decode cX1_mount 60 = .ok (.laload, 1) := by decide +kernel
theorem dX1_mount_61 : decode cX1_mount 61 = .ok (.invokestatic 55, 3) := by decide +kernel
theorem dX1_mount_64 : decode cX1_mount 64 = .ok (.aload_n 0, 1) := by decide +kernel
theorem dX1_mount_65 : decode cX1_mount 65 = .ok (.getfield 34, 3) := by decide +kernel
theorem dX1_mount_68 : decode cX1_mount 68 = .ok (.bipush 19, 2) := by decide +kernel
theorem dX1_mount_70 : decode cX1_mount 70 = .ok (.laload, 1) := by decide +kernel
theorem dX1_mount_71 : decode cX1_mount 71 = .ok (.invokestatic 55, 3) := by decide +kernel
theorem dX1_mount_74 : decode cX1_mount 74 = .ok (.if_icmp .ne 7, 3) := by decide +kernel
theorem dX1_mount_77 : decode cX1_mount 77 = .ok (.iconst 1, 1) := by decide +kernel
theorem dX1_mount_78 : decode cX1_mount 78 = .ok (.goto 4, 3) := by decide +kernel
theorem dX1_mount_81 : decode cX1_mount 81 = .ok (.iconst 0, 1) := by decide +kernel
theorem dX1_mount_82 : decode cX1_mount 82 = .ok (.istore_n 1, 1) := by decide +kernel
theorem dX1_mount_83 : decode cX1_mount 83 = .ok (.iinc 2 1, 3) := by decide +kernel
theorem dX1_mount_86 : decode cX1_mount 86 = .ok (.goto (-52), 3) := by decide +kernel
theorem dX1_mount_89 : decode cX1_mount 89 = .ok (.aload_n 0, 1) := by decide +kernel
theorem dX1_mount_90 : decode cX1_mount 90 = .ok (.getfield 34, 3) := by decide +kernel
theorem dX1_mount_93 : decode cX1_mount 93 = .ok (.bipush 19, 2) := by decide +kernel
theorem dX1_mount_95 : decode cX1_mount 95 = .ok (.laload, 1) := by decide +kernel
theorem dX1_mount_96 : decode cX1_mount 96 = .ok (.invokestatic 100, 3) := by decide +kernel
theorem dX1_mount_99 : decode cX1_mount 99 = .ok (.istore_n 2, 1) := by decide +kernel
theorem dX1_mount_100 : decode cX1_mount 100 = .ok (.iload_n 2, 1) := by decide +kernel
theorem dX1_mount_101 : decode cX1_mount 101 = .ok (.bipush 8, 2) := by decide +kernel
theorem dX1_mount_103 : decode cX1_mount 103 = .ok (.ishr, 1) := by decide +kernel
theorem dX1_mount_104 : decode cX1_mount 104 = .ok (.sipush 255, 3) := by decide +kernel
theorem dX1_mount_107 : decode cX1_mount 107 = .ok (.iand, 1) := by decide +kernel
theorem dX1_mount_108 : decode cX1_mount 108 = .ok (.istore_n 3, 1) := by decide +kernel
theorem dX1_mount_109 : decode cX1_mount 109 = .ok (.iload_n 2, 1) := by decide +kernel
theorem dX1_mount_110 : decode cX1_mount 110 = .ok (.sipush 255, 3) := by decide +kernel
theorem dX1_mount_113 : decode cX1_mount 113 = .ok (.iand, 1) := by decide +kernel
theorem dX1_mount_114 : decode cX1_mount 114 = .ok (.istore 4, 2) := by decide +kernel
theorem dX1_mount_116 : decode cX1_mount 116 = .ok (.iload_n 1, 1) := by decide +kernel
theorem dX1_mount_117 : decode cX1_mount 117 = .ok (.ifCond .eq 83, 3) := by decide +kernel
theorem dX1_mount_120 : decode cX1_mount 120 = .ok (.iload_n 2, 1) := by decide +kernel
theorem dX1_mount_121 : decode cX1_mount 121 = .ok (.bipush 16, 2) := by decide +kernel
theorem dX1_mount_123 : decode cX1_mount 123 = .ok (.ishr, 1) := by decide +kernel
theorem dX1_mount_124 : decode cX1_mount 124 = .ok (.iconst 1, 1) := by decide +kernel
theorem dX1_mount_125 : decode cX1_mount 125 = .ok (.iand, 1) := by decide +kernel
theorem dX1_mount_126 : decode cX1_mount 126 = .ok (.iconst 1, 1) := by decide +kernel
theorem dX1_mount_127 : decode cX1_mount 127 = .ok (.if_icmp .ne 73, 3) := by decide +kernel
theorem dX1_mount_130 : decode cX1_mount 130 = .ok (.iload_n 3, 1) := by decide +kernel
theorem dX1_mount_131 : decode cX1_mount 131 = .ok (.invokestatic 76, 3) := by decide +kernel
theorem dX1_mount_134 : decode cX1_mount 134 = .ok (.ifCond .eq 66, 3) := by decide +kernel
theorem dX1_mount_137 : decode cX1_mount 137 = .ok (.iload 4, 2) := by decide +kernel
theorem dX1_mount_139 : decode cX1_mount 139 = .ok (.invokestatic 76, 3) := by decide +kernel
theorem dX1_mount_142 : decode cX1_mount 142 = .ok (.ifCond .eq 58, 3) := by decide +kernel
theorem dX1_mount_145 : decode cX1_mount 145 = .ok (.aload_n 0, 1) := by decide +kernel
theorem dX1_mount_146 : decode cX1_mount 146 = .ok (.getfield 34, 3) := by decide +kernel
theorem dX1_mount_149 : decode cX1_mount 149 = .ok (.bipush 16, 2) := by decide +kernel
theorem dX1_mount_151 : decode cX1_mount 151 = .ok (.laload, 1) := by decide +kernel
theorem dX1_mount_152 : decode cX1_mount 152 = .ok (.invokestatic 100, 3) := by decide +kernel
theorem dX1_mount_155 : decode cX1_mount 155 = .ok (.istore 5, 2) := by decide +kernel
theorem dX1_mount_157 : decode cX1_mount 157 = .ok (.aload_n 0, 1) := by decide +kernel
theorem dX1_mount_158 : decode cX1_mount 158 = .ok (.iload_n 3, 1) := by decide +kernel
theorem dX1_mount_159 : decode cX1_mount 159 = .ok (.bipush 17, 2) := by decide +kernel
theorem dX1_mount_161 : decode cX1_mount 161 = .ok (.iload 5, 2) := by decide +kernel
theorem dX1_mount_163 : decode cX1_mount 163 = .ok (.ineg, 1) := by decide +kernel
theorem dX1_mount_164 : decode cX1_mount 164 = .ok (.invokevirtual 123, 3) := by decide +kernel
theorem dX1_mount_167 : decode cX1_mount 167 = .ok (.aload_n 0, 1) := by decide +kernel
theorem dX1_mount_168 : decode cX1_mount 168 = .ok (.iload 4, 2) := by decide +kernel
theorem dX1_mount_170 : decode cX1_mount 170 = .ok (.bipush 18, 2) := by decide +kernel
theorem dX1_mount_172 : decode cX1_mount 172 = .ok (.iload 5, 2) := by decide +kernel
theorem dX1_mount_174 : decode cX1_mount 174 = .ok (.invokevirtual 123, 3) := by decide +kernel
theorem dX1_mount_177 : decode cX1_mount 177 = .ok (.aload_n 0, 1) := by decide +kernel
theorem dX1_mount_178 : decode cX1_mount 178 = .ok (.bipush 19, 2) := by decide +kernel
theorem dX1_mount_180 : decode cX1_mount 180 = .ok (.iload_n 2, 1) := by decide +kernel
theorem dX1_mount_181 : decode cX1_mount 181 = .ok (.ldc 114, 2) := by decide +kernel
theorem dX1_mount_183 : decode cX1_mount 183 = .ok (.iadd, 1) := by decide +kernel
theorem dX1_mount_184 : decode cX1_mount 184 = .ok (.aload_n 0, 1) := by decide +kernel
theorem dX1_mount_185 : decode cX1_mount 185 = .ok (.getfield 34, 3) := by decide +kernel
theorem dX1_mount_188 : decode cX1_mount 188 = .ok (.bipush 19, 2) := by decide +kernel
theorem dX1_mount_190 : decode cX1_mount 190 = .ok (.laload, 1) := by decide +kernel
theorem dX1_mount_191 : decode cX1_mount 191 = .ok (.invokestatic 55, 3) := by decide +kernel
theorem dX1_mount_194 : decode cX1_mount 194 = .ok (.invokestatic 37, 3) := by decide +kernel
theorem dX1_mount_197 : decode cX1_mount 197 = .ok (.invokevirtual 80, 3) := by decide +kernel
theorem dX1_mount_200 : decode cX1_mount 200 = .ok (.aload_n 0, 1) := by decide +kernel
theorem dX1_mount_201 : decode cX1_mount 201 = .ok (.invokevirtual 84, 3) := by decide +kernel
theorem dX1_mount_204 : decode cX1_mount 204 = .ok (.ifCond .eq 7, 3) := by decide +kernel
theorem dX1_mount_207 : decode cX1_mount 207 = .ok (.iconst 1, 1) := by decide +kernel
theorem dX1_mount_208 : decode cX1_mount 208 = .ok (.goto 5, 3) := by decide +kernel
theorem dX1_mount_211 : decode cX1_mount 211 = .ok (.bipush (-2), 2) := by decide +kernel
theorem dX1_mount_213 : decode cX1_mount 213 = .ok (.ireturn, 1) := by decide +kernel
theorem dX1_on_0 : decode cX1_on 0 = .ok (.aload_n 0, 1) := by decide +kernel
theorem dX1_on_1 : decode cX1_on 1 = .ok (.getfield 17, 3) := by decide +kernel
theorem dX1_on_4 : decode cX1_on 4 = .ok (.ireturn, 1) := by decide +kernel
theorem dX1_lost_0 : decode cX1_lost 0 = .ok (.iload_n 1, 1) := by decide +kernel
theorem dX1_lost_1 : decode cX1_lost 1 = .ok (.ifCond .lt 18, 3) := by decide +kernel
theorem dX1_lost_4 : decode cX1_lost 4 = .ok (.iload_n 1, 1) := by decide +kernel
theorem dX1_lost_5 : decode cX1_lost 5 = .ok (.bipush 20, 2) := by decide +kernel
theorem dX1_lost_7 : decode cX1_lost 7 = .ok (.if_icmp .ge 12, 3) := by decide +kernel
theorem dX1_lost_10 : decode cX1_lost 10 = .ok (.aload_n 0, 1) := by decide +kernel
theorem dX1_lost_11 : decode cX1_lost 11 = .ok (.getfield 13, 3) := by decide +kernel
theorem dX1_lost_14 : decode cX1_lost 14 = .ok (.iload_n 1, 1) := by decide +kernel
theorem dX1_lost_15 : decode cX1_lost 15 = .ok (.iaload, 1) := by decide +kernel
theorem dX1_lost_16 : decode cX1_lost 16 = .ok (.goto 4, 3) := by decide +kernel
theorem dX1_lost_19 : decode cX1_lost 19 = .ok (.iconst 0, 1) := by decide +kernel
theorem dX1_lost_20 : decode cX1_lost 20 = .ok (.ireturn, 1) := by decide +kernel
theorem dX1_word_0 : decode cX1_word 0 = .ok (.iload_n 1, 1) := by decide +kernel
theorem dX1_word_1 : decode cX1_word 1 = .ok (.ifCond .lt 32, 3) := by decide +kernel
theorem dX1_word_4 : decode cX1_word 4 = .ok (.iload_n 1, 1) := by decide +kernel
theorem dX1_word_5 : decode cX1_word 5 = .ok (.iconst 4, 1) := by decide +kernel
theorem dX1_word_6 : decode cX1_word 6 = .ok (.if_icmp .ge 27, 3) := by decide +kernel
theorem dX1_word_9 : decode cX1_word 9 = .ok (.iload_n 2, 1) := by decide +kernel
theorem dX1_word_10 : decode cX1_word 10 = .ok (.ifCond .lt 23, 3) := by decide +kernel
theorem dX1_word_13 : decode cX1_word 13 = .ok (.iload_n 2, 1) := by decide +kernel
theorem dX1_word_14 : decode cX1_word 14 = .ok (.bipush 20, 2) := by decide +kernel
theorem dX1_word_16 : decode cX1_word 16 = .ok (.if_icmp .ge 17, 3) := by decide +kernel
theorem dX1_word_19 : decode cX1_word 19 = .ok (.aload_n 0, 1) := by decide +kernel
theorem dX1_word_20 : decode cX1_word 20 = .ok (.getfield 7, 3) := by decide +kernel
theorem dX1_word_23 : decode cX1_word 23 = .ok (.bipush 20, 2) := by decide +kernel
theorem dX1_word_25 : decode cX1_word 25 = .ok (.iload_n 1, 1) := by decide +kernel
theorem dX1_word_26 : decode cX1_word 26 = .ok (.imul, 1) := by decide +kernel
theorem dX1_word_27 : decode cX1_word 27 = .ok (.iload_n 2, 1) := by decide +kernel
theorem dX1_word_28 : decode cX1_word 28 = .ok (.iadd, 1) := by decide +kernel
theorem dX1_word_29 : decode cX1_word 29 = .ok (.laload, 1) := by decide +kernel
theorem dX1_word_30 : decode cX1_word 30 = .ok (.goto 4, 3) := by decide +kernel
theorem dX1_word_33 : decode cX1_word 33 = .ok (.lconst 0, 1) := by decide +kernel
theorem dX1_word_34 : decode cX1_word 34 = .ok (.lreturn, 1) := by decide +kernel
theorem dX1_done_0 : decode cX1_done 0 = .ok (.iload_n 1, 1) := by decide +kernel
theorem dX1_done_1 : decode cX1_done 1 = .ok (.ifCond .ne 10, 3) := by decide +kernel
theorem dX1_done_4 : decode cX1_done 4 = .ok (.aload_n 0, 1) := by decide +kernel
theorem dX1_done_5 : decode cX1_done 5 = .ok (.getfield 70, 3) := by decide +kernel
theorem dX1_done_8 : decode cX1_done 8 = .ok (.goto 16, 3) := by decide +kernel
theorem dX1_done_11 : decode cX1_done 11 = .ok (.iload_n 1, 1) := by decide +kernel
theorem dX1_done_12 : decode cX1_done 12 = .ok (.iconst 1, 1) := by decide +kernel
theorem dX1_done_13 : decode cX1_done 13 = .ok (.if_icmp .ne 10, 3) := by decide +kernel
theorem dX1_done_16 : decode cX1_done 16 = .ok (.aload_n 0, 1) := by decide +kernel
theorem dX1_done_17 : decode cX1_done 17 = .ok (.getfield 73, 3) := by decide +kernel
theorem dX1_done_20 : decode cX1_done 20 = .ok (.goto 4, 3) := by decide +kernel
theorem dX1_done_23 : decode cX1_done 23 = .ok (.iconst (-1), 1) := by decide +kernel
theorem dX1_done_24 : decode cX1_done 24 = .ok (.ireturn, 1) := by decide +kernel

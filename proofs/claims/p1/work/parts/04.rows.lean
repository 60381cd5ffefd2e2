theorem dX5_init_117 : decode cX5_init 117 = .ok (.bipush 11, 2) := by decide +kernel
theorem dX5_init_119 : decode cX5_init 119 = .ok (.ldc2_w 56, 3) := by decide +kernel
theorem dX5_init_122 : decode cX5_init 122 = .ok (.lastore, 1) := by decide +kernel
theorem dX5_init_123 : decode cX5_init 123 = .ok (.putfield 58, 3) := by decide +kernel
theorem dX5_init_126 : decode cX5_init 126 = .ok (.aload_n 0, 1) := by decide +kernel
theorem dX5_init_127 : decode cX5_init 127 = .ok (.iconst 2, 1) := by decide +kernel
theorem dX5_init_128 : decode cX5_init 128 = .ok (.newarray .int, 2) := by decide +kernel
theorem dX5_init_130 : decode cX5_init 130 = .ok (.putfield 61, 3) := by decide +kernel
theorem dX5_init_133 : decode cX5_init 133 = .ok (.aload_n 0, 1) := by decide +kernel
theorem dX5_init_134 : decode cX5_init 134 = .ok (.sipush 400, 3) := by decide +kernel
theorem dX5_init_137 : decode cX5_init 137 = .ok (.newarray .int, 2) := by decide +kernel
theorem dX5_init_139 : decode cX5_init 139 = .ok (.putfield 64, 3) := by decide +kernel
theorem dX5_init_142 : decode cX5_init 142 = .ok (.aload_n 0, 1) := by decide +kernel
theorem dX5_init_143 : decode cX5_init 143 = .ok (.iconst 2, 1) := by decide +kernel
theorem dX5_init_144 : decode cX5_init 144 = .ok (.newarray .int, 2) := by decide +kernel
theorem dX5_init_146 : decode cX5_init 146 = .ok (.putfield 67, 3) := by decide +kernel
theorem dX5_init_149 : decode cX5_init 149 = .ok (.aload_n 0, 1) := by decide +kernel
theorem dX5_init_150 : decode cX5_init 150 = .ok (.bipush 60, 2) := by decide +kernel
theorem dX5_init_152 : decode cX5_init 152 = .ok (.newarray .int, 2) := by decide +kernel
theorem dX5_init_154 : decode cX5_init 154 = .ok (.putfield 70, 3) := by decide +kernel
theorem dX5_init_157 : decode cX5_init 157 = .ok (.aload_n 0, 1) := by decide +kernel
theorem dX5_init_158 : decode cX5_init 158 = .ok (.bipush 100, 2) := by decide +kernel
theorem dX5_init_160 : decode cX5_init 160 = .ok (.newarray .int, 2) := by decide +kernel
theorem dX5_init_162 : decode cX5_init 162 = .ok (.putfield 73, 3) := by decide +kernel
theorem dX5_init_165 : decode cX5_init 165 = .ok (.aload_n 0, 1) := by decide +kernel
theorem dX5_init_166 : decode cX5_init 166 = .ok (.bipush 100, 2) := by decide +kernel
theorem dX5_init_168 : decode cX5_init 168 = .ok (.newarray .boolean, 2) := by decide +kernel
theorem dX5_init_170 : decode cX5_init 170 = .ok (.putfield 76, 3) := by decide +kernel
theorem dX5_init_173 : decode cX5_init 173 = .ok (.aload_n 0, 1) := by decide +kernel
theorem dX5_init_174 : decode cX5_init 174 = .ok (.bipush 60, 2) := by decide +kernel
theorem dX5_init_176 : decode cX5_init 176 = .ok (.newarray .int, 2) := by decide +kernel
theorem dX5_init_178 : decode cX5_init 178 = .ok (.putfield 80, 3) := by decide +kernel
theorem dX5_init_181 : decode cX5_init 181 = .ok (.aload_n 0, 1) := by decide +kernel
theorem dX5_init_182 : decode cX5_init 182 = .ok (.bipush 60, 2) := by decide +kernel
theorem dX5_init_184 : decode cX5_init 184 = .ok (.newarray .int, 2) := by decide +kernel
theorem dX5_init_186 : decode cX5_init 186 = .ok (.putfield 83, 3) := by decide +kernel
theorem dX5_init_189 : decode cX5_init 189 = .ok (.aload_n 0, 1) := by decide +kernel
theorem dX5_init_190 : decode cX5_init 190 = .ok (.sipush 1220, 3) := by decide +kernel
theorem dX5_init_193 : decode cX5_init 193 = .ok (.newarray .int, 2) := by decide +kernel
theorem dX5_init_195 : decode cX5_init 195 = .ok (.putfield 86, 3) := by decide +kernel
theorem dX5_init_198 : decode cX5_init 198 = .ok (.aload_n 0, 1) := by decide +kernel
theorem dX5_init_199 : decode cX5_init 199 = .ok (.sipush 1220, 3) := by decide +kernel
theorem dX5_init_202 : decode cX5_init 202 = .ok (.newarray .int, 2) := by decide +kernel
theorem dX5_init_204 : decode cX5_init 204 = .ok (.putfield 89, 3) := by decide +kernel
theorem dX5_init_207 : decode cX5_init 207 = .ok (.aload_n 0, 1) := by decide +kernel
theorem dX5_init_208 : decode cX5_init 208 = .ok (.bipush 60, 2) := by decide +kernel
theorem dX5_init_210 : decode cX5_init 210 = .ok (.newarray .int, 2) := by decide +kernel
theorem dX5_init_212 : decode cX5_init 212 = .ok (.putfield 92, 3) := by decide +kernel
theorem dX5_init_215 : decode cX5_init 215 = .ok (.aload_n 0, 1) := by decide +kernel
theorem dX5_init_216 : decode cX5_init 216 = .ok (.bipush 60, 2) := by decide +kernel
theorem dX5_init_218 : decode cX5_init 218 = .ok (.newarray .int, 2) := by decide +kernel
theorem dX5_init_220 : decode cX5_init 220 = .ok (.putfield 95, 3) := by decide +kernel
theorem dX5_init_223 : decode cX5_init 223 = .ok (.aload_n 0, 1) := by decide +kernel
theorem dX5_init_224 : decode cX5_init 224 = .ok (.bipush 60, 2) := by decide +kernel
theorem dX5_init_226 : decode cX5_init 226 = .ok (.newarray .int, 2) := by decide +kernel
theorem dX5_init_228 : decode cX5_init 228 = .ok (.putfield 98, 3) := by decide +kernel
theorem dX5_init_231 : decode cX5_init 231 = .ok (.aload_n 0, 1) := by decide +kernel
theorem dX5_init_232 : decode cX5_init 232 = .ok (.bipush 20, 2) := by decide +kernel
theorem dX5_init_234 : decode cX5_init 234 = .ok (.newarray .boolean, 2) := by decide +kernel
theorem dX5_init_236 : decode cX5_init 236 = .ok (.putfield 101, 3) := by decide +kernel
theorem dX5_init_239 : decode cX5_init 239 = .ok (.aload_n 0, 1) := by decide +kernel
theorem dX5_init_240 : decode cX5_init 240 = .ok (.bipush 60, 2) := by decide +kernel
theorem dX5_init_242 : decode cX5_init 242 = .ok (.newarray .int, 2) := by decide +kernel
theorem dX5_init_244 : decode cX5_init 244 = .ok (.putfield 104, 3) := by decide +kernel
theorem dX5_init_247 : decode cX5_init 247 = .ok (.aload_n 0, 1) := by decide +kernel
theorem dX5_init_248 : decode cX5_init 248 = .ok (.bipush 60, 2) := by decide +kernel
theorem dX5_init_250 : decode cX5_init 250 = .ok (.newarray .int, 2) := by decide +kernel
theorem dX5_init_252 : decode cX5_init 252 = .ok (.putfield 107, 3) := by decide +kernel
theorem dX5_init_255 : decode cX5_init 255 = .ok (.iconst 1, 1) := by decide +kernel
theorem dX5_init_256 : decode cX5_init 256 = .ok (.istore_n 1, 1) := by decide +kernel
theorem dX5_init_257 : decode cX5_init 257 = .ok (.iload_n 1, 1) := by decide +kernel
theorem dX5_init_258 : decode cX5_init 258 = .ok (.bipush 100, 2) := by decide +kernel
theorem dX5_init_260 : decode cX5_init 260 = .ok (.if_icmp .ge 16, 3) := by decide +kernel
theorem dX5_init_263 : decode cX5_init 263 = .ok (.aload_n 0, 1) := by decide +kernel
theorem dX5_init_264 : decode cX5_init 264 = .ok (.getfield 73, 3) := by decide +kernel
theorem dX5_init_267 : decode cX5_init 267 = .ok (.iload_n 1, 1) := by decide +kernel
theorem dX5_init_268 : decode cX5_init 268 = .ok (.iconst 1, 1) := by decide +kernel
theorem dX5_init_269 : decode cX5_init 269 = .ok (.iastore, 1) := by decide +kernel
theorem dX5_init_270 : decode cX5_init 270 = .ok (.iinc 1 1, 3) := by decide +kernel
theorem dX5_init_273 : decode cX5_init 273 = .ok (.goto (-16), 3) := by decide +kernel
theorem dX5_init_276 : decode cX5_init 276 = .ok (.return_, 1) := by decide +kernel
theorem dX5_cutAll_0 : decode cX5_cutAll 0 = .ok (.aload_n 0, 1) := by decide +kernel
theorem dX5_cutAll_1 : decode cX5_cutAll 1 = .ok (.aload_n 0, 1) := by decide +kernel
theorem dX5_cutAll_2 : decode cX5_cutAll 2 = .ok (.getfield 11, 3) := by decide +kernel
theorem dX5_cutAll_5 : decode cX5_cutAll 5 = .ok (.putfield 114, 3) := by decide +kernel
theorem dX5_cutAll_8 : decode cX5_cutAll 8 = .ok (.aload_n 0, 1) := by decide +kernel
theorem dX5_cutAll_9 : decode cX5_cutAll 9 = .ok (.iconst 0, 1) := by decide +kernel
theorem dX5_cutAll_10 : decode cX5_cutAll 10 = .ok (.putfield 11, 3) := by decide +kernel
theorem dX5_cutAll_13 : decode cX5_cutAll 13 = .ok (.iconst 0, 1) := by decide +kernel
theorem dX5_cutAll_14 : decode cX5_cutAll 14 = .ok (.istore_n 1, 1) := by decide +kernel
theorem dX5_cutAll_15 : decode cX5_cutAll 15 = .ok (.iconst 0, 1) := by decide +kernel
theorem dX5_cutAll_16 : decode cX5_cutAll 16 = .ok (.istore_n 2, 1) := by decide +kernel
theorem dX5_cutAll_17 : decode cX5_cutAll 17 = .ok (.iload_n 2, 1) := by decide +kernel
theorem dX5_cutAll_18 : decode cX5_cutAll 18 = .ok (.aload_n 0, 1) := by decide +kernel
theorem dX5_cutAll_19 : decode cX5_cutAll 19 = .ok (.getfield 114, 3) := by decide +kernel
theorem dX5_cutAll_22 : decode cX5_cutAll 22 = .ok (.if_icmp .ge 257, 3) := by decide +kernel
theorem dX5_cutAll_279 : decode cX5_cutAll 279 = .ok (.aload_n 0, 1) := by decide +kernel
theorem dX5_cutAll_280 : decode cX5_cutAll 280 = .ok (.getfield 24, 3) := by decide +kernel
theorem dX5_cutAll_283 : decode cX5_cutAll 283 = .ok (.iload_n 1, 1) := by decide +kernel
theorem dX5_cutAll_284 : decode cX5_cutAll 284 = .ok (.iconst 0, 1) := by decide +kernel
theorem dX5_cutAll_285 : decode cX5_cutAll 285 = .ok (.iastore, 1) := by decide +kernel
theorem dX5_cutAll_286 : decode cX5_cutAll 286 = .ok (.aload_n 0, 1) := by decide +kernel
theorem dX5_cutAll_287 : decode cX5_cutAll 287 = .ok (.getfield 27, 3) := by decide +kernel
theorem dX5_cutAll_290 : decode cX5_cutAll 290 = .ok (.iload_n 1, 1) := by decide +kernel
theorem dX5_cutAll_291 : decode cX5_cutAll 291 = .ok (.aload_n 0, 1) := by decide +kernel
theorem dX5_cutAll_292 : decode cX5_cutAll 292 = .ok (.getfield 114, 3) := by decide +kernel
theorem dX5_cutAll_295 : decode cX5_cutAll 295 = .ok (.iastore, 1) := by decide +kernel
theorem dX5_cutAll_296 : decode cX5_cutAll 296 = .ok (.aload_n 0, 1) := by decide +kernel
theorem dX5_cutAll_297 : decode cX5_cutAll 297 = .ok (.iconst 0, 1) := by decide +kernel
theorem dX5_cutAll_298 : decode cX5_cutAll 298 = .ok (.putfield 133, 3) := by decide +kernel
theorem dX5_cutAll_301 : decode cX5_cutAll 301 = .ok (.aload_n 0, 1) := by decide +kernel
theorem dX5_cutAll_302 : decode cX5_cutAll 302 = .ok (.iconst 0, 1) := by decide +kernel
theorem dX5_cutAll_303 : decode cX5_cutAll 303 = .ok (.putfield 136, 3) := by decide +kernel
theorem dX5_cutAll_306 : decode cX5_cutAll 306 = .ok (.return_, 1) := by decide +kernel
set_option maxRecDepth 20000 in
theorem ggX5_grammar_X5_cutAll : GoodIn wsX5_grammar wsX5_cutAll := goodIn_r _ [13, 14, 15, 16, 17, 18, 7, 19, 20, 21, 8, 6, 22, 23, 12, 24, 25, 26, 27, 28, 29, 30, 31, 32, 33, 77, 78, 79, 80, 81, 82, 83, 84, 85, 86, 87, 88, 89, 90, 91, 92, 93, 94, 95, 96, 97, 98, 99, 100, 101, 102, 103, 104, 105, 106] (by decide +kernel) (by decide +kernel)
set_option maxRecDepth 20000 in
theorem gX5_grammar_X5_cutAll : GoodIn wsX5_grammar (wsV RX5 152 RX5 yX5_cutAll wsX5_cutAll) := goodIn_app (goodIn_of _ (by decide +kernel)) ggX5_grammar_X5_cutAll
theorem dX5_grammar_0 : decode cX5_grammar 0 = .ok (.aload_n 0, 1) := by decide +kernel
theorem dX5_grammar_1 : decode cX5_grammar 1 = .ok (.iconst 0, 1) := by decide +kernel
theorem dX5_grammar_2 : decode cX5_grammar 2 = .ok (.putfield 1, 3) := by decide +kernel
theorem dX5_grammar_5 : decode cX5_grammar 5 = .ok (.aload_n 0, 1) := by decide +kernel
theorem dX5_grammar_6 : decode cX5_grammar 6 = .ok (.invokevirtual 152, 3) := by decide +kernel
theorem dX5_grammar_9 : decode cX5_grammar 9 = .ok (.aload_n 0, 1) := by decide +kernel
theorem dX5_grammar_10 : decode cX5_grammar 10 = .ok (.iconst 1, 1) := by decide +kernel
theorem dX5_grammar_11 : decode cX5_grammar 11 = .ok (.aload_n 0, 1) := by decide +kernel
theorem dX5_grammar_12 : decode cX5_grammar 12 = .ok (.getfield 155, 3) := by decide +kernel
theorem dX5_grammar_15 : decode cX5_grammar 15 = .ok (.isub, 1) := by decide +kernel
theorem dX5_grammar_16 : decode cX5_grammar 16 = .ok (.putfield 158, 3) := by decide +kernel
theorem dX5_grammar_19 : decode cX5_grammar 19 = .ok (.aload_n 0, 1) := by decide +kernel
theorem dX5_grammar_20 : decode cX5_grammar 20 = .ok (.getfield 61, 3) := by decide +kernel
theorem dX5_grammar_23 : decode cX5_grammar 23 = .ok (.aload_n 0, 1) := by decide +kernel
theorem dX5_grammar_24 : decode cX5_grammar 24 = .ok (.getfield 158, 3) := by decide +kernel
theorem dX5_grammar_27 : decode cX5_grammar 27 = .ok (.iconst 0, 1) := by decide +kernel
theorem dX5_grammar_28 : decode cX5_grammar 28 = .ok (.iastore, 1) := by decide +kernel
theorem dX5_grammar_29 : decode cX5_grammar 29 = .ok (.aload_n 0, 1) := by decide +kernel
theorem dX5_grammar_30 : decode cX5_grammar 30 = .ok (.getfield 67, 3) := by decide +kernel
theorem dX5_grammar_33 : decode cX5_grammar 33 = .ok (.aload_n 0, 1) := by decide +kernel
theorem dX5_grammar_34 : decode cX5_grammar 34 = .ok (.getfield 158, 3) := by decide +kernel
theorem dX5_grammar_37 : decode cX5_grammar 37 = .ok (.iconst 0, 1) := by decide +kernel
theorem dX5_grammar_38 : decode cX5_grammar 38 = .ok (.iastore, 1) := by decide +kernel
theorem dX5_grammar_39 : decode cX5_grammar 39 = .ok (.aload_n 0, 1) := by decide +kernel
theorem dX5_grammar_40 : decode cX5_grammar 40 = .ok (.getfield 136, 3) := by decide +kernel
theorem dX5_grammar_43 : decode cX5_grammar 43 = .ok (.ifCond .ne 54, 3) := by decide +kernel
theorem dX5_grammar_46 : decode cX5_grammar 46 = .ok (.aload_n 0, 1) := by decide +kernel
theorem dX5_grammar_47 : decode cX5_grammar 47 = .ok (.getfield 24, 3) := by decide +kernel
theorem dX5_grammar_50 : decode cX5_grammar 50 = .ok (.aload_n 0, 1) := by decide +kernel
theorem dX5_grammar_51 : decode cX5_grammar 51 = .ok (.getfield 133, 3) := by decide +kernel
theorem dX5_grammar_54 : decode cX5_grammar 54 = .ok (.iaload, 1) := by decide +kernel
theorem dX5_grammar_55 : decode cX5_grammar 55 = .ok (.ifCond .eq 42, 3) := by decide +kernel
theorem dX5_grammar_97 : decode cX5_grammar 97 = .ok (.aload_n 0, 1) := by decide +kernel
theorem dX5_grammar_98 : decode cX5_grammar 98 = .ok (.getfield 136, 3) := by decide +kernel
theorem dX5_grammar_101 : decode cX5_grammar 101 = .ok (.ifCond .ne 11, 3) := by decide +kernel
theorem dX5_grammar_104 : decode cX5_grammar 104 = .ok (.aload_n 0, 1) := by decide +kernel
theorem dX5_grammar_105 : decode cX5_grammar 105 = .ok (.aload_n 0, 1) := by decide +kernel
theorem dX5_grammar_106 : decode cX5_grammar 106 = .ok (.getfield 158, 3) := by decide +kernel
theorem dX5_grammar_109 : decode cX5_grammar 109 = .ok (.putfield 155, 3) := by decide +kernel
theorem dX5_grammar_112 : decode cX5_grammar 112 = .ok (.aload_n 0, 1) := by decide +kernel
theorem dX5_grammar_113 : decode cX5_grammar 113 = .ok (.getfield 136, 3) := by decide +kernel
theorem dX5_grammar_116 : decode cX5_grammar 116 = .ok (.ireturn, 1) := by decide +kernel
theorem dX5_go_0 : decode cX5_go 0 = .ok (.aload_n 0, 1) := by decide +kernel
theorem dX5_go_1 : decode cX5_go 1 = .ok (.iconst 0, 1) := by decide +kernel
theorem dX5_go_2 : decode cX5_go 2 = .ok (.putfield 1, 3) := by decide +kernel
theorem dX5_go_5 : decode cX5_go 5 = .ok (.iload_n 1, 1) := by decide +kernel
theorem dX5_go_6 : decode cX5_go 6 = .ok (.ifCond .lt 25, 3) := by decide +kernel
theorem dX5_go_9 : decode cX5_go 9 = .ok (.iload_n 1, 1) := by decide +kernel
theorem dX5_go_10 : decode cX5_go 10 = .ok (.aload_n 0, 1) := by decide +kernel
theorem dX5_go_11 : decode cX5_go 11 = .ok (.getfield 61, 3) := by decide +kernel
theorem dX5_go_14 : decode cX5_go 14 = .ok (.aload_n 0, 1) := by decide +kernel
theorem dX5_go_15 : decode cX5_go 15 = .ok (.getfield 155, 3) := by decide +kernel
theorem dX5_go_18 : decode cX5_go 18 = .ok (.iaload, 1) := by decide +kernel
theorem dX5_go_19 : decode cX5_go 19 = .ok (.if_icmp .ge 12, 3) := by decide +kernel
theorem dX5_go_31 : decode cX5_go 31 = .ok (.iconst (-1), 1) := by decide +kernel
theorem dX5_go_32 : decode cX5_go 32 = .ok (.goto 9, 3) := by decide +kernel
theorem dX5_go_41 : decode cX5_go 41 = .ok (.ireturn, 1) := by decide +kernel
theorem dX5_isOne_0 : decode cX5_isOne 0 = .ok (.iload_n 0, 1) := by decide +kernel
theorem dX5_isOne_1 : decode cX5_isOne 1 = .ok (.iconst 1, 1) := by decide +kernel
theorem dX5_isOne_2 : decode cX5_isOne 2 = .ok (.if_icmp .lt 13, 3) := by decide +kernel
theorem dX5_isOne_5 : decode cX5_isOne 5 = .ok (.iload_n 0, 1) := by decide +kernel
theorem dX5_isOne_6 : decode cX5_isOne 6 = .ok (.bipush 99, 2) := by decide +kernel
theorem dX5_isOne_8 : decode cX5_isOne 8 = .ok (.if_icmp .gt 7, 3) := by decide +kernel
theorem dX5_isOne_11 : decode cX5_isOne 11 = .ok (.iconst 1, 1) := by decide +kernel
theorem dX5_isOne_12 : decode cX5_isOne 12 = .ok (.goto 4, 3) := by decide +kernel
theorem dX5_isOne_15 : decode cX5_isOne 15 = .ok (.iconst 0, 1) := by decide +kernel
theorem dX5_isOne_16 : decode cX5_isOne 16 = .ok (.ireturn, 1) := by decide +kernel
set_option maxRecDepth 20000 in
theorem ggX5_kinds_X5_isOne : GoodIn wsX5_kinds wsX5_isOne := goodIn_r _ [6] (by decide +kernel) (by decide +kernel)
set_option maxRecDepth 20000 in
theorem gX5_kinds_X5_isOne : GoodIn wsX5_kinds (va_wsS RX5 183 yX5_isOne wsX5_isOne) := goodIn_app (goodIn_of _ (by decide +kernel)) ggX5_kinds_X5_isOne
theorem dX5_kinds_0 : decode cX5_kinds 0 = .ok (.aload_n 0, 1) := by decide +kernel
theorem dX5_kinds_1 : decode cX5_kinds 1 = .ok (.iconst 0, 1) := by decide +kernel
theorem dX5_kinds_2 : decode cX5_kinds 2 = .ok (.putfield 1, 3) := by decide +kernel
theorem dX5_kinds_5 : decode cX5_kinds 5 = .ok (.iload_n 1, 1) := by decide +kernel
theorem dX5_kinds_6 : decode cX5_kinds 6 = .ok (.invokestatic 183, 3) := by decide +kernel
theorem dX5_kinds_9 : decode cX5_kinds 9 = .ok (.ifCond .eq 15, 3) := by decide +kernel
theorem dX5_kinds_12 : decode cX5_kinds 12 = .ok (.iload_n 2, 1) := by decide +kernel
theorem dX5_kinds_13 : decode cX5_kinds 13 = .ok (.iconst 1, 1) := by decide +kernel
theorem dX5_kinds_14 : decode cX5_kinds 14 = .ok (.if_icmp .lt 10, 3) := by decide +kernel
theorem dX5_kinds_17 : decode cX5_kinds 17 = .ok (.iload_n 2, 1) := by decide +kernel
theorem dX5_kinds_18 : decode cX5_kinds 18 = .ok (.sipush 255, 3) := by decide +kernel
theorem dX5_kinds_21 : decode cX5_kinds 21 = .ok (.if_icmp .le 5, 3) := by decide +kernel
theorem dX5_kinds_24 : decode cX5_kinds 24 = .ok (.iconst 0, 1) := by decide +kernel
theorem dX5_kinds_25 : decode cX5_kinds 25 = .ok (.ireturn, 1) := by decide +kernel
theorem dX5_kinds_26 : decode cX5_kinds 26 = .ok (.aload_n 0, 1) := by decide +kernel
theorem dX5_kinds_27 : decode cX5_kinds 27 = .ok (.getfield 73, 3) := by decide +kernel
theorem dX5_kinds_30 : decode cX5_kinds 30 = .ok (.iload_n 1, 1) := by decide +kernel
theorem dX5_kinds_31 : decode cX5_kinds 31 = .ok (.iload_n 2, 1) := by decide +kernel
theorem dX5_kinds_32 : decode cX5_kinds 32 = .ok (.iastore, 1) := by decide +kernel
theorem dX5_kinds_33 : decode cX5_kinds 33 = .ok (.iconst 1, 1) := by decide +kernel
theorem dX5_kinds_34 : decode cX5_kinds 34 = .ok (.ireturn, 1) := by decide +kernel
set_option maxRecDepth 20000 in
theorem ggX5_name_X5_isOne : GoodIn wsX5_name wsX5_isOne := goodIn_r _ [6] (by decide +kernel) (by decide +kernel)
set_option maxRecDepth 20000 in
theorem gX5_name_X5_isOne : GoodIn wsX5_name (va_wsS RX5 183 yX5_isOne wsX5_isOne) := goodIn_app (goodIn_of _ (by decide +kernel)) ggX5_name_X5_isOne
theorem dX5_name_0 : decode cX5_name 0 = .ok (.aload_n 0, 1) := by decide +kernel
theorem dX5_name_1 : decode cX5_name 1 = .ok (.iconst 0, 1) := by decide +kernel
theorem dX5_name_2 : decode cX5_name 2 = .ok (.putfield 1, 3) := by decide +kernel
theorem dX5_name_5 : decode cX5_name 5 = .ok (.iload_n 1, 1) := by decide +kernel
theorem dX5_name_6 : decode cX5_name 6 = .ok (.invokestatic 183, 3) := by decide +kernel
theorem dX5_name_9 : decode cX5_name 9 = .ok (.ifCond .ne 5, 3) := by decide +kernel
theorem dX5_name_12 : decode cX5_name 12 = .ok (.iconst 0, 1) := by decide +kernel
theorem dX5_name_13 : decode cX5_name 13 = .ok (.ireturn, 1) := by decide +kernel
theorem dX5_name_14 : decode cX5_name 14 = .ok (.aload_n 0, 1) := by decide +kernel
theorem dX5_name_15 : decode cX5_name 15 = .ok (.getfield 76, 3) := by decide +kernel
theorem dX5_name_18 : decode cX5_name 18 = .ok (.iload_n 1, 1) := by decide +kernel
theorem dX5_name_19 : decode cX5_name 19 = .ok (.iload_n 2, 1) := by decide +kernel
theorem dX5_name_20 : decode cX5_name 20 = .ok (.bastore, 1) := by decide +kernel
theorem dX5_name_21 : decode cX5_name 21 = .ok (.iconst 1, 1) := by decide +kernel
theorem dX5_name_22 : decode cX5_name 22 = .ok (.ireturn, 1) := by decide +kernel
set_option maxRecDepth 20000 in
theorem ggX5_word_X5_isOne : GoodIn wsX5_word wsX5_isOne := goodIn_r _ [8] (by decide +kernel) (by decide +kernel)
set_option maxRecDepth 20000 in
theorem gX5_word_X5_isOne : GoodIn wsX5_word (va_wsS RX5 183 yX5_isOne wsX5_isOne) := goodIn_app (goodIn_of _ (by decide +kernel)) ggX5_word_X5_isOne
theorem dX5_word_0 : decode cX5_word 0 = .ok (.aload_n 0, 1) := by decide +kernel
theorem dX5_word_1 : decode cX5_word 1 = .ok (.iconst 0, 1) := by decide +kernel
theorem dX5_word_2 : decode cX5_word 2 = .ok (.putfield 1, 3) := by decide +kernel
theorem dX5_word_5 : decode cX5_word 5 = .ok (.iload_n 1, 1) := by decide +kernel
theorem dX5_word_6 : decode cX5_word 6 = .ok (.invokestatic 183, 3) := by decide +kernel
theorem dX5_word_9 : decode cX5_word 9 = .ok (.ifCond .eq 12, 3) := by decide +kernel
theorem dX5_word_12 : decode cX5_word 12 = .ok (.aload_n 0, 1) := by decide +kernel
theorem dX5_word_13 : decode cX5_word 13 = .ok (.getfield 186, 3) := by decide +kernel
theorem dX5_word_16 : decode cX5_word 16 = .ok (.bipush 60, 2) := by decide +kernel
theorem dX5_word_18 : decode cX5_word 18 = .ok (.if_icmp .ne 5, 3) := by decide +kernel
theorem dX5_word_21 : decode cX5_word 21 = .ok (.iconst (-1), 1) := by decide +kernel
theorem dX5_word_22 : decode cX5_word 22 = .ok (.ireturn, 1) := by decide +kernel
theorem dX5_word_23 : decode cX5_word 23 = .ok (.aload_n 0, 1) := by decide +kernel
theorem dX5_word_24 : decode cX5_word 24 = .ok (.getfield 80, 3) := by decide +kernel
theorem dX5_word_27 : decode cX5_word 27 = .ok (.aload_n 0, 1) := by decide +kernel
theorem dX5_word_28 : decode cX5_word 28 = .ok (.getfield 186, 3) := by decide +kernel
theorem dX5_word_31 : decode cX5_word 31 = .ok (.iload_n 1, 1) := by decide +kernel
theorem dX5_word_32 : decode cX5_word 32 = .ok (.iastore, 1) := by decide +kernel
theorem dX5_word_33 : decode cX5_word 33 = .ok (.aload_n 0, 1) := by decide +kernel
theorem dX5_word_34 : decode cX5_word 34 = .ok (.getfield 83, 3) := by decide +kernel
theorem dX5_word_37 : decode cX5_word 37 = .ok (.aload_n 0, 1) := by decide +kernel
theorem dX5_word_38 : decode cX5_word 38 = .ok (.getfield 186, 3) := by decide +kernel
theorem dX5_word_41 : decode cX5_word 41 = .ok (.iconst (-1), 1) := by decide +kernel
theorem dX5_word_42 : decode cX5_word 42 = .ok (.iastore, 1) := by decide +kernel
theorem dX5_word_43 : decode cX5_word 43 = .ok (.aload_n 0, 1) := by decide +kernel
theorem dX5_word_44 : decode cX5_word 44 = .ok (.dup, 1) := by decide +kernel
theorem dX5_word_45 : decode cX5_word 45 = .ok (.getfield 186, 3) := by decide +kernel
theorem dX5_word_48 : decode cX5_word 48 = .ok (.iconst 1, 1) := by decide +kernel
theorem dX5_word_49 : decode cX5_word 49 = .ok (.iadd, 1) := by decide +kernel
theorem dX5_word_50 : decode cX5_word 50 = .ok (.putfield 186, 3) := by decide +kernel
theorem dX5_word_53 : decode cX5_word 53 = .ok (.aload_n 0, 1) := by decide +kernel
theorem dX5_word_54 : decode cX5_word 54 = .ok (.getfield 186, 3) := by decide +kernel
theorem dX5_word_57 : decode cX5_word 57 = .ok (.ireturn, 1) := by decide +kernel
theorem dX5_drop_0 : decode cX5_drop 0 = .ok (.aload_n 0, 1) := by decide +kernel
theorem dX5_drop_1 : decode cX5_drop 1 = .ok (.iconst 0, 1) := by decide +kernel
theorem dX5_drop_2 : decode cX5_drop 2 = .ok (.putfield 1, 3) := by decide +kernel
theorem dX5_drop_5 : decode cX5_drop 5 = .ok (.aload_n 0, 1) := by decide +kernel
theorem dX5_drop_6 : decode cX5_drop 6 = .ok (.getfield 186, 3) := by decide +kernel
theorem dX5_drop_9 : decode cX5_drop 9 = .ok (.ifCond .ne 5, 3) := by decide +kernel
theorem dX5_drop_12 : decode cX5_drop 12 = .ok (.iconst (-1), 1) := by decide +kernel
theorem dX5_drop_13 : decode cX5_drop 13 = .ok (.ireturn, 1) := by decide +kernel
theorem dX5_hand_0 : decode cX5_hand 0 = .ok (.aload_n 0, 1) := by decide +kernel
theorem dX5_hand_1 : decode cX5_hand 1 = .ok (.iconst 0, 1) := by decide +kernel
theorem dX5_hand_2 : decode cX5_hand 2 = .ok (.putfield 1, 3) := by decide +kernel
theorem dX5_hand_5 : decode cX5_hand 5 = .ok (.iload_n 1, 1) := by decide +kernel
theorem dX5_hand_6 : decode cX5_hand 6 = .ok (.ifCond .lt 31, 3) := by decide +kernel
theorem dX5_hand_9 : decode cX5_hand 9 = .ok (.iload_n 1, 1) := by decide +kernel
theorem dX5_hand_10 : decode cX5_hand 10 = .ok (.aload_n 0, 1) := by decide +kernel
theorem dX5_hand_11 : decode cX5_hand 11 = .ok (.getfield 186, 3) := by decide +kernel
theorem dX5_hand_14 : decode cX5_hand 14 = .ok (.if_icmp .ge 23, 3) := by decide +kernel
theorem dX5_hand_37 : decode cX5_hand 37 = .ok (.iconst 0, 1) := by decide +kernel
theorem dX5_hand_38 : decode cX5_hand 38 = .ok (.ireturn, 1) := by decide +kernel
theorem dX5_laysOut_0 : decode cX5_laysOut 0 = .ok (.aload_n 0, 1) := by decide +kernel
theorem dX5_laysOut_1 : decode cX5_laysOut 1 = .ok (.getfield 186, 3) := by decide +kernel
theorem dX5_laysOut_4 : decode cX5_laysOut 4 = .ok (.iconst 1, 1) := by decide +kernel
theorem dX5_laysOut_5 : decode cX5_laysOut 5 = .ok (.isub, 1) := by decide +kernel
theorem dX5_laysOut_6 : decode cX5_laysOut 6 = .ok (.istore_n 1, 1) := by decide +kernel
theorem dX5_laysOut_7 : decode cX5_laysOut 7 = .ok (.iload_n 1, 1) := by decide +kernel
theorem dX5_laysOut_8 : decode cX5_laysOut 8 = .ok (.ifCond .lt 131, 3) := by decide +kernel
theorem dX5_laysOut_139 : decode cX5_laysOut 139 = .ok (.return_, 1) := by decide +kernel
set_option maxRecDepth 20000 in
theorem ggX5_laysOutEnds_X5_laysOut : GoodIn wsX5_laysOutEnds wsX5_laysOut := goodIn_r _ [20, 1, 2, 3, 4, 5, 6, 21, 22, 23, 24, 10, 25, 26, 27, 28, 29, 30, 31, 32, 33, 7, 8, 9, 11, 12, 34, 35, 36, 37, 38, 39, 40, 41, 13, 14, 15, 16, 42, 43, 44, 45, 46, 47, 48, 49, 50, 51, 52, 53, 54, 55, 56, 57, 58, 59, 60, 61, 62, 63, 64, 65, 66, 67, 68, 69, 70, 71] (by decide +kernel) (by decide +kernel)
set_option maxRecDepth 20000 in
theorem gX5_laysOutEnds_X5_laysOut : GoodIn wsX5_laysOutEnds (wsV RX5 208 RX5 yX5_laysOut wsX5_laysOut) := goodIn_app (goodIn_of _ (by decide +kernel)) ggX5_laysOutEnds_X5_laysOut
theorem dX5_laysOutEnds_0 : decode cX5_laysOutEnds 0 = .ok (.iconst 0, 1) := by decide +kernel
theorem dX5_laysOutEnds_1 : decode cX5_laysOutEnds 1 = .ok (.istore_n 1, 1) := by decide +kernel
theorem dX5_laysOutEnds_2 : decode cX5_laysOutEnds 2 = .ok (.iload_n 1, 1) := by decide +kernel
theorem dX5_laysOutEnds_3 : decode cX5_laysOutEnds 3 = .ok (.bipush 20, 2) := by decide +kernel
theorem dX5_laysOutEnds_5 : decode cX5_laysOutEnds 5 = .ok (.if_icmp .ge 83, 3) := by decide +kernel
theorem dX5_laysOutEnds_8 : decode cX5_laysOutEnds 8 = .ok (.bipush 20, 2) := by decide +kernel
theorem dX5_laysOutEnds_10 : decode cX5_laysOutEnds 10 = .ok (.aload_n 0, 1) := by decide +kernel
theorem dX5_laysOutEnds_11 : decode cX5_laysOutEnds 11 = .ok (.getfield 186, 3) := by decide +kernel
theorem dX5_laysOutEnds_14 : decode cX5_laysOutEnds 14 = .ok (.imul, 1) := by decide +kernel
theorem dX5_laysOutEnds_15 : decode cX5_laysOutEnds 15 = .ok (.iload_n 1, 1) := by decide +kernel
theorem dX5_laysOutEnds_16 : decode cX5_laysOutEnds 16 = .ok (.iadd, 1) := by decide +kernel
theorem dX5_laysOutEnds_17 : decode cX5_laysOutEnds 17 = .ok (.istore_n 2, 1) := by decide +kernel
theorem dX5_laysOutEnds_18 : decode cX5_laysOutEnds 18 = .ok (.aload_n 0, 1) := by decide +kernel
theorem dX5_laysOutEnds_19 : decode cX5_laysOutEnds 19 = .ok (.getfield 86, 3) := by decide +kernel
theorem dX5_laysOutEnds_22 : decode cX5_laysOutEnds 22 = .ok (.iload_n 2, 1) := by decide +kernel
theorem dX5_laysOutEnds_23 : decode cX5_laysOutEnds 23 = .ok (.ldc 192, 2) := by decide +kernel
theorem dX5_laysOutEnds_25 : decode cX5_laysOutEnds 25 = .ok (.iastore, 1) := by decide +kernel
theorem dX5_laysOutEnds_26 : decode cX5_laysOutEnds 26 = .ok (.aload_n 0, 1) := by decide +kernel
theorem dX5_laysOutEnds_27 : decode cX5_laysOutEnds 27 = .ok (.getfield 89, 3) := by decide +kernel
theorem dX5_laysOutEnds_30 : decode cX5_laysOutEnds 30 = .ok (.iload_n 2, 1) := by decide +kernel
theorem dX5_laysOutEnds_31 : decode cX5_laysOutEnds 31 = .ok (.ldc 192, 2) := by decide +kernel
theorem dX5_laysOutEnds_33 : decode cX5_laysOutEnds 33 = .ok (.iastore, 1) := by decide +kernel
theorem dX5_laysOutEnds_34 : decode cX5_laysOutEnds 34 = .ok (.iconst 0, 1) := by decide +kernel
theorem dX5_laysOutEnds_35 : decode cX5_laysOutEnds 35 = .ok (.istore_n 3, 1) := by decide +kernel
theorem dX5_laysOutEnds_36 : decode cX5_laysOutEnds 36 = .ok (.iload_n 3, 1) := by decide +kernel
theorem dX5_laysOutEnds_37 : decode cX5_laysOutEnds 37 = .ok (.aload_n 0, 1) := by decide +kernel
theorem dX5_laysOutEnds_38 : decode cX5_laysOutEnds 38 = .ok (.getfield 67, 3) := by decide +kernel
theorem dX5_laysOutEnds_41 : decode cX5_laysOutEnds 41 = .ok (.aload_n 0, 1) := by decide +kernel
theorem dX5_laysOutEnds_42 : decode cX5_laysOutEnds 42 = .ok (.getfield 155, 3) := by decide +kernel
theorem dX5_laysOutEnds_45 : decode cX5_laysOutEnds 45 = .ok (.iaload, 1) := by decide +kernel
theorem dX5_laysOutEnds_46 : decode cX5_laysOutEnds 46 = .ok (.if_icmp .ge 36, 3) := by decide +kernel
theorem dX5_laysOutEnds_82 : decode cX5_laysOutEnds 82 = .ok (.iinc 1 1, 3) := by decide +kernel
theorem dX5_laysOutEnds_85 : decode cX5_laysOutEnds 85 = .ok (.goto (-83), 3) := by decide +kernel
theorem dX5_laysOutEnds_88 : decode cX5_laysOutEnds 88 = .ok (.aload_n 0, 1) := by decide +kernel
theorem dX5_laysOutEnds_89 : decode cX5_laysOutEnds 89 = .ok (.invokevirtual 208, 3) := by decide +kernel
theorem dX5_laysOutEnds_92 : decode cX5_laysOutEnds 92 = .ok (.return_, 1) := by decide +kernel
set_option maxRecDepth 20000 in
theorem ggX5_parts_X5_laysOutEnds : GoodIn wsX5_parts wsX5_laysOutEnds := goodIn_r _ [11, 1, 6, 12, 13, 3, 4, 14, 15, 16, 10, 17, 18, 19, 20, 21, 22, 23, 24, 25, 26, 27, 28, 29, 30, 31, 32, 33, 34, 35, 36, 37, 38, 39, 40, 41, 42, 43, 44, 45, 46, 47, 54, 55, 56, 57, 58, 59, 60, 61, 62, 63, 64, 65, 66, 67, 68, 69, 70, 71, 72, 73, 74, 75, 76, 77, 78, 79, 80, 81, 82, 83] (by decide +kernel) (by decide +kernel)
set_option maxRecDepth 20000 in
theorem gX5_parts_X5_laysOutEnds : GoodIn wsX5_parts (wsV RX5 211 RX5 yX5_laysOutEnds wsX5_laysOutEnds) := goodIn_app (goodIn_of _ (by decide +kernel)) ggX5_parts_X5_laysOutEnds
theorem dX5_parts_0 : decode cX5_parts 0 = .ok (.aload_n 0, 1) := by decide +kernel
theorem dX5_parts_1 : decode cX5_parts 1 = .ok (.invokevirtual 211, 3) := by decide +kernel
theorem dX5_parts_4 : decode cX5_parts 4 = .ok (.aload_n 0, 1) := by decide +kernel
theorem dX5_parts_5 : decode cX5_parts 5 = .ok (.getfield 186, 3) := by decide +kernel
theorem dX5_parts_8 : decode cX5_parts 8 = .ok (.ifCond .le 14, 3) := by decide +kernel
theorem dX5_parts_22 : decode cX5_parts 22 = .ok (.iconst 0, 1) := by decide +kernel
theorem dX5_parts_23 : decode cX5_parts 23 = .ok (.istore_n 1, 1) := by decide +kernel
theorem dX5_parts_24 : decode cX5_parts 24 = .ok (.aload_n 0, 1) := by decide +kernel
theorem dX5_parts_25 : decode cX5_parts 25 = .ok (.iconst (-1), 1) := by decide +kernel
theorem dX5_parts_26 : decode cX5_parts 26 = .ok (.putfield 218, 3) := by decide +kernel
theorem dX5_parts_29 : decode cX5_parts 29 = .ok (.iconst 0, 1) := by decide +kernel
theorem dX5_parts_30 : decode cX5_parts 30 = .ok (.istore_n 2, 1) := by decide +kernel
theorem dX5_parts_31 : decode cX5_parts 31 = .ok (.iload_n 2, 1) := by decide +kernel
theorem dX5_parts_32 : decode cX5_parts 32 = .ok (.aload_n 0, 1) := by decide +kernel
theorem dX5_parts_33 : decode cX5_parts 33 = .ok (.getfield 67, 3) := by decide +kernel
theorem dX5_parts_36 : decode cX5_parts 36 = .ok (.aload_n 0, 1) := by decide +kernel
theorem dX5_parts_37 : decode cX5_parts 37 = .ok (.getfield 155, 3) := by decide +kernel
theorem dX5_parts_40 : decode cX5_parts 40 = .ok (.iaload, 1) := by decide +kernel
theorem dX5_parts_41 : decode cX5_parts 41 = .ok (.if_icmp .ge 74, 3) := by decide +kernel
theorem dX5_parts_115 : decode cX5_parts 115 = .ok (.iload_n 1, 1) := by decide +kernel
theorem dX5_parts_116 : decode cX5_parts 116 = .ok (.ireturn, 1) := by decide +kernel
set_option maxRecDepth 20000 in
theorem ggX5_cost_X5_parts : GoodIn wsX5_cost wsX5_parts := goodIn_r _ [7, 8, 9, 10, 11, 12, 2, 13, 14, 15, 6, 16, 17, 18, 19, 20, 21, 22, 23, 24, 25, 26, 27, 28, 29, 30, 31, 32, 33, 34, 35, 36, 37, 38, 39, 40, 41, 42, 43, 44, 45, 46, 47, 48, 49, 50, 51, 52, 53, 54, 55, 56, 57, 58, 59, 60, 61, 62, 63, 64, 65, 66, 67, 68, 69, 70, 71, 72, 73, 74, 75, 76, 77, 78, 79, 80, 81, 82, 83, 84, 85, 86, 87, 88] (by decide +kernel) (by decide +kernel)
set_option maxRecDepth 20000 in
theorem gX5_cost_X5_parts : GoodIn wsX5_cost (wsV RX5 221 RX5 yX5_parts wsX5_parts) := goodIn_app (goodIn_of _ (by decide +kernel)) ggX5_cost_X5_parts
theorem dX5_cost_0 : decode cX5_cost 0 = .ok (.aload_n 0, 1) := by decide +kernel
theorem dX5_cost_1 : decode cX5_cost 1 = .ok (.iconst 0, 1) := by decide +kernel
theorem dX5_cost_2 : decode cX5_cost 2 = .ok (.putfield 1, 3) := by decide +kernel
theorem dX5_cost_5 : decode cX5_cost 5 = .ok (.aload_n 0, 1) := by decide +kernel
theorem dX5_cost_6 : decode cX5_cost 6 = .ok (.invokevirtual 221, 3) := by decide +kernel
theorem dX5_cost_9 : decode cX5_cost 9 = .ok (.ifCond .eq 12, 3) := by decide +kernel
theorem dX5_cost_21 : decode cX5_cost 21 = .ok (.iconst (-1), 1) := by decide +kernel
theorem dX5_cost_22 : decode cX5_cost 22 = .ok (.ireturn, 1) := by decide +kernel
set_option maxRecDepth 20000 in
theorem ggX5_second_X5_parts : GoodIn wsX5_second wsX5_parts := goodIn_r _ [8, 9, 10, 11, 12, 13, 14, 15, 16, 17, 7, 18, 3, 2, 19, 20, 21, 22, 23, 24, 25, 26, 27, 28, 29, 30, 31, 32, 33, 34, 35, 36, 37, 38, 39, 40, 41, 42, 43, 44, 45, 46, 47, 48, 49, 50, 51, 52, 53, 54, 55, 56, 57, 58, 59, 60, 61, 62, 63, 64, 65, 66, 67, 68, 69, 70, 71, 72, 73, 74, 75, 76, 77, 78, 79, 80, 81, 82, 83, 84, 85, 86, 87, 88] (by decide +kernel) (by decide +kernel)
set_option maxRecDepth 20000 in
theorem gX5_second_X5_parts : GoodIn wsX5_second (wsV RX5 221 RX5 yX5_parts wsX5_parts) := goodIn_app (goodIn_of _ (by decide +kernel)) ggX5_second_X5_parts
theorem dX5_second_0 : decode cX5_second 0 = .ok (.aload_n 0, 1) := by decide +kernel
theorem dX5_second_1 : decode cX5_second 1 = .ok (.iconst 0, 1) := by decide +kernel
theorem dX5_second_2 : decode cX5_second 2 = .ok (.putfield 1, 3) := by decide +kernel
theorem dX5_second_5 : decode cX5_second 5 = .ok (.aload_n 0, 1) := by decide +kernel
theorem dX5_second_6 : decode cX5_second 6 = .ok (.invokevirtual 221, 3) := by decide +kernel
theorem dX5_second_9 : decode cX5_second 9 = .ok (.ifCond .eq 23, 3) := by decide +kernel
theorem dX5_second_32 : decode cX5_second 32 = .ok (.iconst (-1), 1) := by decide +kernel
theorem dX5_second_33 : decode cX5_second 33 = .ok (.ireturn, 1) := by decide +kernel
theorem dX5_look_0 : decode cX5_look 0 = .ok (.aload_n 0, 1) := by decide +kernel
theorem dX5_look_1 : decode cX5_look 1 = .ok (.iload_n 1, 1) := by decide +kernel
theorem dX5_look_2 : decode cX5_look 2 = .ok (.ifCond .lt 32, 3) := by decide +kernel
theorem dX5_look_5 : decode cX5_look 5 = .ok (.iload_n 1, 1) := by decide +kernel
theorem dX5_look_6 : decode cX5_look 6 = .ok (.aload_n 0, 1) := by decide +kernel
theorem dX5_look_7 : decode cX5_look 7 = .ok (.getfield 186, 3) := by decide +kernel
theorem dX5_look_10 : decode cX5_look 10 = .ok (.if_icmp .ge 24, 3) := by decide +kernel
theorem dX5_look_34 : decode cX5_look 34 = .ok (.iconst 1, 1) := by decide +kernel
theorem dX5_look_35 : decode cX5_look 35 = .ok (.putfield 1, 3) := by decide +kernel
theorem dX5_look_38 : decode cX5_look 38 = .ok (.aload_n 0, 1) := by decide +kernel
theorem dX5_look_39 : decode cX5_look 39 = .ok (.getfield 1, 3) := by decide +kernel
theorem dX5_look_42 : decode cX5_look 42 = .ok (.ifCond .le 5, 3) := by decide +kernel
theorem dX5_look_45 : decode cX5_look 45 = .ok (.iconst 0, 1) := by decide +kernel
theorem dX5_look_46 : decode cX5_look 46 = .ok (.ireturn, 1) := by decide +kernel
set_option maxRecDepth 20000 in
theorem ggX5_last_X5_parts : GoodIn wsX5_last wsX5_parts := goodIn_r _ [7, 8, 2, 9, 10, 11, 12, 13, 14, 15, 6, 16, 17, 18, 19, 20, 21, 22, 23, 24, 25, 26, 27, 28, 29, 30, 31, 32, 33, 34, 35, 36, 37, 38, 39, 40, 41, 42, 43, 44, 45, 46, 47, 48, 49, 50, 51, 52, 53, 54, 55, 56, 57, 58, 59, 60, 61, 62, 63, 64, 65, 66, 67, 68, 69, 70, 71, 72, 73, 74, 75, 76, 77, 78, 79, 80, 81, 82, 83, 84, 85, 86, 87, 88] (by decide +kernel) (by decide +kernel)
set_option maxRecDepth 20000 in
theorem gX5_last_X5_parts : GoodIn wsX5_last (wsV RX5 221 RX5 yX5_parts wsX5_parts) := goodIn_app (goodIn_of _ (by decide +kernel)) ggX5_last_X5_parts
theorem dX5_last_0 : decode cX5_last 0 = .ok (.aload_n 0, 1) := by decide +kernel
theorem dX5_last_1 : decode cX5_last 1 = .ok (.iconst 0, 1) := by decide +kernel
theorem dX5_last_2 : decode cX5_last 2 = .ok (.putfield 1, 3) := by decide +kernel
theorem dX5_last_5 : decode cX5_last 5 = .ok (.aload_n 0, 1) := by decide +kernel
theorem dX5_last_6 : decode cX5_last 6 = .ok (.invokevirtual 221, 3) := by decide +kernel
theorem dX5_last_9 : decode cX5_last 9 = .ok (.ifCond .eq 10, 3) := by decide +kernel
theorem dX5_last_19 : decode cX5_last 19 = .ok (.iconst (-1), 1) := by decide +kernel
theorem dX5_last_20 : decode cX5_last 20 = .ok (.ireturn, 1) := by decide +kernel
set_option maxRecDepth 20000 in
theorem ggX5_sentences_X5_parts : GoodIn wsX5_sentences wsX5_parts := goodIn_r _ [8, 2, 9, 10, 11, 12, 13, 14, 15, 16, 7, 17, 18, 19, 20, 21, 22, 23, 24, 25, 26, 27, 28, 29, 30, 31, 32, 33, 34, 35, 36, 37, 38, 39, 40, 41, 42, 43, 44, 45, 46, 47, 48, 49, 50, 51, 52, 53, 54, 55, 56, 57, 58, 3, 59, 60, 61, 62, 63, 64, 65, 66, 67, 68, 69, 70, 71, 72, 73, 74, 75, 76, 77, 78, 79, 80, 81, 82, 83, 84, 85, 86, 87, 88] (by decide +kernel) (by decide +kernel)
set_option maxRecDepth 20000 in
theorem gX5_sentences_X5_parts : GoodIn wsX5_sentences (wsV RX5 221 RX5 yX5_parts wsX5_parts) := goodIn_app (goodIn_of _ (by decide +kernel)) ggX5_sentences_X5_parts
theorem dX5_sentences_0 : decode cX5_sentences 0 = .ok (.aload_n 0, 1) := by decide +kernel
theorem dX5_sentences_1 : decode cX5_sentences 1 = .ok (.iconst 0, 1) := by decide +kernel
theorem dX5_sentences_2 : decode cX5_sentences 2 = .ok (.putfield 1, 3) := by decide +kernel
theorem dX5_sentences_5 : decode cX5_sentences 5 = .ok (.aload_n 0, 1) := by decide +kernel
theorem dX5_sentences_6 : decode cX5_sentences 6 = .ok (.invokevirtual 221, 3) := by decide +kernel
theorem dX5_sentences_9 : decode cX5_sentences 9 = .ok (.ifCond .ne 5, 3) := by decide +kernel
theorem dX5_sentences_12 : decode cX5_sentences 12 = .ok (.iconst (-1), 1) := by decide +kernel
theorem dX5_sentences_13 : decode cX5_sentences 13 = .ok (.ireturn, 1) := by decide +kernel
theorem dX5_findOut_0 : decode cX5_findOut 0 = .ok (.iconst 0, 1) := by decide +kernel
theorem dX5_findOut_1 : decode cX5_findOut 1 = .ok (.istore_n 1, 1) := by decide +kernel
theorem dX5_findOut_2 : decode cX5_findOut 2 = .ok (.iload_n 1, 1) := by decide +kernel
theorem dX5_findOut_3 : decode cX5_findOut 3 = .ok (.bipush 20, 2) := by decide +kernel
theorem dX5_findOut_5 : decode cX5_findOut 5 = .ok (.if_icmp .ge 73, 3) := by decide +kernel
theorem dX5_findOut_8 : decode cX5_findOut 8 = .ok (.aload_n 0, 1) := by decide +kernel
theorem dX5_findOut_9 : decode cX5_findOut 9 = .ok (.getfield 101, 3) := by decide +kernel
theorem dX5_findOut_12 : decode cX5_findOut 12 = .ok (.iload_n 1, 1) := by decide +kernel
theorem dX5_findOut_13 : decode cX5_findOut 13 = .ok (.iconst 0, 1) := by decide +kernel
theorem dX5_findOut_14 : decode cX5_findOut 14 = .ok (.bastore, 1) := by decide +kernel
theorem dX5_findOut_15 : decode cX5_findOut 15 = .ok (.iconst 0, 1) := by decide +kernel
theorem dX5_findOut_16 : decode cX5_findOut 16 = .ok (.istore_n 2, 1) := by decide +kernel
theorem dX5_findOut_17 : decode cX5_findOut 17 = .ok (.iload_n 2, 1) := by decide +kernel
theorem dX5_findOut_18 : decode cX5_findOut 18 = .ok (.aload_n 0, 1) := by decide +kernel
theorem dX5_findOut_19 : decode cX5_findOut 19 = .ok (.getfield 67, 3) := by decide +kernel
theorem dX5_findOut_22 : decode cX5_findOut 22 = .ok (.aload_n 0, 1) := by decide +kernel
theorem dX5_findOut_23 : decode cX5_findOut 23 = .ok (.getfield 155, 3) := by decide +kernel
theorem dX5_findOut_26 : decode cX5_findOut 26 = .ok (.iaload, 1) := by decide +kernel
theorem dX5_findOut_27 : decode cX5_findOut 27 = .ok (.if_icmp .ge 45, 3) := by decide +kernel
theorem dX5_findOut_72 : decode cX5_findOut 72 = .ok (.iinc 1 1, 3) := by decide +kernel
theorem dX5_findOut_75 : decode cX5_findOut 75 = .ok (.goto (-73), 3) := by decide +kernel
theorem dX5_findOut_78 : decode cX5_findOut 78 = .ok (.iconst 1, 1) := by decide +kernel
theorem dX5_findOut_79 : decode cX5_findOut 79 = .ok (.istore_n 1, 1) := by decide +kernel
theorem dX5_findOut_80 : decode cX5_findOut 80 = .ok (.iload_n 1, 1) := by decide +kernel
theorem dX5_findOut_81 : decode cX5_findOut 81 = .ok (.ifCond .eq 114, 3) := by decide +kernel
theorem dX5_findOut_84 : decode cX5_findOut 84 = .ok (.iconst 0, 1) := by decide +kernel
theorem dX5_findOut_85 : decode cX5_findOut 85 = .ok (.istore_n 1, 1) := by decide +kernel
theorem dX5_findOut_86 : decode cX5_findOut 86 = .ok (.iconst 0, 1) := by decide +kernel
theorem dX5_findOut_87 : decode cX5_findOut 87 = .ok (.istore_n 2, 1) := by decide +kernel
theorem dX5_findOut_88 : decode cX5_findOut 88 = .ok (.iload_n 2, 1) := by decide +kernel
theorem dX5_findOut_89 : decode cX5_findOut 89 = .ok (.bipush 20, 2) := by decide +kernel
theorem dX5_findOut_91 : decode cX5_findOut 91 = .ok (.if_icmp .ge 101, 3) := by decide +kernel
theorem dX5_findOut_94 : decode cX5_findOut 94 = .ok (.iconst 0, 1) := by decide +kernel
theorem dX5_findOut_95 : decode cX5_findOut 95 = .ok (.istore_n 3, 1) := by decide +kernel
theorem dX5_findOut_96 : decode cX5_findOut 96 = .ok (.iconst 0, 1) := by decide +kernel
theorem dX5_findOut_97 : decode cX5_findOut 97 = .ok (.istore 4, 2) := by decide +kernel
theorem dX5_findOut_99 : decode cX5_findOut 99 = .ok (.iload 4, 2) := by decide +kernel
theorem dX5_findOut_101 : decode cX5_findOut 101 = .ok (.aload_n 0, 1) := by decide +kernel
theorem dX5_findOut_102 : decode cX5_findOut 102 = .ok (.getfield 61, 3) := by decide +kernel
theorem dX5_findOut_105 : decode cX5_findOut 105 = .ok (.aload_n 0, 1) := by decide +kernel
theorem dX5_findOut_106 : decode cX5_findOut 106 = .ok (.getfield 155, 3) := by decide +kernel
theorem dX5_findOut_109 : decode cX5_findOut 109 = .ok (.iaload, 1) := by decide +kernel
theorem dX5_findOut_110 : decode cX5_findOut 110 = .ok (.if_icmp .ge 38, 3) := by decide +kernel
theorem dX5_findOut_148 : decode cX5_findOut 148 = .ok (.aload_n 0, 1) := by decide +kernel
theorem dX5_findOut_149 : decode cX5_findOut 149 = .ok (.getfield 101, 3) := by decide +kernel
theorem dX5_findOut_152 : decode cX5_findOut 152 = .ok (.iload_n 2, 1) := by decide +kernel
theorem dX5_findOut_153 : decode cX5_findOut 153 = .ok (.aload_n 0, 1) := by decide +kernel
theorem dX5_findOut_154 : decode cX5_findOut 154 = .ok (.getfield 101, 3) := by decide +kernel
theorem dX5_findOut_157 : decode cX5_findOut 157 = .ok (.iload_n 2, 1) := by decide +kernel
theorem dX5_findOut_158 : decode cX5_findOut 158 = .ok (.baload, 1) := by decide +kernel
theorem dX5_findOut_159 : decode cX5_findOut 159 = .ok (.ifCond .ne 7, 3) := by decide +kernel
theorem dX5_findOut_162 : decode cX5_findOut 162 = .ok (.iload_n 3, 1) := by decide +kernel
theorem dX5_findOut_163 : decode cX5_findOut 163 = .ok (.ifCond .eq 7, 3) := by decide +kernel
theorem dX5_findOut_170 : decode cX5_findOut 170 = .ok (.iconst 0, 1) := by decide +kernel
theorem dX5_findOut_171 : decode cX5_findOut 171 = .ok (.bastore, 1) := by decide +kernel
theorem dX5_findOut_172 : decode cX5_findOut 172 = .ok (.iload_n 1, 1) := by decide +kernel
theorem dX5_findOut_173 : decode cX5_findOut 173 = .ok (.ifCond .ne 7, 3) := by decide +kernel
theorem dX5_findOut_176 : decode cX5_findOut 176 = .ok (.iload_n 3, 1) := by decide +kernel
theorem dX5_findOut_177 : decode cX5_findOut 177 = .ok (.ifCond .eq 7, 3) := by decide +kernel
theorem dX5_findOut_184 : decode cX5_findOut 184 = .ok (.iconst 0, 1) := by decide +kernel
theorem dX5_findOut_185 : decode cX5_findOut 185 = .ok (.istore_n 1, 1) := by decide +kernel
theorem dX5_findOut_186 : decode cX5_findOut 186 = .ok (.iinc 2 1, 3) := by decide +kernel
theorem dX5_findOut_189 : decode cX5_findOut 189 = .ok (.goto (-101), 3) := by decide +kernel
theorem dX5_findOut_192 : decode cX5_findOut 192 = .ok (.goto (-112), 3) := by decide +kernel
theorem dX5_findOut_195 : decode cX5_findOut 195 = .ok (.return_, 1) := by decide +kernel
set_option maxRecDepth 20000 in
theorem ggX5_settled_X5_findOut : GoodIn wsX5_settled wsX5_findOut := goodIn_r _ [11, 6, 12, 13, 14, 15, 16, 17, 10, 18, 19, 20, 21, 22, 23, 24, 25, 26, 27, 28, 69, 70, 71, 72, 73, 74, 75, 76, 77, 78, 79, 80, 81, 82, 83, 84, 85, 86, 87, 88, 89, 90, 91, 92, 93, 94, 95, 96, 97, 98] (by decide +kernel) (by decide +kernel)
set_option maxRecDepth 20000 in
theorem gX5_settled_X5_findOut : GoodIn wsX5_settled (wsV RX5 231 RX5 yX5_findOut wsX5_findOut) := goodIn_app (goodIn_of _ (by decide +kernel)) ggX5_settled_X5_findOut
set_option maxRecDepth 20000 in
theorem ggX5_settled_X5_laysOut : GoodIn wsX5_settled wsX5_laysOut := goodIn_r _ [32, 3, 2, 4, 5, 12, 13, 14, 33, 34, 35, 10, 36, 37, 38, 39, 24, 25, 26, 27, 28, 15, 16, 17, 18, 19, 40, 41, 42, 43, 44, 45, 46, 47, 48, 49, 50, 51, 69, 70, 71, 72, 73, 74, 75, 76, 77, 78, 79, 80, 81, 82, 83, 84, 85, 86, 87, 88, 89, 90, 91, 92, 93, 94, 95, 96, 97, 98] (by decide +kernel) (by decide +kernel)
set_option maxRecDepth 20000 in
theorem gX5_settled_X5_laysOut : GoodIn wsX5_settled (wsV RX5 208 RX5 yX5_laysOut wsX5_laysOut) := goodIn_app (goodIn_of _ (by decide +kernel)) ggX5_settled_X5_laysOut
theorem dX5_settled_0 : decode cX5_settled 0 = .ok (.aload_n 0, 1) := by decide +kernel
theorem dX5_settled_1 : decode cX5_settled 1 = .ok (.iconst 0, 1) := by decide +kernel
theorem dX5_settled_2 : decode cX5_settled 2 = .ok (.putfield 1, 3) := by decide +kernel
theorem dX5_settled_5 : decode cX5_settled 5 = .ok (.aload_n 0, 1) := by decide +kernel
theorem dX5_settled_6 : decode cX5_settled 6 = .ok (.invokevirtual 231, 3) := by decide +kernel
theorem dX5_settled_9 : decode cX5_settled 9 = .ok (.iconst (-1), 1) := by decide +kernel
theorem dX5_settled_10 : decode cX5_settled 10 = .ok (.istore_n 1, 1) := by decide +kernel
theorem dX5_settled_11 : decode cX5_settled 11 = .ok (.iconst 0, 1) := by decide +kernel
theorem dX5_settled_12 : decode cX5_settled 12 = .ok (.istore_n 2, 1) := by decide +kernel
theorem dX5_settled_13 : decode cX5_settled 13 = .ok (.iload_n 2, 1) := by decide +kernel
theorem dX5_settled_14 : decode cX5_settled 14 = .ok (.bipush 20, 2) := by decide +kernel
theorem dX5_settled_16 : decode cX5_settled 16 = .ok (.if_icmp .ge 101, 3) := by decide +kernel
theorem dX5_settled_19 : decode cX5_settled 19 = .ok (.iconst 0, 1) := by decide +kernel
theorem dX5_settled_20 : decode cX5_settled 20 = .ok (.istore_n 3, 1) := by decide +kernel
theorem dX5_settled_21 : decode cX5_settled 21 = .ok (.iload_n 3, 1) := by decide +kernel
theorem dX5_settled_22 : decode cX5_settled 22 = .ok (.bipush 20, 2) := by decide +kernel
theorem dX5_settled_24 : decode cX5_settled 24 = .ok (.if_icmp .ge 50, 3) := by decide +kernel
theorem dX5_settled_27 : decode cX5_settled 27 = .ok (.aload_n 0, 1) := by decide +kernel
theorem dX5_settled_28 : decode cX5_settled 28 = .ok (.getfield 86, 3) := by decide +kernel
theorem dX5_settled_31 : decode cX5_settled 31 = .ok (.bipush 20, 2) := by decide +kernel
theorem dX5_settled_33 : decode cX5_settled 33 = .ok (.aload_n 0, 1) := by decide +kernel
theorem dX5_settled_34 : decode cX5_settled 34 = .ok (.getfield 186, 3) := by decide +kernel
theorem dX5_settled_37 : decode cX5_settled 37 = .ok (.imul, 1) := by decide +kernel
theorem dX5_settled_38 : decode cX5_settled 38 = .ok (.iload_n 3, 1) := by decide +kernel
theorem dX5_settled_39 : decode cX5_settled 39 = .ok (.iadd, 1) := by decide +kernel
theorem dX5_settled_40 : decode cX5_settled 40 = .ok (.iload_n 3, 1) := by decide +kernel
theorem dX5_settled_41 : decode cX5_settled 41 = .ok (.iload_n 2, 1) := by decide +kernel
theorem dX5_settled_42 : decode cX5_settled 42 = .ok (.if_icmp .ne 7, 3) := by decide +kernel
theorem dX5_settled_45 : decode cX5_settled 45 = .ok (.iconst 0, 1) := by decide +kernel
theorem dX5_settled_46 : decode cX5_settled 46 = .ok (.goto 5, 3) := by decide +kernel
theorem dX5_settled_49 : decode cX5_settled 49 = .ok (.ldc 192, 2) := by decide +kernel
theorem dX5_settled_51 : decode cX5_settled 51 = .ok (.iastore, 1) := by decide +kernel
theorem dX5_settled_52 : decode cX5_settled 52 = .ok (.aload_n 0, 1) := by decide +kernel
theorem dX5_settled_53 : decode cX5_settled 53 = .ok (.getfield 89, 3) := by decide +kernel
theorem dX5_settled_56 : decode cX5_settled 56 = .ok (.bipush 20, 2) := by decide +kernel
theorem dX5_settled_58 : decode cX5_settled 58 = .ok (.aload_n 0, 1) := by decide +kernel
theorem dX5_settled_59 : decode cX5_settled 59 = .ok (.getfield 186, 3) := by decide +kernel
theorem dX5_settled_62 : decode cX5_settled 62 = .ok (.imul, 1) := by decide +kernel
theorem dX5_settled_63 : decode cX5_settled 63 = .ok (.iload_n 3, 1) := by decide +kernel
theorem dX5_settled_64 : decode cX5_settled 64 = .ok (.iadd, 1) := by decide +kernel
theorem dX5_settled_65 : decode cX5_settled 65 = .ok (.ldc 192, 2) := by decide +kernel
theorem dX5_settled_67 : decode cX5_settled 67 = .ok (.iastore, 1) := by decide +kernel
theorem dX5_settled_68 : decode cX5_settled 68 = .ok (.iinc 3 1, 3) := by decide +kernel
theorem dX5_settled_71 : decode cX5_settled 71 = .ok (.goto (-50), 3) := by decide +kernel
theorem dX5_settled_74 : decode cX5_settled 74 = .ok (.aload_n 0, 1) := by decide +kernel
theorem dX5_settled_75 : decode cX5_settled 75 = .ok (.invokevirtual 208, 3) := by decide +kernel
theorem dX5_settled_78 : decode cX5_settled 78 = .ok (.aload_n 0, 1) := by decide +kernel
theorem dX5_settled_79 : decode cX5_settled 79 = .ok (.getfield 101, 3) := by decide +kernel
theorem dX5_settled_82 : decode cX5_settled 82 = .ok (.iload_n 2, 1) := by decide +kernel
theorem dX5_settled_83 : decode cX5_settled 83 = .ok (.baload, 1) := by decide +kernel
theorem dX5_settled_84 : decode cX5_settled 84 = .ok (.ifCond .eq 27, 3) := by decide +kernel
theorem dX5_settled_111 : decode cX5_settled 111 = .ok (.iinc 2 1, 3) := by decide +kernel
theorem dX5_settled_114 : decode cX5_settled 114 = .ok (.goto (-101), 3) := by decide +kernel
theorem dX5_settled_117 : decode cX5_settled 117 = .ok (.iload_n 1, 1) := by decide +kernel
theorem dX5_settled_118 : decode cX5_settled 118 = .ok (.ifCond .ge 7, 3) := by decide +kernel
theorem dX5_settled_121 : decode cX5_settled 121 = .ok (.iconst 0, 1) := by decide +kernel
theorem dX5_settled_122 : decode cX5_settled 122 = .ok (.goto 4, 3) := by decide +kernel
theorem dX5_settled_126 : decode cX5_settled 126 = .ok (.ireturn, 1) := by decide +kernel
theorem dX5_count_0 : decode cX5_count 0 = .ok (.aload_n 0, 1) := by decide +kernel
theorem dX5_count_1 : decode cX5_count 1 = .ok (.iconst 0, 1) := by decide +kernel
theorem dX5_count_2 : decode cX5_count 2 = .ok (.putfield 1, 3) := by decide +kernel
theorem dX5_count_5 : decode cX5_count 5 = .ok (.iconst 0, 1) := by decide +kernel
theorem dX5_count_6 : decode cX5_count 6 = .ok (.istore_n 2, 1) := by decide +kernel
theorem dX5_count_7 : decode cX5_count 7 = .ok (.iconst 0, 1) := by decide +kernel
theorem dX5_count_8 : decode cX5_count 8 = .ok (.istore_n 3, 1) := by decide +kernel
theorem dX5_count_9 : decode cX5_count 9 = .ok (.iload_n 3, 1) := by decide +kernel
theorem dX5_count_10 : decode cX5_count 10 = .ok (.aload_n 0, 1) := by decide +kernel
theorem dX5_count_11 : decode cX5_count 11 = .ok (.getfield 186, 3) := by decide +kernel
theorem dX5_count_14 : decode cX5_count 14 = .ok (.if_icmp .ge 26, 3) := by decide +kernel
theorem dX5_count_40 : decode cX5_count 40 = .ok (.iload_n 1, 1) := by decide +kernel
theorem dX5_count_41 : decode cX5_count 41 = .ok (.ifCond .ne 10, 3) := by decide +kernel
theorem dX5_count_44 : decode cX5_count 44 = .ok (.aload_n 0, 1) := by decide +kernel
theorem dX5_count_45 : decode cX5_count 45 = .ok (.getfield 186, 3) := by decide +kernel
theorem dX5_count_48 : decode cX5_count 48 = .ok (.goto 59, 3) := by decide +kernel
theorem dX5_count_51 : decode cX5_count 51 = .ok (.iload_n 1, 1) := by decide +kernel
theorem dX5_count_52 : decode cX5_count 52 = .ok (.iconst 1, 1) := by decide +kernel
theorem dX5_count_53 : decode cX5_count 53 = .ok (.if_icmp .ne 15, 3) := by decide +kernel
theorem dX5_count_56 : decode cX5_count 56 = .ok (.aload_n 0, 1) := by decide +kernel
theorem dX5_count_57 : decode cX5_count 57 = .ok (.getfield 61, 3) := by decide +kernel
theorem dX5_count_60 : decode cX5_count 60 = .ok (.aload_n 0, 1) := by decide +kernel
theorem dX5_count_61 : decode cX5_count 61 = .ok (.getfield 155, 3) := by decide +kernel
theorem dX5_count_64 : decode cX5_count 64 = .ok (.iaload, 1) := by decide +kernel
theorem dX5_count_65 : decode cX5_count 65 = .ok (.goto 42, 3) := by decide +kernel
theorem dX5_count_68 : decode cX5_count 68 = .ok (.iload_n 1, 1) := by decide +kernel
theorem dX5_count_69 : decode cX5_count 69 = .ok (.iconst 2, 1) := by decide +kernel
theorem dX5_count_70 : decode cX5_count 70 = .ok (.if_icmp .ne 15, 3) := by decide +kernel
theorem dX5_count_73 : decode cX5_count 73 = .ok (.aload_n 0, 1) := by decide +kernel
theorem dX5_count_74 : decode cX5_count 74 = .ok (.getfield 67, 3) := by decide +kernel
theorem dX5_count_77 : decode cX5_count 77 = .ok (.aload_n 0, 1) := by decide +kernel
theorem dX5_count_78 : decode cX5_count 78 = .ok (.getfield 155, 3) := by decide +kernel
theorem dX5_count_81 : decode cX5_count 81 = .ok (.iaload, 1) := by decide +kernel
theorem dX5_count_82 : decode cX5_count 82 = .ok (.goto 25, 3) := by decide +kernel
theorem dX5_count_85 : decode cX5_count 85 = .ok (.iload_n 1, 1) := by decide +kernel
theorem dX5_count_86 : decode cX5_count 86 = .ok (.iconst 3, 1) := by decide +kernel
theorem dX5_count_87 : decode cX5_count 87 = .ok (.if_icmp .ne 10, 3) := by decide +kernel
theorem dX5_count_90 : decode cX5_count 90 = .ok (.aload_n 0, 1) := by decide +kernel
theorem dX5_count_91 : decode cX5_count 91 = .ok (.getfield 11, 3) := by decide +kernel
theorem dX5_count_94 : decode cX5_count 94 = .ok (.goto 13, 3) := by decide +kernel
theorem dX5_count_97 : decode cX5_count 97 = .ok (.iload_n 1, 1) := by decide +kernel
theorem dX5_count_98 : decode cX5_count 98 = .ok (.iconst 4, 1) := by decide +kernel
theorem dX5_count_99 : decode cX5_count 99 = .ok (.if_icmp .ne 7, 3) := by decide +kernel
theorem dX5_count_102 : decode cX5_count 102 = .ok (.iload_n 2, 1) := by decide +kernel
theorem dX5_count_103 : decode cX5_count 103 = .ok (.goto 4, 3) := by decide +kernel
theorem dX5_count_106 : decode cX5_count 106 = .ok (.iconst (-1), 1) := by decide +kernel
theorem dX5_count_107 : decode cX5_count 107 = .ok (.ireturn, 1) := by decide +kernel
theorem dJ7_fill_53178_0 : decode cJ7_fill_53178 0 = .ok (.iconst 0, 1) := by decide +kernel
theorem dJ7_fill_53178_1 : decode cJ7_fill_53178 1 = .ok (.istore_n 2, 1) := by decide +kernel
theorem dJ7_fill_53178_2 : decode cJ7_fill_53178 2 = .ok (.aload_n 0, 1) := by decide +kernel
theorem dJ7_fill_53178_3 : decode cJ7_fill_53178 3 = .ok (.arraylength, 1) := by decide +kernel
theorem dJ7_fill_53178_4 : decode cJ7_fill_53178 4 = .ok (.istore_n 3, 1) := by decide +kernel
theorem dJ7_fill_53178_5 : decode cJ7_fill_53178 5 = .ok (.iload_n 2, 1) := by decide +kernel
theorem dJ7_fill_53178_6 : decode cJ7_fill_53178 6 = .ok (.iload_n 3, 1) := by decide +kernel
theorem dJ7_fill_53178_7 : decode cJ7_fill_53178 7 = .ok (.if_icmp .ge 13, 3) := by decide +kernel
theorem dJ7_fill_53178_10 : decode cJ7_fill_53178 10 = .ok (.aload_n 0, 1) := by decide +kernel
theorem dJ7_fill_53178_11 : decode cJ7_fill_53178 11 = .ok (.iload_n 2, 1) := by decide +kernel
theorem dJ7_fill_53178_12 : decode cJ7_fill_53178 12 = .ok (.iload_n 1, 1) := by decide +kernel
theorem dJ7_fill_53178_13 : decode cJ7_fill_53178 13 = .ok (.iastore, 1) := by decide +kernel
theorem dJ7_fill_53178_14 : decode cJ7_fill_53178 14 = .ok (.iinc 2 1, 3) := by decide +kernel
theorem dJ7_fill_53178_17 : decode cJ7_fill_53178 17 = .ok (.goto (-12), 3) := by decide +kernel
theorem dJ7_fill_53178_20 : decode cJ7_fill_53178 20 = .ok (.return_, 1) := by decide +kernel

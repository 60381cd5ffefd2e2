theorem dX5_init_276 : decode cX5_init 276 = .ok (.return_, 1) := by decide +kernel
theorem dX5_isLetter_0 : decode cX5_isLetter 0 = .ok (.iload_n 0, 1) := by decide +kernel
theorem dX5_isLetter_1 : decode cX5_isLetter 1 = .ok (.bipush 97, 2) := by decide +kernel
theorem dX5_isLetter_3 : decode cX5_isLetter 3 = .ok (.if_icmp .lt 13, 3) := by decide +kernel
theorem dX5_isLetter_6 : decode cX5_isLetter 6 = .ok (.iload_n 0, 1) := by decide +kernel
theorem dX5_isLetter_7 : decode cX5_isLetter 7 = .ok (.bipush 122, 2) := by decide +kernel
theorem dX5_isLetter_9 : decode cX5_isLetter 9 = .ok (.if_icmp .gt 7, 3) := by decide +kernel
theorem dX5_isLetter_12 : decode cX5_isLetter 12 = .ok (.iconst 1, 1) := by decide +kernel
theorem dX5_isLetter_13 : decode cX5_isLetter 13 = .ok (.goto 4, 3) := by decide +kernel
theorem dX5_isLetter_16 : decode cX5_isLetter 16 = .ok (.iconst 0, 1) := by decide +kernel
theorem dX5_isLetter_17 : decode cX5_isLetter 17 = .ok (.ireturn, 1) := by decide +kernel
theorem dX5_isDigit_0 : decode cX5_isDigit 0 = .ok (.iload_n 0, 1) := by decide +kernel
theorem dX5_isDigit_1 : decode cX5_isDigit 1 = .ok (.bipush 48, 2) := by decide +kernel
theorem dX5_isDigit_3 : decode cX5_isDigit 3 = .ok (.if_icmp .lt 13, 3) := by decide +kernel
theorem dX5_isDigit_6 : decode cX5_isDigit 6 = .ok (.iload_n 0, 1) := by decide +kernel
theorem dX5_isDigit_7 : decode cX5_isDigit 7 = .ok (.bipush 57, 2) := by decide +kernel
theorem dX5_isDigit_9 : decode cX5_isDigit 9 = .ok (.if_icmp .gt 7, 3) := by decide +kernel
theorem dX5_isDigit_12 : decode cX5_isDigit 12 = .ok (.iconst 1, 1) := by decide +kernel
theorem dX5_isDigit_13 : decode cX5_isDigit 13 = .ok (.goto 4, 3) := by decide +kernel
theorem dX5_isDigit_16 : decode cX5_isDigit 16 = .ok (.iconst 0, 1) := by decide +kernel
theorem dX5_isDigit_17 : decode cX5_isDigit 17 = .ok (.ireturn, 1) := by decide +kernel
set_option maxRecDepth 20000 in
theorem ggX5_rank_X5_isLetter : GoodIn wsX5_rank wsX5_isLetter := goodIn_r _ [4] (by decide +kernel) (by decide +kernel)
set_option maxRecDepth 20000 in
theorem gX5_rank_X5_isLetter : GoodIn wsX5_rank (va_wsS RX5 110 yX5_isLetter wsX5_isLetter) := goodIn_app (goodIn_of _ (by decide +kernel)) ggX5_rank_X5_isLetter
theorem dX5_rank_0 : decode cX5_rank 0 = .ok (.iload_n 0, 1) := by decide +kernel
theorem dX5_rank_1 : decode cX5_rank 1 = .ok (.invokestatic 110, 3) := by decide +kernel
theorem dX5_rank_4 : decode cX5_rank 4 = .ok (.ifCond .eq 10, 3) := by decide +kernel
theorem dX5_rank_7 : decode cX5_rank 7 = .ok (.iload_n 0, 1) := by decide +kernel
theorem dX5_rank_8 : decode cX5_rank 8 = .ok (.bipush 96, 2) := by decide +kernel
theorem dX5_rank_10 : decode cX5_rank 10 = .ok (.isub, 1) := by decide +kernel
theorem dX5_rank_11 : decode cX5_rank 11 = .ok (.goto 7, 3) := by decide +kernel
theorem dX5_rank_14 : decode cX5_rank 14 = .ok (.iload_n 0, 1) := by decide +kernel
theorem dX5_rank_15 : decode cX5_rank 15 = .ok (.bipush 21, 2) := by decide +kernel
theorem dX5_rank_17 : decode cX5_rank 17 = .ok (.isub, 1) := by decide +kernel
theorem dX5_rank_18 : decode cX5_rank 18 = .ok (.ireturn, 1) := by decide +kernel
theorem dX5_isSignOf_0 : decode cX5_isSignOf 0 = .ok (.iload_n 0, 1) := by decide +kernel
theorem dX5_isSignOf_1 : decode cX5_isSignOf 1 = .ok (.bipush 59, 2) := by decide +kernel
theorem dX5_isSignOf_3 : decode cX5_isSignOf 3 = .ok (.if_icmp .ne 7, 3) := by decide +kernel
theorem dX5_isSignOf_6 : decode cX5_isSignOf 6 = .ok (.iconst 1, 1) := by decide +kernel
theorem dX5_isSignOf_7 : decode cX5_isSignOf 7 = .ok (.goto 4, 3) := by decide +kernel
theorem dX5_isSignOf_10 : decode cX5_isSignOf 10 = .ok (.iconst 0, 1) := by decide +kernel
theorem dX5_isSignOf_11 : decode cX5_isSignOf 11 = .ok (.ireturn, 1) := by decide +kernel
set_option maxRecDepth 20000 in
theorem ggX5_cutAll_X5_isLetter : GoodIn wsX5_cutAll wsX5_isLetter := goodIn_r _ [15] (by decide +kernel) (by decide +kernel)
set_option maxRecDepth 20000 in
theorem gX5_cutAll_X5_isLetter : GoodIn wsX5_cutAll (va_wsS RX5 110 yX5_isLetter wsX5_isLetter) := goodIn_app (goodIn_of _ (by decide +kernel)) ggX5_cutAll_X5_isLetter
set_option maxRecDepth 20000 in
theorem ggX5_cutAll_X5_rank : GoodIn wsX5_cutAll wsX5_rank := goodIn_r _ [18, 12, 13, 14, 15] (by decide +kernel) (by decide +kernel)
set_option maxRecDepth 20000 in
theorem gX5_cutAll_X5_rank : GoodIn wsX5_cutAll (va_wsS RX5 119 yX5_rank wsX5_rank) := goodIn_app (goodIn_of _ (by decide +kernel)) ggX5_cutAll_X5_rank
set_option maxRecDepth 20000 in
theorem ggX5_cutAll_X5_isDigit : GoodIn wsX5_cutAll wsX5_isDigit := goodIn_r _ [21] (by decide +kernel) (by decide +kernel)
set_option maxRecDepth 20000 in
theorem gX5_cutAll_X5_isDigit : GoodIn wsX5_cutAll (va_wsS RX5 123 yX5_isDigit wsX5_isDigit) := goodIn_app (goodIn_of _ (by decide +kernel)) ggX5_cutAll_X5_isDigit
set_option maxRecDepth 20000 in
theorem ggX5_cutAll_X5_isSignOf : GoodIn wsX5_cutAll wsX5_isSignOf := goodIn_r _ [24] (by decide +kernel) (by decide +kernel)
set_option maxRecDepth 20000 in
theorem gX5_cutAll_X5_isSignOf : GoodIn wsX5_cutAll (va_wsS RX5 130 yX5_isSignOf wsX5_isSignOf) := goodIn_app (goodIn_of _ (by decide +kernel)) ggX5_cutAll_X5_isSignOf
theorem dX5_cutAll_0 : decode cX5_cutAll 0 = .ok (.aload_n 0, 1) := by decide +kernel
theorem dX5_cutAll_1 : decode cX5_cutAll 1 = .ok (.aload_n 0, 1) := by decide +kernel
theorem dX5_cutAll_2 : decode cX5_cutAll 2 = .ok (.getfield 11, 3) := by decide +kernel
theorem dX5_cutAll_5 : decode cX5_cutAll 5 = .ok (.putfield 114, 3) := by decide +kernel
theorem dX5_cutAll_8 : decode cX5_cutAll 8 = .ok (.aload_n 0, 1) := by decide +kernel
theorem dX5_cutAll_9 : decode cX5_cutAll 9 = .ok (.iconst 0, 1) := by decide +kernel
theorem dX5_cutAll_10 : decode cX5_cutAll 10 = .ok (.putfield 11, 3) := by decide +kernel
theorem dX5_cutAll_13 : decode cX5_cutAll 13 = .ok (.iconst 0, 1) := by decide +kernel
theorem dX5_cutAll_14 : decode cX5_cutAll 14 = .ok (.istore_n 1, 1) := by decide +kernel
theorem dX5_cutAll_15 : decode cX5_cutAll 15 = .ok (.iconst 0, 1) := by decide +kernel
theorem dX5_cutAll_16 : decode cX5_cutAll 16 = .ok (.istore_n 2, 1) := by decide +kernel
theorem dX5_cutAll_17 : decode cX5_cutAll 17 = .ok (.iload_n 2, 1) := by decide +kernel
theorem dX5_cutAll_18 : decode cX5_cutAll 18 = .ok (.aload_n 0, 1) := by decide +kernel
theorem dX5_cutAll_19 : decode cX5_cutAll 19 = .ok (.getfield 114, 3) := by decide +kernel
theorem dX5_cutAll_22 : decode cX5_cutAll 22 = .ok (.if_icmp .ge 257, 3) := by decide +kernel
theorem dX5_cutAll_25 : decode cX5_cutAll 25 = .ok (.aload_n 0, 1) := by decide +kernel
theorem dX5_cutAll_26 : decode cX5_cutAll 26 = .ok (.getfield 14, 3) := by decide +kernel
theorem dX5_cutAll_29 : decode cX5_cutAll 29 = .ok (.iload_n 2, 1) := by decide +kernel
theorem dX5_cutAll_30 : decode cX5_cutAll 30 = .ok (.iaload, 1) := by decide +kernel
theorem dX5_cutAll_31 : decode cX5_cutAll 31 = .ok (.istore_n 3, 1) := by decide +kernel
theorem dX5_cutAll_32 : decode cX5_cutAll 32 = .ok (.iload_n 3, 1) := by decide +kernel
theorem dX5_cutAll_33 : decode cX5_cutAll 33 = .ok (.bipush 10, 2) := by decide +kernel
theorem dX5_cutAll_35 : decode cX5_cutAll 35 = .ok (.if_icmp .eq 9, 3) := by decide +kernel
theorem dX5_cutAll_38 : decode cX5_cutAll 38 = .ok (.iload_n 3, 1) := by decide +kernel
theorem dX5_cutAll_39 : decode cX5_cutAll 39 = .ok (.bipush 32, 2) := by decide +kernel
theorem dX5_cutAll_41 : decode cX5_cutAll 41 = .ok (.if_icmp .ne 9, 3) := by decide +kernel
theorem dX5_cutAll_44 : decode cX5_cutAll 44 = .ok (.iinc 2 1, 3) := by decide +kernel
theorem dX5_cutAll_47 : decode cX5_cutAll 47 = .ok (.goto (-30), 3) := by decide +kernel
theorem dX5_cutAll_50 : decode cX5_cutAll 50 = .ok (.iload_n 2, 1) := by decide +kernel
theorem dX5_cutAll_51 : decode cX5_cutAll 51 = .ok (.istore 4, 2) := by decide +kernel
theorem dX5_cutAll_53 : decode cX5_cutAll 53 = .ok (.lconst 0, 1) := by decide +kernel
theorem dX5_cutAll_54 : decode cX5_cutAll 54 = .ok (.lstore 5, 2) := by decide +kernel
theorem dX5_cutAll_56 : decode cX5_cutAll 56 = .ok (.aload_n 0, 1) := by decide +kernel
theorem dX5_cutAll_57 : decode cX5_cutAll 57 = .ok (.getfield 27, 3) := by decide +kernel
theorem dX5_cutAll_60 : decode cX5_cutAll 60 = .ok (.iload_n 1, 1) := by decide +kernel
theorem dX5_cutAll_61 : decode cX5_cutAll 61 = .ok (.iload_n 2, 1) := by decide +kernel
theorem dX5_cutAll_62 : decode cX5_cutAll 62 = .ok (.iastore, 1) := by decide +kernel
theorem dX5_cutAll_63 : decode cX5_cutAll 63 = .ok (.iload_n 3, 1) := by decide +kernel
theorem dX5_cutAll_64 : decode cX5_cutAll 64 = .ok (.invokestatic 110, 3) := by decide +kernel
theorem dX5_cutAll_67 : decode cX5_cutAll 67 = .ok (.ifCond .eq 85, 3) := by decide +kernel
theorem dX5_cutAll_70 : decode cX5_cutAll 70 = .ok (.iload_n 2, 1) := by decide +kernel
theorem dX5_cutAll_71 : decode cX5_cutAll 71 = .ok (.aload_n 0, 1) := by decide +kernel
theorem dX5_cutAll_72 : decode cX5_cutAll 72 = .ok (.getfield 114, 3) := by decide +kernel
theorem dX5_cutAll_75 : decode cX5_cutAll 75 = .ok (.if_icmp .ge 54, 3) := by decide +kernel
theorem dX5_cutAll_78 : decode cX5_cutAll 78 = .ok (.aload_n 0, 1) := by decide +kernel
theorem dX5_cutAll_79 : decode cX5_cutAll 79 = .ok (.getfield 14, 3) := by decide +kernel
theorem dX5_cutAll_82 : decode cX5_cutAll 82 = .ok (.iload_n 2, 1) := by decide +kernel
theorem dX5_cutAll_83 : decode cX5_cutAll 83 = .ok (.iaload, 1) := by decide +kernel
theorem dX5_cutAll_84 : decode cX5_cutAll 84 = .ok (.invokestatic 110, 3) := by decide +kernel
theorem dX5_cutAll_87 : decode cX5_cutAll 87 = .ok (.ifCond .eq 42, 3) := by decide +kernel
theorem dX5_cutAll_90 : decode cX5_cutAll 90 = .ok (.iload_n 2, 1) := by decide +kernel
theorem dX5_cutAll_91 : decode cX5_cutAll 91 = .ok (.iload 4, 2) := by decide +kernel
theorem dX5_cutAll_93 : decode cX5_cutAll 93 = .ok (.isub, 1) := by decide +kernel
theorem dX5_cutAll_94 : decode cX5_cutAll 94 = .ok (.bipush 8, 2) := by decide +kernel
theorem dX5_cutAll_96 : decode cX5_cutAll 96 = .ok (.if_icmp .ge 23, 3) := by decide +kernel
theorem dX5_cutAll_99 : decode cX5_cutAll 99 = .ok (.ldc2_w 117, 3) := by decide +kernel
theorem dX5_cutAll_102 : decode cX5_cutAll 102 = .ok (.lload 5, 2) := by decide +kernel
theorem dX5_cutAll_104 : decode cX5_cutAll 104 = .ok (.lmul, 1) := by decide +kernel
theorem dX5_cutAll_105 : decode cX5_cutAll 105 = .ok (.aload_n 0, 1) := by decide +kernel
theorem dX5_cutAll_106 : decode cX5_cutAll 106 = .ok (.getfield 14, 3) := by decide +kernel
theorem dX5_cutAll_109 : decode cX5_cutAll 109 = .ok (.iload_n 2, 1) := by decide +kernel
theorem dX5_cutAll_110 : decode cX5_cutAll 110 = .ok (.iaload, 1) := by decide +kernel
theorem dX5_cutAll_111 : decode cX5_cutAll 111 = .ok (.invokestatic 119, 3) := by decide +kernel
theorem dX5_cutAll_114 : decode cX5_cutAll 114 = .ok (.i2l, 1) := by decide +kernel
theorem dX5_cutAll_115 : decode cX5_cutAll 115 = .ok (.ladd, 1) := by decide +kernel
theorem dX5_cutAll_116 : decode cX5_cutAll 116 = .ok (.goto 5, 3) := by decide +kernel
theorem dX5_cutAll_119 : decode cX5_cutAll 119 = .ok (.lload 5, 2) := by decide +kernel
theorem dX5_cutAll_121 : decode cX5_cutAll 121 = .ok (.lstore 5, 2) := by decide +kernel
theorem dX5_cutAll_123 : decode cX5_cutAll 123 = .ok (.iinc 2 1, 3) := by decide +kernel
theorem dX5_cutAll_126 : decode cX5_cutAll 126 = .ok (.goto (-56), 3) := by decide +kernel
theorem dX5_cutAll_129 : decode cX5_cutAll 129 = .ok (.aload_n 0, 1) := by decide +kernel
theorem dX5_cutAll_130 : decode cX5_cutAll 130 = .ok (.getfield 24, 3) := by decide +kernel
theorem dX5_cutAll_133 : decode cX5_cutAll 133 = .ok (.iload_n 1, 1) := by decide +kernel
theorem dX5_cutAll_134 : decode cX5_cutAll 134 = .ok (.iload_n 2, 1) := by decide +kernel
theorem dX5_cutAll_135 : decode cX5_cutAll 135 = .ok (.iload 4, 2) := by decide +kernel
theorem dX5_cutAll_137 : decode cX5_cutAll 137 = .ok (.isub, 1) := by decide +kernel
theorem dX5_cutAll_138 : decode cX5_cutAll 138 = .ok (.bipush 8, 2) := by decide +kernel
theorem dX5_cutAll_140 : decode cX5_cutAll 140 = .ok (.if_icmp .le 7, 3) := by decide +kernel
theorem dX5_cutAll_143 : decode cX5_cutAll 143 = .ok (.iconst 4, 1) := by decide +kernel
theorem dX5_cutAll_144 : decode cX5_cutAll 144 = .ok (.goto 4, 3) := by decide +kernel
theorem dX5_cutAll_147 : decode cX5_cutAll 147 = .ok (.iconst 1, 1) := by decide +kernel
theorem dX5_cutAll_148 : decode cX5_cutAll 148 = .ok (.iastore, 1) := by decide +kernel
theorem dX5_cutAll_149 : decode cX5_cutAll 149 = .ok (.goto 116, 3) := by decide +kernel
theorem dX5_cutAll_152 : decode cX5_cutAll 152 = .ok (.iload_n 3, 1) := by decide +kernel
theorem dX5_cutAll_153 : decode cX5_cutAll 153 = .ok (.invokestatic 123, 3) := by decide +kernel
theorem dX5_cutAll_156 : decode cX5_cutAll 156 = .ok (.ifCond .eq 84, 3) := by decide +kernel
theorem dX5_cutAll_159 : decode cX5_cutAll 159 = .ok (.iload_n 2, 1) := by decide +kernel
theorem dX5_cutAll_160 : decode cX5_cutAll 160 = .ok (.aload_n 0, 1) := by decide +kernel
theorem dX5_cutAll_161 : decode cX5_cutAll 161 = .ok (.getfield 114, 3) := by decide +kernel
theorem dX5_cutAll_164 : decode cX5_cutAll 164 = .ok (.if_icmp .ge 54, 3) := by decide +kernel
theorem dX5_cutAll_167 : decode cX5_cutAll 167 = .ok (.aload_n 0, 1) := by decide +kernel
theorem dX5_cutAll_168 : decode cX5_cutAll 168 = .ok (.getfield 14, 3) := by decide +kernel
theorem dX5_cutAll_171 : decode cX5_cutAll 171 = .ok (.iload_n 2, 1) := by decide +kernel
theorem dX5_cutAll_172 : decode cX5_cutAll 172 = .ok (.iaload, 1) := by decide +kernel
theorem dX5_cutAll_173 : decode cX5_cutAll 173 = .ok (.invokestatic 123, 3) := by decide +kernel
theorem dX5_cutAll_176 : decode cX5_cutAll 176 = .ok (.ifCond .eq 42, 3) := by decide +kernel
theorem dX5_cutAll_179 : decode cX5_cutAll 179 = .ok (.iload_n 2, 1) := by decide +kernel
theorem dX5_cutAll_180 : decode cX5_cutAll 180 = .ok (.iload 4, 2) := by decide +kernel
theorem dX5_cutAll_182 : decode cX5_cutAll 182 = .ok (.isub, 1) := by decide +kernel
theorem dX5_cutAll_183 : decode cX5_cutAll 183 = .ok (.iconst 4, 1) := by decide +kernel
theorem dX5_cutAll_184 : decode cX5_cutAll 184 = .ok (.if_icmp .ge 24, 3) := by decide +kernel
theorem dX5_cutAll_187 : decode cX5_cutAll 187 = .ok (.ldc2_w 126, 3) := by decide +kernel
theorem dX5_cutAll_190 : decode cX5_cutAll 190 = .ok (.lload 5, 2) := by decide +kernel
theorem dX5_cutAll_192 : decode cX5_cutAll 192 = .ok (.lmul, 1) := by decide +kernel
theorem dX5_cutAll_193 : decode cX5_cutAll 193 = .ok (.aload_n 0, 1) := by decide +kernel
theorem dX5_cutAll_194 : decode cX5_cutAll 194 = .ok (.getfield 14, 3) := by decide +kernel
theorem dX5_cutAll_197 : decode cX5_cutAll 197 = .ok (.iload_n 2, 1) := by decide +kernel
theorem dX5_cutAll_198 : decode cX5_cutAll 198 = .ok (.iaload, 1) := by decide +kernel
theorem dX5_cutAll_199 : decode cX5_cutAll 199 = .ok (.i2l, 1) := by decide +kernel
theorem dX5_cutAll_200 : decode cX5_cutAll 200 = .ok (.ladd, 1) := by decide +kernel
theorem dX5_cutAll_201 : decode cX5_cutAll 201 = .ok (.ldc2_w 128, 3) := by decide +kernel
theorem dX5_cutAll_204 : decode cX5_cutAll 204 = .ok (.lsub, 1) := by decide +kernel
theorem dX5_cutAll_205 : decode cX5_cutAll 205 = .ok (.goto 5, 3) := by decide +kernel
theorem dX5_cutAll_208 : decode cX5_cutAll 208 = .ok (.lload 5, 2) := by decide +kernel
theorem dX5_cutAll_210 : decode cX5_cutAll 210 = .ok (.lstore 5, 2) := by decide +kernel
theorem dX5_cutAll_212 : decode cX5_cutAll 212 = .ok (.iinc 2 1, 3) := by decide +kernel
theorem dX5_cutAll_215 : decode cX5_cutAll 215 = .ok (.goto (-56), 3) := by decide +kernel
theorem dX5_cutAll_218 : decode cX5_cutAll 218 = .ok (.aload_n 0, 1) := by decide +kernel
theorem dX5_cutAll_219 : decode cX5_cutAll 219 = .ok (.getfield 24, 3) := by decide +kernel
theorem dX5_cutAll_222 : decode cX5_cutAll 222 = .ok (.iload_n 1, 1) := by decide +kernel
theorem dX5_cutAll_223 : decode cX5_cutAll 223 = .ok (.iload_n 2, 1) := by decide +kernel
theorem dX5_cutAll_224 : decode cX5_cutAll 224 = .ok (.iload 4, 2) := by decide +kernel
theorem dX5_cutAll_226 : decode cX5_cutAll 226 = .ok (.isub, 1) := by decide +kernel
theorem dX5_cutAll_227 : decode cX5_cutAll 227 = .ok (.iconst 4, 1) := by decide +kernel
theorem dX5_cutAll_228 : decode cX5_cutAll 228 = .ok (.if_icmp .le 7, 3) := by decide +kernel
theorem dX5_cutAll_231 : decode cX5_cutAll 231 = .ok (.iconst 4, 1) := by decide +kernel
theorem dX5_cutAll_232 : decode cX5_cutAll 232 = .ok (.goto 4, 3) := by decide +kernel
theorem dX5_cutAll_235 : decode cX5_cutAll 235 = .ok (.iconst 2, 1) := by decide +kernel
theorem dX5_cutAll_236 : decode cX5_cutAll 236 = .ok (.iastore, 1) := by decide +kernel
theorem dX5_cutAll_237 : decode cX5_cutAll 237 = .ok (.goto 28, 3) := by decide +kernel
theorem dX5_cutAll_240 : decode cX5_cutAll 240 = .ok (.iload_n 3, 1) := by decide +kernel
theorem dX5_cutAll_241 : decode cX5_cutAll 241 = .ok (.i2l, 1) := by decide +kernel
theorem dX5_cutAll_242 : decode cX5_cutAll 242 = .ok (.lstore 5, 2) := by decide +kernel
theorem dX5_cutAll_244 : decode cX5_cutAll 244 = .ok (.aload_n 0, 1) := by decide +kernel
theorem dX5_cutAll_245 : decode cX5_cutAll 245 = .ok (.getfield 24, 3) := by decide +kernel
theorem dX5_cutAll_248 : decode cX5_cutAll 248 = .ok (.iload_n 1, 1) := by decide +kernel
theorem dX5_cutAll_249 : decode cX5_cutAll 249 = .ok (.iload_n 3, 1) := by decide +kernel
theorem dX5_cutAll_250 : decode cX5_cutAll 250 = .ok (.invokestatic 130, 3) := by decide +kernel
theorem dX5_cutAll_253 : decode cX5_cutAll 253 = .ok (.ifCond .eq 7, 3) := by decide +kernel
theorem dX5_cutAll_256 : decode cX5_cutAll 256 = .ok (.iconst 3, 1) := by decide +kernel
theorem dX5_cutAll_257 : decode cX5_cutAll 257 = .ok (.goto 4, 3) := by decide +kernel
theorem dX5_cutAll_260 : decode cX5_cutAll 260 = .ok (.iconst 4, 1) := by decide +kernel
theorem dX5_cutAll_261 : decode cX5_cutAll 261 = .ok (.iastore, 1) := by decide +kernel
theorem dX5_cutAll_262 : decode cX5_cutAll 262 = .ok (.iinc 2 1, 3) := by decide +kernel
theorem dX5_cutAll_265 : decode cX5_cutAll 265 = .ok (.aload_n 0, 1) := by decide +kernel
theorem dX5_cutAll_266 : decode cX5_cutAll 266 = .ok (.getfield 30, 3) := by decide +kernel
theorem dX5_cutAll_269 : decode cX5_cutAll 269 = .ok (.iload_n 1, 1) := by decide +kernel
theorem dX5_cutAll_270 : decode cX5_cutAll 270 = .ok (.lload 5, 2) := by decide +kernel
theorem dX5_cutAll_272 : decode cX5_cutAll 272 = .ok (.lastore, 1) := by decide +kernel
theorem dX5_cutAll_273 : decode cX5_cutAll 273 = .ok (.iinc 1 1, 3) := by decide +kernel
theorem dX5_cutAll_276 : decode cX5_cutAll 276 = .ok (.goto (-259), 3) := by decide +kernel
theorem dX5_cutAll_279 : decode cX5_cutAll 279 = .ok (.aload_n 0, 1) := by decide +kernel
theorem dX5_cutAll_280 : decode cX5_cutAll 280 = .ok (.getfield 24, 3) := by decide +kernel
theorem dX5_cutAll_283 : decode cX5_cutAll 283 = .ok (.iload_n 1, 1) := by decide +kernel
theorem dX5_cutAll_284 : decode cX5_cutAll 284 = .ok (.iconst 0, 1) := by decide +kernel
theorem dX5_cutAll_285 : decode cX5_cutAll 285 = .ok (.iastore, 1) := by decide +kernel
theorem dX5_cutAll_286 : decode cX5_cutAll 286 = .ok (.aload_n 0, 1) := by decide +kernel
theorem dX5_cutAll_287 : decode cX5_cutAll 287 = .ok (.getfield 27, 3) := by decide +kernel
theorem dX5_cutAll_290 : decode cX5_cutAll 290 = .ok (.iload_n 1, 1) := by decide +kernel
theorem dX5_cutAll_291 : decode cX5_cutAll 291 = .ok (.aload_n 0, 1) := by decide +kernel
theorem dX5_cutAll_292 : decode cX5_cutAll 292 = .ok (.getfield 114, 3) := by decide +kernel
theorem dX5_cutAll_295 : decode cX5_cutAll 295 = .ok (.iastore, 1) := by decide +kernel
theorem dX5_cutAll_296 : decode cX5_cutAll 296 = .ok (.aload_n 0, 1) := by decide +kernel
theorem dX5_cutAll_297 : decode cX5_cutAll 297 = .ok (.iconst 0, 1) := by decide +kernel
theorem dX5_cutAll_298 : decode cX5_cutAll 298 = .ok (.putfield 133, 3) := by decide +kernel
theorem dX5_cutAll_301 : decode cX5_cutAll 301 = .ok (.aload_n 0, 1) := by decide +kernel
theorem dX5_cutAll_302 : decode cX5_cutAll 302 = .ok (.iconst 0, 1) := by decide +kernel
theorem dX5_cutAll_303 : decode cX5_cutAll 303 = .ok (.putfield 136, 3) := by decide +kernel
theorem dX5_cutAll_306 : decode cX5_cutAll 306 = .ok (.return_, 1) := by decide +kernel
theorem dX5_wrong_0 : decode cX5_wrong 0 = .ok (.aload_n 0, 1) := by decide +kernel
theorem dX5_wrong_1 : decode cX5_wrong 1 = .ok (.getfield 136, 3) := by decide +kernel
theorem dX5_wrong_4 : decode cX5_wrong 4 = .ok (.ifCond .ne 21, 3) := by decide +kernel
theorem dX5_wrong_7 : decode cX5_wrong 7 = .ok (.aload_n 0, 1) := by decide +kernel
theorem dX5_wrong_8 : decode cX5_wrong 8 = .ok (.iload_n 1, 1) := by decide +kernel
theorem dX5_wrong_9 : decode cX5_wrong 9 = .ok (.bipush 16, 2) := by decide +kernel
theorem dX5_wrong_11 : decode cX5_wrong 11 = .ok (.aload_n 0, 1) := by decide +kernel
theorem dX5_wrong_12 : decode cX5_wrong 12 = .ok (.getfield 27, 3) := by decide +kernel
theorem dX5_wrong_15 : decode cX5_wrong 15 = .ok (.aload_n 0, 1) := by decide +kernel
theorem dX5_wrong_16 : decode cX5_wrong 16 = .ok (.getfield 133, 3) := by decide +kernel
theorem dX5_wrong_19 : decode cX5_wrong 19 = .ok (.iaload, 1) := by decide +kernel
theorem dX5_wrong_20 : decode cX5_wrong 20 = .ok (.imul, 1) := by decide +kernel
theorem dX5_wrong_21 : decode cX5_wrong 21 = .ok (.iadd, 1) := by decide +kernel
theorem dX5_wrong_22 : decode cX5_wrong 22 = .ok (.putfield 136, 3) := by decide +kernel
theorem dX5_wrong_25 : decode cX5_wrong 25 = .ok (.return_, 1) := by decide +kernel
theorem dX5_isSign_0 : decode cX5_isSign 0 = .ok (.aload_n 0, 1) := by decide +kernel
theorem dX5_isSign_1 : decode cX5_isSign 1 = .ok (.getfield 136, 3) := by decide +kernel
theorem dX5_isSign_4 : decode cX5_isSign 4 = .ok (.ifCond .ne 35, 3) := by decide +kernel
theorem dX5_isSign_7 : decode cX5_isSign 7 = .ok (.aload_n 0, 1) := by decide +kernel
theorem dX5_isSign_8 : decode cX5_isSign 8 = .ok (.getfield 24, 3) := by decide +kernel
theorem dX5_isSign_11 : decode cX5_isSign 11 = .ok (.aload_n 0, 1) := by decide +kernel
theorem dX5_isSign_12 : decode cX5_isSign 12 = .ok (.getfield 133, 3) := by decide +kernel
theorem dX5_isSign_15 : decode cX5_isSign 15 = .ok (.iaload, 1) := by decide +kernel
theorem dX5_isSign_16 : decode cX5_isSign 16 = .ok (.iconst 3, 1) := by decide +kernel
theorem dX5_isSign_17 : decode cX5_isSign 17 = .ok (.if_icmp .ne 22, 3) := by decide +kernel
theorem dX5_isSign_20 : decode cX5_isSign 20 = .ok (.aload_n 0, 1) := by decide +kernel
theorem dX5_isSign_21 : decode cX5_isSign 21 = .ok (.getfield 30, 3) := by decide +kernel
theorem dX5_isSign_24 : decode cX5_isSign 24 = .ok (.aload_n 0, 1) := by decide +kernel
theorem dX5_isSign_25 : decode cX5_isSign 25 = .ok (.getfield 133, 3) := by decide +kernel
theorem dX5_isSign_28 : decode cX5_isSign 28 = .ok (.laload, 1) := by decide +kernel
theorem dX5_isSign_29 : decode cX5_isSign 29 = .ok (.iload_n 1, 1) := by decide +kernel
theorem dX5_isSign_30 : decode cX5_isSign 30 = .ok (.i2l, 1) := by decide +kernel
theorem dX5_isSign_31 : decode cX5_isSign 31 = .ok (.lcmp, 1) := by decide +kernel
theorem dX5_isSign_32 : decode cX5_isSign 32 = .ok (.ifCond .ne 7, 3) := by decide +kernel
theorem dX5_isSign_35 : decode cX5_isSign 35 = .ok (.iconst 1, 1) := by decide +kernel
theorem dX5_isSign_36 : decode cX5_isSign 36 = .ok (.goto 4, 3) := by decide +kernel
theorem dX5_isSign_39 : decode cX5_isSign 39 = .ok (.iconst 0, 1) := by decide +kernel
theorem dX5_isSign_40 : decode cX5_isSign 40 = .ok (.ireturn, 1) := by decide +kernel
theorem dX5_isWord_0 : decode cX5_isWord 0 = .ok (.aload_n 0, 1) := by decide +kernel
theorem dX5_isWord_1 : decode cX5_isWord 1 = .ok (.getfield 136, 3) := by decide +kernel
theorem dX5_isWord_4 : decode cX5_isWord 4 = .ok (.ifCond .ne 39, 3) := by decide +kernel
theorem dX5_isWord_7 : decode cX5_isWord 7 = .ok (.aload_n 0, 1) := by decide +kernel
theorem dX5_isWord_8 : decode cX5_isWord 8 = .ok (.getfield 24, 3) := by decide +kernel
theorem dX5_isWord_11 : decode cX5_isWord 11 = .ok (.aload_n 0, 1) := by decide +kernel
theorem dX5_isWord_12 : decode cX5_isWord 12 = .ok (.getfield 133, 3) := by decide +kernel
theorem dX5_isWord_15 : decode cX5_isWord 15 = .ok (.iaload, 1) := by decide +kernel
theorem dX5_isWord_16 : decode cX5_isWord 16 = .ok (.iconst 1, 1) := by decide +kernel
theorem dX5_isWord_17 : decode cX5_isWord 17 = .ok (.if_icmp .ne 26, 3) := by decide +kernel
theorem dX5_isWord_20 : decode cX5_isWord 20 = .ok (.aload_n 0, 1) := by decide +kernel
theorem dX5_isWord_21 : decode cX5_isWord 21 = .ok (.getfield 30, 3) := by decide +kernel
theorem dX5_isWord_24 : decode cX5_isWord 24 = .ok (.aload_n 0, 1) := by decide +kernel
theorem dX5_isWord_25 : decode cX5_isWord 25 = .ok (.getfield 133, 3) := by decide +kernel
theorem dX5_isWord_28 : decode cX5_isWord 28 = .ok (.laload, 1) := by decide +kernel
theorem dX5_isWord_29 : decode cX5_isWord 29 = .ok (.aload_n 0, 1) := by decide +kernel
theorem dX5_isWord_30 : decode cX5_isWord 30 = .ok (.getfield 58, 3) := by decide +kernel
theorem dX5_isWord_33 : decode cX5_isWord 33 = .ok (.iload_n 1, 1) := by decide +kernel
theorem dX5_isWord_34 : decode cX5_isWord 34 = .ok (.laload, 1) := by decide +kernel
theorem dX5_isWord_35 : decode cX5_isWord 35 = .ok (.lcmp, 1) := by decide +kernel
theorem dX5_isWord_36 : decode cX5_isWord 36 = .ok (.ifCond .ne 7, 3) := by decide +kernel
theorem dX5_isWord_39 : decode cX5_isWord 39 = .ok (.iconst 1, 1) := by decide +kernel
theorem dX5_isWord_40 : decode cX5_isWord 40 = .ok (.goto 4, 3) := by decide +kernel
theorem dX5_isWord_43 : decode cX5_isWord 43 = .ok (.iconst 0, 1) := by decide +kernel
theorem dX5_isWord_44 : decode cX5_isWord 44 = .ok (.ireturn, 1) := by decide +kernel
set_option maxRecDepth 20000 in
theorem ggX5_takeSign_X5_isSign : GoodIn wsX5_takeSign wsX5_isSign := goodIn_r _ [6, 7, 8, 1, 9, 15, 16, 17, 18, 19, 20, 21, 22, 23, 24, 25, 26, 27, 28, 29, 30, 31, 32, 33, 34, 35, 36, 37, 38, 39, 40, 41, 42, 43, 44] (by decide +kernel) (by decide +kernel)
set_option maxRecDepth 20000 in
theorem gX5_takeSign_X5_isSign : GoodIn wsX5_takeSign (wsV RX5 139 RX5 yX5_isSign wsX5_isSign) := goodIn_app (goodIn_of _ (by decide +kernel)) ggX5_takeSign_X5_isSign
set_option maxRecDepth 20000 in
theorem ggX5_takeSign_X5_wrong : GoodIn wsX5_takeSign wsX5_wrong := goodIn_r _ [13, 7, 14, 1, 15, 16, 17, 18, 19, 20, 21, 22, 23, 24, 25, 26, 27, 28, 29, 30, 31, 32, 33, 34, 35, 36, 37, 38, 39, 40, 41, 42, 43, 44] (by decide +kernel) (by decide +kernel)
set_option maxRecDepth 20000 in
theorem gX5_takeSign_X5_wrong : GoodIn wsX5_takeSign (wsV RX5 142 RX5 yX5_wrong wsX5_wrong) := goodIn_app (goodIn_of _ (by decide +kernel)) ggX5_takeSign_X5_wrong
theorem dX5_takeSign_0 : decode cX5_takeSign 0 = .ok (.aload_n 0, 1) := by decide +kernel
theorem dX5_takeSign_1 : decode cX5_takeSign 1 = .ok (.iload_n 1, 1) := by decide +kernel
theorem dX5_takeSign_2 : decode cX5_takeSign 2 = .ok (.invokevirtual 139, 3) := by decide +kernel
theorem dX5_takeSign_5 : decode cX5_takeSign 5 = .ok (.ifCond .eq 16, 3) := by decide +kernel
theorem dX5_takeSign_8 : decode cX5_takeSign 8 = .ok (.aload_n 0, 1) := by decide +kernel
theorem dX5_takeSign_9 : decode cX5_takeSign 9 = .ok (.dup, 1) := by decide +kernel
theorem dX5_takeSign_10 : decode cX5_takeSign 10 = .ok (.getfield 133, 3) := by decide +kernel
theorem dX5_takeSign_13 : decode cX5_takeSign 13 = .ok (.iconst 1, 1) := by decide +kernel
theorem dX5_takeSign_14 : decode cX5_takeSign 14 = .ok (.iadd, 1) := by decide +kernel
theorem dX5_takeSign_15 : decode cX5_takeSign 15 = .ok (.putfield 133, 3) := by decide +kernel
theorem dX5_takeSign_18 : decode cX5_takeSign 18 = .ok (.goto 8, 3) := by decide +kernel
theorem dX5_takeSign_21 : decode cX5_takeSign 21 = .ok (.aload_n 0, 1) := by decide +kernel
theorem dX5_takeSign_22 : decode cX5_takeSign 22 = .ok (.iconst 1, 1) := by decide +kernel
theorem dX5_takeSign_23 : decode cX5_takeSign 23 = .ok (.invokevirtual 142, 3) := by decide +kernel
theorem dX5_takeSign_26 : decode cX5_takeSign 26 = .ok (.return_, 1) := by decide +kernel
set_option maxRecDepth 20000 in
theorem ggX5_hasWord_X5_isWord : GoodIn wsX5_hasWord wsX5_isWord := goodIn_r _ [6, 7, 8, 1, 9, 10, 11, 12, 13, 14, 15, 16, 17, 18, 19, 20, 21, 22, 23, 24, 25, 26, 27, 28, 29, 30, 31, 32, 33, 34, 35, 36, 37, 38, 39, 40] (by decide +kernel) (by decide +kernel)
set_option maxRecDepth 20000 in
theorem gX5_hasWord_X5_isWord : GoodIn wsX5_hasWord (wsV RX5 146 RX5 yX5_isWord wsX5_isWord) := goodIn_app (goodIn_of _ (by decide +kernel)) ggX5_hasWord_X5_isWord
theorem dX5_hasWord_0 : decode cX5_hasWord 0 = .ok (.aload_n 0, 1) := by decide +kernel
theorem dX5_hasWord_1 : decode cX5_hasWord 1 = .ok (.iload_n 1, 1) := by decide +kernel
theorem dX5_hasWord_2 : decode cX5_hasWord 2 = .ok (.invokevirtual 146, 3) := by decide +kernel
theorem dX5_hasWord_5 : decode cX5_hasWord 5 = .ok (.istore_n 2, 1) := by decide +kernel
theorem dX5_hasWord_6 : decode cX5_hasWord 6 = .ok (.aload_n 0, 1) := by decide +kernel
theorem dX5_hasWord_7 : decode cX5_hasWord 7 = .ok (.dup, 1) := by decide +kernel
theorem dX5_hasWord_8 : decode cX5_hasWord 8 = .ok (.getfield 133, 3) := by decide +kernel
theorem dX5_hasWord_11 : decode cX5_hasWord 11 = .ok (.iload_n 2, 1) := by decide +kernel
theorem dX5_hasWord_12 : decode cX5_hasWord 12 = .ok (.ifCond .eq 7, 3) := by decide +kernel
theorem dX5_hasWord_15 : decode cX5_hasWord 15 = .ok (.iconst 1, 1) := by decide +kernel
theorem dX5_hasWord_16 : decode cX5_hasWord 16 = .ok (.goto 4, 3) := by decide +kernel
theorem dX5_hasWord_19 : decode cX5_hasWord 19 = .ok (.iconst 0, 1) := by decide +kernel
theorem dX5_hasWord_20 : decode cX5_hasWord 20 = .ok (.iadd, 1) := by decide +kernel
theorem dX5_hasWord_21 : decode cX5_hasWord 21 = .ok (.putfield 133, 3) := by decide +kernel
theorem dX5_hasWord_24 : decode cX5_hasWord 24 = .ok (.iload_n 2, 1) := by decide +kernel
theorem dX5_hasWord_25 : decode cX5_hasWord 25 = .ok (.ireturn, 1) := by decide +kernel
set_option maxRecDepth 20000 in
theorem ggX5_takeWord_X5_hasWord : GoodIn wsX5_takeWord wsX5_hasWord := goodIn_r _ [5, 6, 7, 8, 9, 4, 10, 11, 12, 13, 14, 20, 21, 22, 23, 24, 25, 26, 27, 28, 29, 30, 31, 32, 33, 34, 35, 36, 37, 38, 39, 40, 41, 42, 43, 44, 45, 46, 47, 48, 49] (by decide +kernel) (by decide +kernel)
set_option maxRecDepth 20000 in
theorem gX5_takeWord_X5_hasWord : GoodIn wsX5_takeWord (wsV RX5 149 RX5 yX5_hasWord wsX5_hasWord) := goodIn_app (goodIn_of _ (by decide +kernel)) ggX5_takeWord_X5_hasWord
set_option maxRecDepth 20000 in
theorem ggX5_takeWord_X5_wrong : GoodIn wsX5_takeWord wsX5_wrong := goodIn_r _ [18, 11, 19, 6, 20, 21, 22, 23, 24, 25, 26, 27, 28, 29, 30, 31, 32, 33, 34, 35, 36, 37, 38, 39, 40, 41, 42, 43, 44, 45, 46, 47, 48, 49] (by decide +kernel) (by decide +kernel)
set_option maxRecDepth 20000 in
theorem gX5_takeWord_X5_wrong : GoodIn wsX5_takeWord (wsV RX5 142 RX5 yX5_wrong wsX5_wrong) := goodIn_app (goodIn_of _ (by decide +kernel)) ggX5_takeWord_X5_wrong
theorem dX5_takeWord_0 : decode cX5_takeWord 0 = .ok (.aload_n 0, 1) := by decide +kernel
theorem dX5_takeWord_1 : decode cX5_takeWord 1 = .ok (.iload_n 1, 1) := by decide +kernel
theorem dX5_takeWord_2 : decode cX5_takeWord 2 = .ok (.invokevirtual 149, 3) := by decide +kernel
theorem dX5_takeWord_5 : decode cX5_takeWord 5 = .ok (.ifCond .ne 8, 3) := by decide +kernel
theorem dX5_takeWord_8 : decode cX5_takeWord 8 = .ok (.aload_n 0, 1) := by decide +kernel
theorem dX5_takeWord_9 : decode cX5_takeWord 9 = .ok (.iconst 1, 1) := by decide +kernel
theorem dX5_takeWord_10 : decode cX5_takeWord 10 = .ok (.invokevirtual 142, 3) := by decide +kernel
theorem dX5_takeWord_13 : decode cX5_takeWord 13 = .ok (.return_, 1) := by decide +kernel
set_option maxRecDepth 20000 in
theorem ggX5_takeNumber_X5_wrong : GoodIn wsX5_takeNumber wsX5_wrong := goodIn_r _ [9, 1, 10, 3, 11, 12, 13, 14, 15, 16, 17, 18, 19, 20, 21, 22, 23, 24, 25, 26, 27, 28, 29, 30, 31, 32, 33, 34, 35, 36, 37, 38, 39, 40] (by decide +kernel) (by decide +kernel)
set_option maxRecDepth 20000 in
theorem gX5_takeNumber_X5_wrong : GoodIn wsX5_takeNumber (wsV RX5 142 RX5 yX5_wrong wsX5_wrong) := goodIn_app (goodIn_of _ (by decide +kernel)) ggX5_takeNumber_X5_wrong
theorem dX5_takeNumber_0 : decode cX5_takeNumber 0 = .ok (.aload_n 0, 1) := by decide +kernel
theorem dX5_takeNumber_1 : decode cX5_takeNumber 1 = .ok (.getfield 136, 3) := by decide +kernel
theorem dX5_takeNumber_4 : decode cX5_takeNumber 4 = .ok (.ifCond .ne 24, 3) := by decide +kernel
theorem dX5_takeNumber_7 : decode cX5_takeNumber 7 = .ok (.aload_n 0, 1) := by decide +kernel
theorem dX5_takeNumber_8 : decode cX5_takeNumber 8 = .ok (.getfield 24, 3) := by decide +kernel
theorem dX5_takeNumber_11 : decode cX5_takeNumber 11 = .ok (.aload_n 0, 1) := by decide +kernel
theorem dX5_takeNumber_12 : decode cX5_takeNumber 12 = .ok (.getfield 133, 3) := by decide +kernel
theorem dX5_takeNumber_15 : decode cX5_takeNumber 15 = .ok (.iaload, 1) := by decide +kernel
theorem dX5_takeNumber_16 : decode cX5_takeNumber 16 = .ok (.iconst 2, 1) := by decide +kernel
theorem dX5_takeNumber_17 : decode cX5_takeNumber 17 = .ok (.if_icmp .eq 11, 3) := by decide +kernel
theorem dX5_takeNumber_20 : decode cX5_takeNumber 20 = .ok (.aload_n 0, 1) := by decide +kernel
theorem dX5_takeNumber_21 : decode cX5_takeNumber 21 = .ok (.iconst 1, 1) := by decide +kernel
theorem dX5_takeNumber_22 : decode cX5_takeNumber 22 = .ok (.invokevirtual 142, 3) := by decide +kernel
theorem dX5_takeNumber_25 : decode cX5_takeNumber 25 = .ok (.goto 45, 3) := by decide +kernel
theorem dX5_takeNumber_28 : decode cX5_takeNumber 28 = .ok (.aload_n 0, 1) := by decide +kernel
theorem dX5_takeNumber_29 : decode cX5_takeNumber 29 = .ok (.getfield 136, 3) := by decide +kernel
theorem dX5_takeNumber_32 : decode cX5_takeNumber 32 = .ok (.ifCond .ne 38, 3) := by decide +kernel
theorem dX5_takeNumber_35 : decode cX5_takeNumber 35 = .ok (.aload_n 0, 1) := by decide +kernel
theorem dX5_takeNumber_36 : decode cX5_takeNumber 36 = .ok (.getfield 30, 3) := by decide +kernel
theorem dX5_takeNumber_39 : decode cX5_takeNumber 39 = .ok (.aload_n 0, 1) := by decide +kernel
theorem dX5_takeNumber_40 : decode cX5_takeNumber 40 = .ok (.getfield 133, 3) := by decide +kernel
theorem dX5_takeNumber_43 : decode cX5_takeNumber 43 = .ok (.laload, 1) := by decide +kernel
theorem dX5_takeNumber_44 : decode cX5_takeNumber 44 = .ok (.iload_n 1, 1) := by decide +kernel
theorem dX5_takeNumber_45 : decode cX5_takeNumber 45 = .ok (.i2l, 1) := by decide +kernel
theorem dX5_takeNumber_46 : decode cX5_takeNumber 46 = .ok (.lcmp, 1) := by decide +kernel
theorem dX5_takeNumber_47 : decode cX5_takeNumber 47 = .ok (.ifCond .lt 18, 3) := by decide +kernel
theorem dX5_takeNumber_50 : decode cX5_takeNumber 50 = .ok (.aload_n 0, 1) := by decide +kernel
theorem dX5_takeNumber_51 : decode cX5_takeNumber 51 = .ok (.getfield 30, 3) := by decide +kernel
theorem dX5_takeNumber_54 : decode cX5_takeNumber 54 = .ok (.aload_n 0, 1) := by decide +kernel
theorem dX5_takeNumber_55 : decode cX5_takeNumber 55 = .ok (.getfield 133, 3) := by decide +kernel
theorem dX5_takeNumber_58 : decode cX5_takeNumber 58 = .ok (.laload, 1) := by decide +kernel
theorem dX5_takeNumber_59 : decode cX5_takeNumber 59 = .ok (.iload_n 2, 1) := by decide +kernel
theorem dX5_takeNumber_60 : decode cX5_takeNumber 60 = .ok (.i2l, 1) := by decide +kernel
theorem dX5_takeNumber_61 : decode cX5_takeNumber 61 = .ok (.lcmp, 1) := by decide +kernel
theorem dX5_takeNumber_62 : decode cX5_takeNumber 62 = .ok (.ifCond .le 8, 3) := by decide +kernel
theorem dX5_takeNumber_65 : decode cX5_takeNumber 65 = .ok (.aload_n 0, 1) := by decide +kernel
theorem dX5_takeNumber_66 : decode cX5_takeNumber 66 = .ok (.iconst 4, 1) := by decide +kernel
theorem dX5_takeNumber_67 : decode cX5_takeNumber 67 = .ok (.invokevirtual 142, 3) := by decide +kernel
theorem dX5_takeNumber_70 : decode cX5_takeNumber 70 = .ok (.aload_n 0, 1) := by decide +kernel
theorem dX5_takeNumber_71 : decode cX5_takeNumber 71 = .ok (.dup, 1) := by decide +kernel
theorem dX5_takeNumber_72 : decode cX5_takeNumber 72 = .ok (.getfield 133, 3) := by decide +kernel
theorem dX5_takeNumber_75 : decode cX5_takeNumber 75 = .ok (.iconst 1, 1) := by decide +kernel
theorem dX5_takeNumber_76 : decode cX5_takeNumber 76 = .ok (.iadd, 1) := by decide +kernel
theorem dX5_takeNumber_77 : decode cX5_takeNumber 77 = .ok (.putfield 133, 3) := by decide +kernel
theorem dX5_takeNumber_80 : decode cX5_takeNumber 80 = .ok (.aload_n 0, 1) := by decide +kernel
theorem dX5_takeNumber_81 : decode cX5_takeNumber 81 = .ok (.getfield 136, 3) := by decide +kernel
theorem dX5_takeNumber_84 : decode cX5_takeNumber 84 = .ok (.ifCond .le 7, 3) := by decide +kernel
theorem dX5_takeNumber_87 : decode cX5_takeNumber 87 = .ok (.iconst 0, 1) := by decide +kernel
theorem dX5_takeNumber_88 : decode cX5_takeNumber 88 = .ok (.goto 15, 3) := by decide +kernel
theorem dX5_takeNumber_91 : decode cX5_takeNumber 91 = .ok (.aload_n 0, 1) := by decide +kernel
theorem dX5_takeNumber_92 : decode cX5_takeNumber 92 = .ok (.getfield 30, 3) := by decide +kernel
theorem dX5_takeNumber_95 : decode cX5_takeNumber 95 = .ok (.aload_n 0, 1) := by decide +kernel
theorem dX5_takeNumber_96 : decode cX5_takeNumber 96 = .ok (.getfield 133, 3) := by decide +kernel
theorem dX5_takeNumber_99 : decode cX5_takeNumber 99 = .ok (.iconst 1, 1) := by decide +kernel
theorem dX5_takeNumber_100 : decode cX5_takeNumber 100 = .ok (.isub, 1) := by decide +kernel
theorem dX5_takeNumber_101 : decode cX5_takeNumber 101 = .ok (.laload, 1) := by decide +kernel
theorem dX5_takeNumber_102 : decode cX5_takeNumber 102 = .ok (.l2i, 1) := by decide +kernel
theorem dX5_takeNumber_103 : decode cX5_takeNumber 103 = .ok (.ireturn, 1) := by decide +kernel
set_option maxRecDepth 20000 in
theorem ggX5_grammar_X5_cutAll : GoodIn wsX5_grammar wsX5_cutAll := goodIn_r _ [13, 14, 15, 16, 17, 18, 7, 19, 20, 21, 8, 6, 22, 23, 12, 24, 25, 26, 27, 28, 29, 30, 31, 32, 33, 77, 78, 79, 80, 81, 82, 83, 84, 85, 86, 87, 88, 89, 90, 91, 92, 93, 94, 95, 96, 97, 98, 99, 100, 101, 102, 103, 104, 105, 106] (by decide +kernel) (by decide +kernel)
set_option maxRecDepth 20000 in
theorem gX5_grammar_X5_cutAll : GoodIn wsX5_grammar (wsV RX5 152 RX5 yX5_cutAll wsX5_cutAll) := goodIn_app (goodIn_of _ (by decide +kernel)) ggX5_grammar_X5_cutAll
set_option maxRecDepth 20000 in
theorem ggX5_grammar_X5_isWord : GoodIn wsX5_grammar wsX5_isWord := goodIn_r _ [37, 6, 7, 8, 21, 38, 77, 78, 79, 80, 81, 82, 83, 84, 85, 86, 87, 88, 89, 90, 91, 92, 93, 94, 95, 96, 97, 98, 99, 100, 101, 102, 103, 104, 105, 106] (by decide +kernel) (by decide +kernel)
set_option maxRecDepth 20000 in
theorem gX5_grammar_X5_isWord : GoodIn wsX5_grammar (wsV RX5 146 RX5 yX5_isWord wsX5_isWord) := goodIn_app (goodIn_of _ (by decide +kernel)) ggX5_grammar_X5_isWord
set_option maxRecDepth 20000 in
theorem ggX5_grammar_X5_readGo : GoodIn wsX5_grammar wsX5_readGo := goodIn_r _ [42, 4, 3, 8, 43, 44, 45, 46, 12, 47, 6, 17, 48, 49, 50, 51, 7, 21, 52, 53, 54, 55, 56, 57, 58, 59, 34, 35, 36, 37, 38, 60, 61, 62, 63, 64, 65, 66, 67, 68, 69, 70, 71, 77, 78, 79, 80, 81, 82, 83, 84, 85, 86, 87, 88, 89, 90, 91, 92, 93, 94, 95, 96, 97, 98, 99, 100, 101, 102, 103, 104, 105, 106] (by decide +kernel) (by decide +kernel)
set_option maxRecDepth 20000 in
theorem gX5_grammar_X5_readGo : GoodIn wsX5_grammar (wsV RX5 161 RX5 yX5_readGo wsX5_readGo) := goodIn_app (goodIn_of _ (by decide +kernel)) ggX5_grammar_X5_readGo
set_option maxRecDepth 20000 in
theorem ggX5_grammar_X5_readEnd : GoodIn wsX5_grammar wsX5_readEnd := goodIn_r _ [75, 5, 3, 8, 76, 44, 45, 46, 12, 47, 6, 17, 48, 49, 50, 51, 7, 21, 52, 53, 54, 55, 56, 57, 58, 59, 34, 35, 36, 37, 38, 60, 61, 62, 63, 64, 65, 66, 67, 68, 69, 70, 71, 77, 78, 79, 80, 81, 82, 83, 84, 85, 86, 87, 88, 89, 90, 91, 92, 93, 94, 95, 96, 97, 98, 99, 100, 101, 102, 103, 104, 105, 106] (by decide +kernel) (by decide +kernel)
set_option maxRecDepth 20000 in
theorem gX5_grammar_X5_readEnd : GoodIn wsX5_grammar (wsV RX5 164 RX5 yX5_readEnd wsX5_readEnd) := goodIn_app (goodIn_of _ (by decide +kernel)) ggX5_grammar_X5_readEnd
set_option maxRecDepth 20000 in
theorem ggX5_grammar_X5_wrong : GoodIn wsX5_grammar wsX5_wrong := goodIn_r _ [47, 6, 17, 8, 77, 78, 79, 80, 81, 82, 83, 84, 85, 86, 87, 88, 89, 90, 91, 92, 93, 94, 95, 96, 97, 98, 99, 100, 101, 102, 103, 104, 105, 106] (by decide +kernel) (by decide +kernel)
set_option maxRecDepth 20000 in
theorem gX5_grammar_X5_wrong : GoodIn wsX5_grammar (wsV RX5 142 RX5 yX5_wrong wsX5_wrong) := goodIn_app (goodIn_of _ (by decide +kernel)) ggX5_grammar_X5_wrong
theorem dX5_grammar_0 : decode cX5_grammar 0 = .ok (.aload_n 0, 1) := by decide +kernel
theorem dX5_grammar_1 : decode cX5_grammar 1 = .ok (.iconst 0, 1) := by decide +kernel
theorem dX5_grammar_2 : decode cX5_grammar 2 = .ok (.putfield 1, 3) := by decide +kernel
theorem dX5_grammar_5 : decode cX5_grammar 5 = .ok (.aload_n 0, 1) := by decide +kernel
theorem dX5_grammar_6 : decode cX5_grammar 6 = .ok (.invokevirtual 152, 3) := by decide +kernel
theorem dX5_grammar_9 : decode cX5_grammar 9 = .ok (.aload_n 0, 1) := by decide +kernel
theorem dX5_grammar_10 : decode cX5_grammar 10 = .ok (.iconst 1, 1) := by decide +kernel
theorem dX5_grammar_11 : decode cX5_grammar 11 = .ok (.aload_n 0, 1) := by decide +kernel
theorem dX5_grammar_12 : decode cX5_grammar 12 = .ok (.getfield 155, 3) := by decide +kernel
theorem dX5_grammar_15 : decode cX5_grammar 15 = .ok (.isub, 1) := by decide +kernel
theorem dX5_grammar_16 : decode cX5_grammar 16 = .ok (.putfield 158, 3) := by decide +kernel
theorem dX5_grammar_19 : decode cX5_grammar 19 = .ok (.aload_n 0, 1) := by decide +kernel
theorem dX5_grammar_20 : decode cX5_grammar 20 = .ok (.getfield 61, 3) := by decide +kernel
theorem dX5_grammar_23 : decode cX5_grammar 23 = .ok (.aload_n 0, 1) := by decide +kernel
theorem dX5_grammar_24 : decode cX5_grammar 24 = .ok (.getfield 158, 3) := by decide +kernel
theorem dX5_grammar_27 : decode cX5_grammar 27 = .ok (.iconst 0, 1) := by decide +kernel
theorem dX5_grammar_28 : decode cX5_grammar 28 = .ok (.iastore, 1) := by decide +kernel
theorem dX5_grammar_29 : decode cX5_grammar 29 = .ok (.aload_n 0, 1) := by decide +kernel
theorem dX5_grammar_30 : decode cX5_grammar 30 = .ok (.getfield 67, 3) := by decide +kernel
theorem dX5_grammar_33 : decode cX5_grammar 33 = .ok (.aload_n 0, 1) := by decide +kernel
theorem dX5_grammar_34 : decode cX5_grammar 34 = .ok (.getfield 158, 3) := by decide +kernel
theorem dX5_grammar_37 : decode cX5_grammar 37 = .ok (.iconst 0, 1) := by decide +kernel
theorem dX5_grammar_38 : decode cX5_grammar 38 = .ok (.iastore, 1) := by decide +kernel
theorem dX5_grammar_39 : decode cX5_grammar 39 = .ok (.aload_n 0, 1) := by decide +kernel
theorem dX5_grammar_40 : decode cX5_grammar 40 = .ok (.getfield 136, 3) := by decide +kernel
theorem dX5_grammar_43 : decode cX5_grammar 43 = .ok (.ifCond .ne 54, 3) := by decide +kernel
theorem dX5_grammar_46 : decode cX5_grammar 46 = .ok (.aload_n 0, 1) := by decide +kernel
theorem dX5_grammar_47 : decode cX5_grammar 47 = .ok (.getfield 24, 3) := by decide +kernel
theorem dX5_grammar_50 : decode cX5_grammar 50 = .ok (.aload_n 0, 1) := by decide +kernel
theorem dX5_grammar_51 : decode cX5_grammar 51 = .ok (.getfield 133, 3) := by decide +kernel
theorem dX5_grammar_54 : decode cX5_grammar 54 = .ok (.iaload, 1) := by decide +kernel
theorem dX5_grammar_55 : decode cX5_grammar 55 = .ok (.ifCond .eq 42, 3) := by decide +kernel
theorem dX5_grammar_58 : decode cX5_grammar 58 = .ok (.aload_n 0, 1) := by decide +kernel
theorem dX5_grammar_59 : decode cX5_grammar 59 = .ok (.iconst 0, 1) := by decide +kernel
theorem dX5_grammar_60 : decode cX5_grammar 60 = .ok (.invokevirtual 146, 3) := by decide +kernel
theorem dX5_grammar_63 : decode cX5_grammar 63 = .ok (.ifCond .eq 10, 3) := by decide +kernel
theorem dX5_grammar_66 : decode cX5_grammar 66 = .ok (.aload_n 0, 1) := by decide +kernel
theorem dX5_grammar_67 : decode cX5_grammar 67 = .ok (.invokevirtual 161, 3) := by decide +kernel
theorem dX5_grammar_70 : decode cX5_grammar 70 = .ok (.goto (-31), 3) := by decide +kernel
theorem dX5_grammar_73 : decode cX5_grammar 73 = .ok (.aload_n 0, 1) := by decide +kernel
theorem dX5_grammar_74 : decode cX5_grammar 74 = .ok (.bipush 8, 2) := by decide +kernel
theorem dX5_grammar_76 : decode cX5_grammar 76 = .ok (.invokevirtual 146, 3) := by decide +kernel
theorem dX5_grammar_79 : decode cX5_grammar 79 = .ok (.ifCond .eq 10, 3) := by decide +kernel
theorem dX5_grammar_82 : decode cX5_grammar 82 = .ok (.aload_n 0, 1) := by decide +kernel
theorem dX5_grammar_83 : decode cX5_grammar 83 = .ok (.invokevirtual 164, 3) := by decide +kernel
theorem dX5_grammar_86 : decode cX5_grammar 86 = .ok (.goto (-47), 3) := by decide +kernel
theorem dX5_grammar_89 : decode cX5_grammar 89 = .ok (.aload_n 0, 1) := by decide +kernel
theorem dX5_grammar_90 : decode cX5_grammar 90 = .ok (.iconst 1, 1) := by decide +kernel
theorem dX5_grammar_91 : decode cX5_grammar 91 = .ok (.invokevirtual 142, 3) := by decide +kernel
theorem dX5_grammar_94 : decode cX5_grammar 94 = .ok (.goto (-55), 3) := by decide +kernel
theorem dX5_grammar_97 : decode cX5_grammar 97 = .ok (.aload_n 0, 1) := by decide +kernel
theorem dX5_grammar_98 : decode cX5_grammar 98 = .ok (.getfield 136, 3) := by decide +kernel
theorem dX5_grammar_101 : decode cX5_grammar 101 = .ok (.ifCond .ne 11, 3) := by decide +kernel
theorem dX5_grammar_104 : decode cX5_grammar 104 = .ok (.aload_n 0, 1) := by decide +kernel
theorem dX5_grammar_105 : decode cX5_grammar 105 = .ok (.aload_n 0, 1) := by decide +kernel
theorem dX5_grammar_106 : decode cX5_grammar 106 = .ok (.getfield 158, 3) := by decide +kernel
theorem dX5_grammar_109 : decode cX5_grammar 109 = .ok (.putfield 155, 3) := by decide +kernel
theorem dX5_grammar_112 : decode cX5_grammar 112 = .ok (.aload_n 0, 1) := by decide +kernel
theorem dX5_grammar_113 : decode cX5_grammar 113 = .ok (.getfield 136, 3) := by decide +kernel
theorem dX5_grammar_116 : decode cX5_grammar 116 = .ok (.ireturn, 1) := by decide +kernel
set_option maxRecDepth 20000 in
theorem ggX5_readGo_X5_wrong : GoodIn wsX5_readGo wsX5_wrong := goodIn_r _ [9, 10, 11, 3, 43, 44, 45, 46, 47, 48, 49, 50, 51, 52, 53, 54, 55, 56, 57, 58, 59, 60, 61, 62, 63, 64, 65, 66, 67, 68, 69, 70, 71, 72] (by decide +kernel) (by decide +kernel)
set_option maxRecDepth 20000 in
theorem gX5_readGo_X5_wrong : GoodIn wsX5_readGo (wsV RX5 142 RX5 yX5_wrong wsX5_wrong) := goodIn_app (goodIn_of _ (by decide +kernel)) ggX5_readGo_X5_wrong
set_option maxRecDepth 20000 in
theorem ggX5_readGo_X5_takeNumber : GoodIn wsX5_readGo wsX5_takeNumber := goodIn_r _ [15, 10, 16, 3, 17, 5, 6, 7, 8, 9, 11, 43, 44, 45, 46, 47, 48, 49, 50, 51, 52, 53, 54, 55, 56, 57, 58, 59, 60, 61, 62, 63, 64, 65, 66, 67, 68, 69, 70, 71, 72] (by decide +kernel) (by decide +kernel)
set_option maxRecDepth 20000 in
theorem gX5_readGo_X5_takeNumber : GoodIn wsX5_readGo (wsV RX5 167 RX5 yX5_takeNumber wsX5_takeNumber) := goodIn_app (goodIn_of _ (by decide +kernel)) ggX5_readGo_X5_takeNumber
set_option maxRecDepth 20000 in
theorem ggX5_readGo_X5_takeWord : GoodIn wsX5_readGo wsX5_takeWord := goodIn_r _ [21, 22, 23, 24, 8, 25, 3, 26, 27, 28, 29, 10, 16, 17, 30, 5, 6, 7, 9, 11, 43, 44, 45, 46, 47, 48, 49, 50, 51, 52, 53, 54, 55, 56, 57, 58, 59, 60, 61, 62, 63, 64, 65, 66, 67, 68, 69, 70, 71, 72] (by decide +kernel) (by decide +kernel)
set_option maxRecDepth 20000 in
theorem gX5_readGo_X5_takeWord : GoodIn wsX5_readGo (wsV RX5 171 RX5 yX5_takeWord wsX5_takeWord) := goodIn_app (goodIn_of _ (by decide +kernel)) ggX5_readGo_X5_takeWord
set_option maxRecDepth 20000 in
theorem ggX5_readGo_X5_hasWord : GoodIn wsX5_readGo wsX5_hasWord := goodIn_r _ [25, 3, 26, 27, 28, 8, 29, 10, 16, 17, 30, 43, 44, 45, 46, 47, 48, 49, 50, 51, 52, 53, 54, 55, 56, 57, 58, 59, 60, 61, 62, 63, 64, 65, 66, 67, 68, 69, 70, 71, 72] (by decide +kernel) (by decide +kernel)
set_option maxRecDepth 20000 in
theorem gX5_readGo_X5_hasWord : GoodIn wsX5_readGo (wsV RX5 149 RX5 yX5_hasWord wsX5_hasWord) := goodIn_app (goodIn_of _ (by decide +kernel)) ggX5_readGo_X5_hasWord
set_option maxRecDepth 20000 in
theorem ggX5_readGo_X5_takeOneOf : GoodIn wsX5_readGo wsX5_takeOneOf := goodIn_r _ [34, 10, 22, 23, 24, 8, 25, 3, 26, 27, 28, 29, 16, 17, 30, 5, 6, 7, 9, 11, 43, 44, 45, 46, 47, 48, 49, 50, 51, 52, 53, 54, 55, 56, 57, 58, 59, 60, 61, 62, 63, 64, 65, 66, 67, 68, 69, 70, 71, 72] (by decide +kernel) (by decide +kernel)
set_option maxRecDepth 20000 in
theorem gX5_readGo_X5_takeOneOf : GoodIn wsX5_readGo (wsV RX5 174 RX5 yX5_takeOneOf wsX5_takeOneOf) := goodIn_app (goodIn_of _ (by decide +kernel)) ggX5_readGo_X5_takeOneOf
set_option maxRecDepth 20000 in
theorem ggX5_readGo_X5_takeSign : GoodIn wsX5_readGo wsX5_takeSign := goodIn_r _ [38, 3, 39, 40, 41, 8, 42, 10, 16, 17, 5, 6, 7, 9, 11, 43, 44, 45, 46, 47, 48, 49, 50, 51, 52, 53, 54, 55, 56, 57, 58, 59, 60, 61, 62, 63, 64, 65, 66, 67, 68, 69, 70, 71, 72] (by decide +kernel) (by decide +kernel)
set_option maxRecDepth 20000 in
theorem gX5_readGo_X5_takeSign : GoodIn wsX5_readGo (wsV RX5 177 RX5 yX5_takeSign wsX5_takeSign) := goodIn_app (goodIn_of _ (by decide +kernel)) ggX5_readGo_X5_takeSign
theorem dX5_readGo_0 : decode cX5_readGo 0 = .ok (.aload_n 0, 1) := by decide +kernel
theorem dX5_readGo_1 : decode cX5_readGo 1 = .ok (.getfield 61, 3) := by decide +kernel
theorem dX5_readGo_4 : decode cX5_readGo 4 = .ok (.aload_n 0, 1) := by decide +kernel
theorem dX5_readGo_5 : decode cX5_readGo 5 = .ok (.getfield 158, 3) := by decide +kernel
theorem dX5_readGo_8 : decode cX5_readGo 8 = .ok (.iaload, 1) := by decide +kernel
theorem dX5_readGo_9 : decode cX5_readGo 9 = .ok (.bipush 40, 2) := by decide +kernel
theorem dX5_readGo_11 : decode cX5_readGo 11 = .ok (.if_icmp .ne 9, 3) := by decide +kernel
theorem dX5_readGo_14 : decode cX5_readGo 14 = .ok (.aload_n 0, 1) := by decide +kernel
theorem dX5_readGo_15 : decode cX5_readGo 15 = .ok (.iconst 5, 1) := by decide +kernel
theorem dX5_readGo_16 : decode cX5_readGo 16 = .ok (.invokevirtual 142, 3) := by decide +kernel
theorem dX5_readGo_19 : decode cX5_readGo 19 = .ok (.return_, 1) := by decide +kernel
theorem dX5_readGo_20 : decode cX5_readGo 20 = .ok (.aload_n 0, 1) := by decide +kernel
theorem dX5_readGo_21 : decode cX5_readGo 21 = .ok (.dup, 1) := by decide +kernel
theorem dX5_readGo_22 : decode cX5_readGo 22 = .ok (.getfield 133, 3) := by decide +kernel
theorem dX5_readGo_25 : decode cX5_readGo 25 = .ok (.iconst 1, 1) := by decide +kernel
theorem dX5_readGo_26 : decode cX5_readGo 26 = .ok (.iadd, 1) := by decide +kernel
theorem dX5_readGo_27 : decode cX5_readGo 27 = .ok (.putfield 133, 3) := by decide +kernel
theorem dX5_readGo_30 : decode cX5_readGo 30 = .ok (.iconst 5, 1) := by decide +kernel
theorem dX5_readGo_31 : decode cX5_readGo 31 = .ok (.bipush 40, 2) := by decide +kernel
theorem dX5_readGo_33 : decode cX5_readGo 33 = .ok (.aload_n 0, 1) := by decide +kernel
theorem dX5_readGo_34 : decode cX5_readGo 34 = .ok (.getfield 158, 3) := by decide +kernel
theorem dX5_readGo_37 : decode cX5_readGo 37 = .ok (.imul, 1) := by decide +kernel
theorem dX5_readGo_38 : decode cX5_readGo 38 = .ok (.aload_n 0, 1) := by decide +kernel
theorem dX5_readGo_39 : decode cX5_readGo 39 = .ok (.getfield 61, 3) := by decide +kernel
theorem dX5_readGo_42 : decode cX5_readGo 42 = .ok (.aload_n 0, 1) := by decide +kernel
theorem dX5_readGo_43 : decode cX5_readGo 43 = .ok (.getfield 158, 3) := by decide +kernel
theorem dX5_readGo_46 : decode cX5_readGo 46 = .ok (.iaload, 1) := by decide +kernel
theorem dX5_readGo_47 : decode cX5_readGo 47 = .ok (.iadd, 1) := by decide +kernel
theorem dX5_readGo_48 : decode cX5_readGo 48 = .ok (.imul, 1) := by decide +kernel
theorem dX5_readGo_49 : decode cX5_readGo 49 = .ok (.istore_n 1, 1) := by decide +kernel
theorem dX5_readGo_50 : decode cX5_readGo 50 = .ok (.aload_n 0, 1) := by decide +kernel
theorem dX5_readGo_51 : decode cX5_readGo 51 = .ok (.getfield 64, 3) := by decide +kernel
theorem dX5_readGo_54 : decode cX5_readGo 54 = .ok (.iload_n 1, 1) := by decide +kernel
theorem dX5_readGo_55 : decode cX5_readGo 55 = .ok (.aload_n 0, 1) := by decide +kernel
theorem dX5_readGo_56 : decode cX5_readGo 56 = .ok (.iconst 0, 1) := by decide +kernel
theorem dX5_readGo_57 : decode cX5_readGo 57 = .ok (.bipush 9, 2) := by decide +kernel
theorem dX5_readGo_59 : decode cX5_readGo 59 = .ok (.invokevirtual 167, 3) := by decide +kernel
theorem dX5_readGo_62 : decode cX5_readGo 62 = .ok (.iastore, 1) := by decide +kernel
theorem dX5_readGo_63 : decode cX5_readGo 63 = .ok (.aload_n 0, 1) := by decide +kernel
theorem dX5_readGo_64 : decode cX5_readGo 64 = .ok (.iconst 1, 1) := by decide +kernel
theorem dX5_readGo_65 : decode cX5_readGo 65 = .ok (.invokevirtual 171, 3) := by decide +kernel
theorem dX5_readGo_68 : decode cX5_readGo 68 = .ok (.aload_n 0, 1) := by decide +kernel
theorem dX5_readGo_69 : decode cX5_readGo 69 = .ok (.getfield 64, 3) := by decide +kernel
theorem dX5_readGo_72 : decode cX5_readGo 72 = .ok (.iload_n 1, 1) := by decide +kernel
theorem dX5_readGo_73 : decode cX5_readGo 73 = .ok (.iconst 1, 1) := by decide +kernel
theorem dX5_readGo_74 : decode cX5_readGo 74 = .ok (.iadd, 1) := by decide +kernel
theorem dX5_readGo_75 : decode cX5_readGo 75 = .ok (.aload_n 0, 1) := by decide +kernel
theorem dX5_readGo_76 : decode cX5_readGo 76 = .ok (.iconst 0, 1) := by decide +kernel
theorem dX5_readGo_77 : decode cX5_readGo 77 = .ok (.bipush 7, 2) := by decide +kernel
theorem dX5_readGo_79 : decode cX5_readGo 79 = .ok (.invokevirtual 167, 3) := by decide +kernel
theorem dX5_readGo_82 : decode cX5_readGo 82 = .ok (.iastore, 1) := by decide +kernel
theorem dX5_readGo_83 : decode cX5_readGo 83 = .ok (.aload_n 0, 1) := by decide +kernel
theorem dX5_readGo_84 : decode cX5_readGo 84 = .ok (.iconst 2, 1) := by decide +kernel
theorem dX5_readGo_85 : decode cX5_readGo 85 = .ok (.invokevirtual 171, 3) := by decide +kernel
theorem dX5_readGo_88 : decode cX5_readGo 88 = .ok (.aload_n 0, 1) := by decide +kernel
theorem dX5_readGo_89 : decode cX5_readGo 89 = .ok (.getfield 64, 3) := by decide +kernel
theorem dX5_readGo_92 : decode cX5_readGo 92 = .ok (.iload_n 1, 1) := by decide +kernel
theorem dX5_readGo_93 : decode cX5_readGo 93 = .ok (.iconst 2, 1) := by decide +kernel
theorem dX5_readGo_94 : decode cX5_readGo 94 = .ok (.iadd, 1) := by decide +kernel
theorem dX5_readGo_95 : decode cX5_readGo 95 = .ok (.aload_n 0, 1) := by decide +kernel
theorem dX5_readGo_96 : decode cX5_readGo 96 = .ok (.iconst 0, 1) := by decide +kernel
theorem dX5_readGo_97 : decode cX5_readGo 97 = .ok (.bipush 9, 2) := by decide +kernel
theorem dX5_readGo_99 : decode cX5_readGo 99 = .ok (.invokevirtual 167, 3) := by decide +kernel
theorem dX5_readGo_102 : decode cX5_readGo 102 = .ok (.iastore, 1) := by decide +kernel
theorem dX5_readGo_103 : decode cX5_readGo 103 = .ok (.aload_n 0, 1) := by decide +kernel
theorem dX5_readGo_104 : decode cX5_readGo 104 = .ok (.iconst 3, 1) := by decide +kernel
theorem dX5_readGo_105 : decode cX5_readGo 105 = .ok (.invokevirtual 171, 3) := by decide +kernel
theorem dX5_readGo_108 : decode cX5_readGo 108 = .ok (.aload_n 0, 1) := by decide +kernel
theorem dX5_readGo_109 : decode cX5_readGo 109 = .ok (.getfield 64, 3) := by decide +kernel
theorem dX5_readGo_112 : decode cX5_readGo 112 = .ok (.iload_n 1, 1) := by decide +kernel
theorem dX5_readGo_113 : decode cX5_readGo 113 = .ok (.iconst 3, 1) := by decide +kernel
theorem dX5_readGo_114 : decode cX5_readGo 114 = .ok (.iadd, 1) := by decide +kernel
theorem dX5_readGo_115 : decode cX5_readGo 115 = .ok (.aload_n 0, 1) := by decide +kernel
theorem dX5_readGo_116 : decode cX5_readGo 116 = .ok (.iconst 0, 1) := by decide +kernel
theorem dX5_readGo_117 : decode cX5_readGo 117 = .ok (.sipush 999, 3) := by decide +kernel
theorem dX5_readGo_120 : decode cX5_readGo 120 = .ok (.invokevirtual 167, 3) := by decide +kernel
theorem dX5_readGo_123 : decode cX5_readGo 123 = .ok (.iastore, 1) := by decide +kernel
theorem dX5_readGo_124 : decode cX5_readGo 124 = .ok (.aload_n 0, 1) := by decide +kernel
theorem dX5_readGo_125 : decode cX5_readGo 125 = .ok (.getfield 64, 3) := by decide +kernel
theorem dX5_readGo_128 : decode cX5_readGo 128 = .ok (.iload_n 1, 1) := by decide +kernel
theorem dX5_readGo_129 : decode cX5_readGo 129 = .ok (.iconst 4, 1) := by decide +kernel
theorem dX5_readGo_130 : decode cX5_readGo 130 = .ok (.iadd, 1) := by decide +kernel
theorem dX5_readGo_131 : decode cX5_readGo 131 = .ok (.aload_n 0, 1) := by decide +kernel
theorem dX5_readGo_132 : decode cX5_readGo 132 = .ok (.iconst 4, 1) := by decide +kernel
theorem dX5_readGo_133 : decode cX5_readGo 133 = .ok (.invokevirtual 149, 3) := by decide +kernel
theorem dX5_readGo_136 : decode cX5_readGo 136 = .ok (.ifCond .eq 13, 3) := by decide +kernel
theorem dX5_readGo_139 : decode cX5_readGo 139 = .ok (.aload_n 0, 1) := by decide +kernel
theorem dX5_readGo_140 : decode cX5_readGo 140 = .ok (.iconst 5, 1) := by decide +kernel
theorem dX5_readGo_141 : decode cX5_readGo 141 = .ok (.invokevirtual 174, 3) := by decide +kernel
theorem dX5_readGo_144 : decode cX5_readGo 144 = .ok (.iconst 1, 1) := by decide +kernel
theorem dX5_readGo_145 : decode cX5_readGo 145 = .ok (.iadd, 1) := by decide +kernel
theorem dX5_readGo_146 : decode cX5_readGo 146 = .ok (.goto 4, 3) := by decide +kernel
theorem dX5_readGo_149 : decode cX5_readGo 149 = .ok (.iconst 0, 1) := by decide +kernel
theorem dX5_readGo_150 : decode cX5_readGo 150 = .ok (.iastore, 1) := by decide +kernel
theorem dX5_readGo_151 : decode cX5_readGo 151 = .ok (.aload_n 0, 1) := by decide +kernel
theorem dX5_readGo_152 : decode cX5_readGo 152 = .ok (.bipush 59, 2) := by decide +kernel
theorem dX5_readGo_154 : decode cX5_readGo 154 = .ok (.invokevirtual 177, 3) := by decide +kernel
theorem dX5_readGo_157 : decode cX5_readGo 157 = .ok (.aload_n 0, 1) := by decide +kernel
theorem dX5_readGo_158 : decode cX5_readGo 158 = .ok (.getfield 61, 3) := by decide +kernel
theorem dX5_readGo_161 : decode cX5_readGo 161 = .ok (.aload_n 0, 1) := by decide +kernel
theorem dX5_readGo_162 : decode cX5_readGo 162 = .ok (.getfield 158, 3) := by decide +kernel
theorem dX5_readGo_165 : decode cX5_readGo 165 = .ok (.dup2, 1) := by decide +kernel
theorem dX5_readGo_166 : decode cX5_readGo 166 = .ok (.iaload, 1) := by decide +kernel
theorem dX5_readGo_167 : decode cX5_readGo 167 = .ok (.iconst 1, 1) := by decide +kernel
theorem dX5_readGo_168 : decode cX5_readGo 168 = .ok (.iadd, 1) := by decide +kernel
theorem dX5_readGo_169 : decode cX5_readGo 169 = .ok (.iastore, 1) := by decide +kernel
theorem dX5_readGo_170 : decode cX5_readGo 170 = .ok (.return_, 1) := by decide +kernel
set_option maxRecDepth 20000 in
theorem ggX5_takeOneOf_X5_hasWord : GoodIn wsX5_takeOneOf wsX5_hasWord := goodIn_r _ [6, 7, 8, 9, 10, 5, 11, 1, 12, 13, 14, 20, 21, 22, 23, 24, 25, 26, 27, 28, 29, 30, 31, 32, 33, 34, 35, 36, 37, 38, 39, 40, 41, 42, 43, 44, 45, 46, 47, 48, 49] (by decide +kernel) (by decide +kernel)
set_option maxRecDepth 20000 in
theorem gX5_takeOneOf_X5_hasWord : GoodIn wsX5_takeOneOf (wsV RX5 149 RX5 yX5_hasWord wsX5_hasWord) := goodIn_app (goodIn_of _ (by decide +kernel)) ggX5_takeOneOf_X5_hasWord
set_option maxRecDepth 20000 in
theorem ggX5_takeOneOf_X5_wrong : GoodIn wsX5_takeOneOf wsX5_wrong := goodIn_r _ [18, 1, 19, 7, 20, 21, 22, 23, 24, 25, 26, 27, 28, 29, 30, 31, 32, 33, 34, 35, 36, 37, 38, 39, 40, 41, 42, 43, 44, 45, 46, 47, 48, 49] (by decide +kernel) (by decide +kernel)
set_option maxRecDepth 20000 in
theorem gX5_takeOneOf_X5_wrong : GoodIn wsX5_takeOneOf (wsV RX5 142 RX5 yX5_wrong wsX5_wrong) := goodIn_app (goodIn_of _ (by decide +kernel)) ggX5_takeOneOf_X5_wrong
theorem dX5_takeOneOf_0 : decode cX5_takeOneOf 0 = .ok (.iconst 0, 1) := by decide +kernel
theorem dX5_takeOneOf_1 : decode cX5_takeOneOf 1 = .ok (.istore_n 2, 1) := by decide +kernel
theorem dX5_takeOneOf_2 : decode cX5_takeOneOf 2 = .ok (.iload_n 2, 1) := by decide +kernel
theorem dX5_takeOneOf_3 : decode cX5_takeOneOf 3 = .ok (.iconst 3, 1) := by decide +kernel
theorem dX5_takeOneOf_4 : decode cX5_takeOneOf 4 = .ok (.if_icmp .ge 21, 3) := by decide +kernel
theorem dX5_takeOneOf_7 : decode cX5_takeOneOf 7 = .ok (.aload_n 0, 1) := by decide +kernel
theorem dX5_takeOneOf_8 : decode cX5_takeOneOf 8 = .ok (.iload_n 1, 1) := by decide +kernel
theorem dX5_takeOneOf_9 : decode cX5_takeOneOf 9 = .ok (.iload_n 2, 1) := by decide +kernel
theorem dX5_takeOneOf_10 : decode cX5_takeOneOf 10 = .ok (.iadd, 1) := by decide +kernel
theorem dX5_takeOneOf_11 : decode cX5_takeOneOf 11 = .ok (.invokevirtual 149, 3) := by decide +kernel
theorem dX5_takeOneOf_14 : decode cX5_takeOneOf 14 = .ok (.ifCond .eq 5, 3) := by decide +kernel
theorem dX5_takeOneOf_17 : decode cX5_takeOneOf 17 = .ok (.iload_n 2, 1) := by decide +kernel
theorem dX5_takeOneOf_18 : decode cX5_takeOneOf 18 = .ok (.ireturn, 1) := by decide +kernel
theorem dX5_takeOneOf_19 : decode cX5_takeOneOf 19 = .ok (.iinc 2 1, 3) := by decide +kernel
theorem dX5_takeOneOf_22 : decode cX5_takeOneOf 22 = .ok (.goto (-20), 3) := by decide +kernel
theorem dX5_takeOneOf_25 : decode cX5_takeOneOf 25 = .ok (.aload_n 0, 1) := by decide +kernel
theorem dX5_takeOneOf_26 : decode cX5_takeOneOf 26 = .ok (.getfield 136, 3) := by decide +kernel
theorem dX5_takeOneOf_29 : decode cX5_takeOneOf 29 = .ok (.ifCond .ne 8, 3) := by decide +kernel
theorem dX5_takeOneOf_32 : decode cX5_takeOneOf 32 = .ok (.aload_n 0, 1) := by decide +kernel
theorem dX5_takeOneOf_33 : decode cX5_takeOneOf 33 = .ok (.iconst 1, 1) := by decide +kernel
theorem dX5_takeOneOf_34 : decode cX5_takeOneOf 34 = .ok (.invokevirtual 142, 3) := by decide +kernel
theorem dX5_takeOneOf_37 : decode cX5_takeOneOf 37 = .ok (.iconst 0, 1) := by decide +kernel
theorem dX5_takeOneOf_38 : decode cX5_takeOneOf 38 = .ok (.ireturn, 1) := by decide +kernel
set_option maxRecDepth 20000 in
theorem ggX5_readEnd_X5_wrong : GoodIn wsX5_readEnd wsX5_wrong := goodIn_r _ [9, 10, 11, 3, 43, 44, 45, 46, 47, 48, 49, 50, 51, 52, 53, 54, 55, 56, 57, 58, 59, 60, 61, 62, 63, 64, 65, 66, 67, 68, 69, 70, 71, 72] (by decide +kernel) (by decide +kernel)
set_option maxRecDepth 20000 in
theorem gX5_readEnd_X5_wrong : GoodIn wsX5_readEnd (wsV RX5 142 RX5 yX5_wrong wsX5_wrong) := goodIn_app (goodIn_of _ (by decide +kernel)) ggX5_readEnd_X5_wrong
set_option maxRecDepth 20000 in
theorem ggX5_readEnd_X5_takeNumber : GoodIn wsX5_readEnd wsX5_takeNumber := goodIn_r _ [15, 10, 16, 3, 17, 5, 6, 7, 8, 9, 11, 43, 44, 45, 46, 47, 48, 49, 50, 51, 52, 53, 54, 55, 56, 57, 58, 59, 60, 61, 62, 63, 64, 65, 66, 67, 68, 69, 70, 71, 72] (by decide +kernel) (by decide +kernel)
set_option maxRecDepth 20000 in
theorem gX5_readEnd_X5_takeNumber : GoodIn wsX5_readEnd (wsV RX5 167 RX5 yX5_takeNumber wsX5_takeNumber) := goodIn_app (goodIn_of _ (by decide +kernel)) ggX5_readEnd_X5_takeNumber
set_option maxRecDepth 20000 in
theorem ggX5_readEnd_X5_takeWord : GoodIn wsX5_readEnd wsX5_takeWord := goodIn_r _ [21, 22, 23, 24, 8, 25, 3, 26, 27, 28, 29, 10, 16, 17, 30, 5, 6, 7, 9, 11, 43, 44, 45, 46, 47, 48, 49, 50, 51, 52, 53, 54, 55, 56, 57, 58, 59, 60, 61, 62, 63, 64, 65, 66, 67, 68, 69, 70, 71, 72] (by decide +kernel) (by decide +kernel)
set_option maxRecDepth 20000 in
theorem gX5_readEnd_X5_takeWord : GoodIn wsX5_readEnd (wsV RX5 171 RX5 yX5_takeWord wsX5_takeWord) := goodIn_app (goodIn_of _ (by decide +kernel)) ggX5_readEnd_X5_takeWord
set_option maxRecDepth 20000 in
theorem ggX5_readEnd_X5_takeOneOf : GoodIn wsX5_readEnd wsX5_takeOneOf := goodIn_r _ [34, 10, 22, 23, 24, 8, 25, 3, 26, 27, 28, 29, 16, 17, 30, 5, 6, 7, 9, 11, 43, 44, 45, 46, 47, 48, 49, 50, 51, 52, 53, 54, 55, 56, 57, 58, 59, 60, 61, 62, 63, 64, 65, 66, 67, 68, 69, 70, 71, 72] (by decide +kernel) (by decide +kernel)
set_option maxRecDepth 20000 in
theorem gX5_readEnd_X5_takeOneOf : GoodIn wsX5_readEnd (wsV RX5 174 RX5 yX5_takeOneOf wsX5_takeOneOf) := goodIn_app (goodIn_of _ (by decide +kernel)) ggX5_readEnd_X5_takeOneOf
set_option maxRecDepth 20000 in
theorem ggX5_readEnd_X5_takeSign : GoodIn wsX5_readEnd wsX5_takeSign := goodIn_r _ [38, 3, 39, 40, 41, 8, 42, 10, 16, 17, 5, 6, 7, 9, 11, 43, 44, 45, 46, 47, 48, 49, 50, 51, 52, 53, 54, 55, 56, 57, 58, 59, 60, 61, 62, 63, 64, 65, 66, 67, 68, 69, 70, 71, 72] (by decide +kernel) (by decide +kernel)
set_option maxRecDepth 20000 in
theorem gX5_readEnd_X5_takeSign : GoodIn wsX5_readEnd (wsV RX5 177 RX5 yX5_takeSign wsX5_takeSign) := goodIn_app (goodIn_of _ (by decide +kernel)) ggX5_readEnd_X5_takeSign
theorem dX5_readEnd_0 : decode cX5_readEnd 0 = .ok (.aload_n 0, 1) := by decide +kernel
theorem dX5_readEnd_1 : decode cX5_readEnd 1 = .ok (.getfield 67, 3) := by decide +kernel
theorem dX5_readEnd_4 : decode cX5_readEnd 4 = .ok (.aload_n 0, 1) := by decide +kernel
theorem dX5_readEnd_5 : decode cX5_readEnd 5 = .ok (.getfield 158, 3) := by decide +kernel
theorem dX5_readEnd_8 : decode cX5_readEnd 8 = .ok (.iaload, 1) := by decide +kernel
theorem dX5_readEnd_9 : decode cX5_readEnd 9 = .ok (.bipush 10, 2) := by decide +kernel
theorem dX5_readEnd_11 : decode cX5_readEnd 11 = .ok (.if_icmp .ne 9, 3) := by decide +kernel
theorem dX5_readEnd_14 : decode cX5_readEnd 14 = .ok (.aload_n 0, 1) := by decide +kernel
theorem dX5_readEnd_15 : decode cX5_readEnd 15 = .ok (.iconst 5, 1) := by decide +kernel
theorem dX5_readEnd_16 : decode cX5_readEnd 16 = .ok (.invokevirtual 142, 3) := by decide +kernel
theorem dX5_readEnd_19 : decode cX5_readEnd 19 = .ok (.return_, 1) := by decide +kernel
theorem dX5_readEnd_20 : decode cX5_readEnd 20 = .ok (.aload_n 0, 1) := by decide +kernel
theorem dX5_readEnd_21 : decode cX5_readEnd 21 = .ok (.dup, 1) := by decide +kernel
theorem dX5_readEnd_22 : decode cX5_readEnd 22 = .ok (.getfield 133, 3) := by decide +kernel
theorem dX5_readEnd_25 : decode cX5_readEnd 25 = .ok (.iconst 1, 1) := by decide +kernel
theorem dX5_readEnd_26 : decode cX5_readEnd 26 = .ok (.iadd, 1) := by decide +kernel
theorem dX5_readEnd_27 : decode cX5_readEnd 27 = .ok (.putfield 133, 3) := by decide +kernel
theorem dX5_readEnd_30 : decode cX5_readEnd 30 = .ok (.iconst 3, 1) := by decide +kernel
theorem dX5_readEnd_31 : decode cX5_readEnd 31 = .ok (.bipush 10, 2) := by decide +kernel
theorem dX5_readEnd_33 : decode cX5_readEnd 33 = .ok (.aload_n 0, 1) := by decide +kernel
theorem dX5_readEnd_34 : decode cX5_readEnd 34 = .ok (.getfield 158, 3) := by decide +kernel
theorem dX5_readEnd_37 : decode cX5_readEnd 37 = .ok (.imul, 1) := by decide +kernel
theorem dX5_readEnd_38 : decode cX5_readEnd 38 = .ok (.aload_n 0, 1) := by decide +kernel
theorem dX5_readEnd_39 : decode cX5_readEnd 39 = .ok (.getfield 67, 3) := by decide +kernel
theorem dX5_readEnd_42 : decode cX5_readEnd 42 = .ok (.aload_n 0, 1) := by decide +kernel
theorem dX5_readEnd_43 : decode cX5_readEnd 43 = .ok (.getfield 158, 3) := by decide +kernel
theorem dX5_readEnd_46 : decode cX5_readEnd 46 = .ok (.iaload, 1) := by decide +kernel
theorem dX5_readEnd_47 : decode cX5_readEnd 47 = .ok (.iadd, 1) := by decide +kernel
theorem dX5_readEnd_48 : decode cX5_readEnd 48 = .ok (.imul, 1) := by decide +kernel
theorem dX5_readEnd_49 : decode cX5_readEnd 49 = .ok (.istore_n 1, 1) := by decide +kernel
theorem dX5_readEnd_50 : decode cX5_readEnd 50 = .ok (.aload_n 0, 1) := by decide +kernel
theorem dX5_readEnd_51 : decode cX5_readEnd 51 = .ok (.getfield 70, 3) := by decide +kernel
theorem dX5_readEnd_54 : decode cX5_readEnd 54 = .ok (.iload_n 1, 1) := by decide +kernel
theorem dX5_readEnd_55 : decode cX5_readEnd 55 = .ok (.aload_n 0, 1) := by decide +kernel
theorem dX5_readEnd_56 : decode cX5_readEnd 56 = .ok (.iconst 0, 1) := by decide +kernel
theorem dX5_readEnd_57 : decode cX5_readEnd 57 = .ok (.bipush 9, 2) := by decide +kernel
theorem dX5_readEnd_59 : decode cX5_readEnd 59 = .ok (.invokevirtual 167, 3) := by decide +kernel
theorem dX5_readEnd_62 : decode cX5_readEnd 62 = .ok (.iastore, 1) := by decide +kernel
theorem dX5_readEnd_63 : decode cX5_readEnd 63 = .ok (.aload_n 0, 1) := by decide +kernel
theorem dX5_readEnd_64 : decode cX5_readEnd 64 = .ok (.iconst 3, 1) := by decide +kernel
theorem dX5_readEnd_65 : decode cX5_readEnd 65 = .ok (.invokevirtual 171, 3) := by decide +kernel
theorem dX5_readEnd_68 : decode cX5_readEnd 68 = .ok (.aload_n 0, 1) := by decide +kernel
theorem dX5_readEnd_69 : decode cX5_readEnd 69 = .ok (.getfield 70, 3) := by decide +kernel
theorem dX5_readEnd_72 : decode cX5_readEnd 72 = .ok (.iload_n 1, 1) := by decide +kernel
theorem dX5_readEnd_73 : decode cX5_readEnd 73 = .ok (.iconst 1, 1) := by decide +kernel
theorem dX5_readEnd_74 : decode cX5_readEnd 74 = .ok (.iadd, 1) := by decide +kernel
theorem dX5_readEnd_75 : decode cX5_readEnd 75 = .ok (.aload_n 0, 1) := by decide +kernel
theorem dX5_readEnd_76 : decode cX5_readEnd 76 = .ok (.iconst 0, 1) := by decide +kernel
theorem dX5_readEnd_77 : decode cX5_readEnd 77 = .ok (.sipush 999, 3) := by decide +kernel
theorem dX5_readEnd_80 : decode cX5_readEnd 80 = .ok (.invokevirtual 167, 3) := by decide +kernel
theorem dX5_readEnd_83 : decode cX5_readEnd 83 = .ok (.iastore, 1) := by decide +kernel
theorem dX5_readEnd_84 : decode cX5_readEnd 84 = .ok (.aload_n 0, 1) := by decide +kernel
theorem dX5_readEnd_85 : decode cX5_readEnd 85 = .ok (.iconst 4, 1) := by decide +kernel
theorem dX5_readEnd_86 : decode cX5_readEnd 86 = .ok (.invokevirtual 171, 3) := by decide +kernel
theorem dX5_readEnd_89 : decode cX5_readEnd 89 = .ok (.aload_n 0, 1) := by decide +kernel
theorem dX5_readEnd_90 : decode cX5_readEnd 90 = .ok (.getfield 70, 3) := by decide +kernel
theorem dX5_readEnd_93 : decode cX5_readEnd 93 = .ok (.iload_n 1, 1) := by decide +kernel
theorem dX5_readEnd_94 : decode cX5_readEnd 94 = .ok (.iconst 2, 1) := by decide +kernel
theorem dX5_readEnd_95 : decode cX5_readEnd 95 = .ok (.iadd, 1) := by decide +kernel
theorem dX5_readEnd_96 : decode cX5_readEnd 96 = .ok (.aload_n 0, 1) := by decide +kernel
theorem dX5_readEnd_97 : decode cX5_readEnd 97 = .ok (.bipush 9, 2) := by decide +kernel
theorem dX5_readEnd_99 : decode cX5_readEnd 99 = .ok (.invokevirtual 174, 3) := by decide +kernel
theorem dX5_readEnd_102 : decode cX5_readEnd 102 = .ok (.iconst 4, 1) := by decide +kernel
theorem dX5_readEnd_103 : decode cX5_readEnd 103 = .ok (.iadd, 1) := by decide +kernel
theorem dX5_readEnd_104 : decode cX5_readEnd 104 = .ok (.iastore, 1) := by decide +kernel
theorem dX5_readEnd_105 : decode cX5_readEnd 105 = .ok (.aload_n 0, 1) := by decide +kernel
theorem dX5_readEnd_106 : decode cX5_readEnd 106 = .ok (.bipush 59, 2) := by decide +kernel
theorem dX5_readEnd_108 : decode cX5_readEnd 108 = .ok (.invokevirtual 177, 3) := by decide +kernel
theorem dX5_readEnd_111 : decode cX5_readEnd 111 = .ok (.aload_n 0, 1) := by decide +kernel
theorem dX5_readEnd_112 : decode cX5_readEnd 112 = .ok (.getfield 67, 3) := by decide +kernel
theorem dX5_readEnd_115 : decode cX5_readEnd 115 = .ok (.aload_n 0, 1) := by decide +kernel
theorem dX5_readEnd_116 : decode cX5_readEnd 116 = .ok (.getfield 158, 3) := by decide +kernel
theorem dX5_readEnd_119 : decode cX5_readEnd 119 = .ok (.dup2, 1) := by decide +kernel
theorem dX5_readEnd_120 : decode cX5_readEnd 120 = .ok (.iaload, 1) := by decide +kernel
theorem dX5_readEnd_121 : decode cX5_readEnd 121 = .ok (.iconst 1, 1) := by decide +kernel
theorem dX5_readEnd_122 : decode cX5_readEnd 122 = .ok (.iadd, 1) := by decide +kernel
theorem dX5_readEnd_123 : decode cX5_readEnd 123 = .ok (.iastore, 1) := by decide +kernel
theorem dX5_readEnd_124 : decode cX5_readEnd 124 = .ok (.return_, 1) := by decide +kernel
theorem dX5_goOf_0 : decode cX5_goOf 0 = .ok (.aload_n 0, 1) := by decide +kernel
theorem dX5_goOf_1 : decode cX5_goOf 1 = .ok (.getfield 64, 3) := by decide +kernel
theorem dX5_goOf_4 : decode cX5_goOf 4 = .ok (.iconst 5, 1) := by decide +kernel
theorem dX5_goOf_5 : decode cX5_goOf 5 = .ok (.bipush 40, 2) := by decide +kernel
theorem dX5_goOf_7 : decode cX5_goOf 7 = .ok (.aload_n 0, 1) := by decide +kernel
theorem dX5_goOf_8 : decode cX5_goOf 8 = .ok (.getfield 155, 3) := by decide +kernel
theorem dX5_goOf_11 : decode cX5_goOf 11 = .ok (.imul, 1) := by decide +kernel
theorem dX5_goOf_12 : decode cX5_goOf 12 = .ok (.iload_n 1, 1) := by decide +kernel
theorem dX5_goOf_13 : decode cX5_goOf 13 = .ok (.iadd, 1) := by decide +kernel
theorem dX5_goOf_14 : decode cX5_goOf 14 = .ok (.imul, 1) := by decide +kernel
theorem dX5_goOf_15 : decode cX5_goOf 15 = .ok (.iload_n 2, 1) := by decide +kernel
theorem dX5_goOf_16 : decode cX5_goOf 16 = .ok (.iadd, 1) := by decide +kernel
theorem dX5_goOf_17 : decode cX5_goOf 17 = .ok (.iaload, 1) := by decide +kernel
theorem dX5_goOf_18 : decode cX5_goOf 18 = .ok (.ireturn, 1) := by decide +kernel
theorem dX5_endOf_0 : decode cX5_endOf 0 = .ok (.aload_n 0, 1) := by decide +kernel
theorem dX5_endOf_1 : decode cX5_endOf 1 = .ok (.getfield 70, 3) := by decide +kernel
theorem dX5_endOf_4 : decode cX5_endOf 4 = .ok (.iconst 3, 1) := by decide +kernel
theorem dX5_endOf_5 : decode cX5_endOf 5 = .ok (.bipush 10, 2) := by decide +kernel
theorem dX5_endOf_7 : decode cX5_endOf 7 = .ok (.aload_n 0, 1) := by decide +kernel
theorem dX5_endOf_8 : decode cX5_endOf 8 = .ok (.getfield 155, 3) := by decide +kernel
theorem dX5_endOf_11 : decode cX5_endOf 11 = .ok (.imul, 1) := by decide +kernel
theorem dX5_endOf_12 : decode cX5_endOf 12 = .ok (.iload_n 1, 1) := by decide +kernel
theorem dX5_endOf_13 : decode cX5_endOf 13 = .ok (.iadd, 1) := by decide +kernel
theorem dX5_endOf_14 : decode cX5_endOf 14 = .ok (.imul, 1) := by decide +kernel
theorem dX5_endOf_15 : decode cX5_endOf 15 = .ok (.iload_n 2, 1) := by decide +kernel
theorem dX5_endOf_16 : decode cX5_endOf 16 = .ok (.iadd, 1) := by decide +kernel
theorem dX5_endOf_17 : decode cX5_endOf 17 = .ok (.iaload, 1) := by decide +kernel
theorem dX5_endOf_18 : decode cX5_endOf 18 = .ok (.ireturn, 1) := by decide +kernel
set_option maxRecDepth 20000 in
theorem ggX5_go_X5_goOf : GoodIn wsX5_go wsX5_goOf := goodIn_r _ [8, 9, 3, 10, 11, 12, 13, 14, 15, 16, 17, 18, 19, 20, 21, 22, 23, 24, 25, 26, 27, 28, 29, 30, 31, 32, 33, 34, 35, 36, 37, 38, 39] (by decide +kernel) (by decide +kernel)
set_option maxRecDepth 20000 in
theorem gX5_go_X5_goOf : GoodIn wsX5_go (wsV RX5 180 RX5 yX5_goOf wsX5_goOf) := goodIn_app (goodIn_of _ (by decide +kernel)) ggX5_go_X5_goOf
theorem dX5_go_0 : decode cX5_go 0 = .ok (.aload_n 0, 1) := by decide +kernel
theorem dX5_go_1 : decode cX5_go 1 = .ok (.iconst 0, 1) := by decide +kernel
theorem dX5_go_2 : decode cX5_go 2 = .ok (.putfield 1, 3) := by decide +kernel
theorem dX5_go_5 : decode cX5_go 5 = .ok (.iload_n 1, 1) := by decide +kernel
theorem dX5_go_6 : decode cX5_go 6 = .ok (.ifCond .lt 25, 3) := by decide +kernel
theorem dX5_go_9 : decode cX5_go 9 = .ok (.iload_n 1, 1) := by decide +kernel
theorem dX5_go_10 : decode cX5_go 10 = .ok (.aload_n 0, 1) := by decide +kernel
theorem dX5_go_11 : decode cX5_go 11 = .ok (.getfield 61, 3) := by decide +kernel
theorem dX5_go_14 : decode cX5_go 14 = .ok (.aload_n 0, 1) := by decide +kernel
theorem dX5_go_15 : decode cX5_go 15 = .ok (.getfield 155, 3) := by decide +kernel
theorem dX5_go_18 : decode cX5_go 18 = .ok (.iaload, 1) := by decide +kernel
theorem dX5_go_19 : decode cX5_go 19 = .ok (.if_icmp .ge 12, 3) := by decide +kernel
theorem dX5_go_22 : decode cX5_go 22 = .ok (.iload_n 2, 1) := by decide +kernel
theorem dX5_go_23 : decode cX5_go 23 = .ok (.ifCond .lt 8, 3) := by decide +kernel
theorem dX5_go_26 : decode cX5_go 26 = .ok (.iload_n 2, 1) := by decide +kernel
theorem dX5_go_27 : decode cX5_go 27 = .ok (.iconst 4, 1) := by decide +kernel
theorem dX5_go_28 : decode cX5_go 28 = .ok (.if_icmp .le 7, 3) := by decide +kernel
theorem dX5_go_31 : decode cX5_go 31 = .ok (.iconst (-1), 1) := by decide +kernel
theorem dX5_go_32 : decode cX5_go 32 = .ok (.goto 9, 3) := by decide +kernel
theorem dX5_go_35 : decode cX5_go 35 = .ok (.aload_n 0, 1) := by decide +kernel
theorem dX5_go_36 : decode cX5_go 36 = .ok (.iload_n 1, 1) := by decide +kernel
theorem dX5_go_37 : decode cX5_go 37 = .ok (.iload_n 2, 1) := by decide +kernel
theorem dX5_go_38 : decode cX5_go 38 = .ok (.invokevirtual 180, 3) := by decide +kernel
theorem dX5_go_41 : decode cX5_go 41 = .ok (.ireturn, 1) := by decide +kernel
theorem dX5_isOne_0 : decode cX5_isOne 0 = .ok (.iload_n 0, 1) := by decide +kernel
theorem dX5_isOne_1 : decode cX5_isOne 1 = .ok (.iconst 1, 1) := by decide +kernel
theorem dX5_isOne_2 : decode cX5_isOne 2 = .ok (.if_icmp .lt 13, 3) := by decide +kernel
theorem dX5_isOne_5 : decode cX5_isOne 5 = .ok (.iload_n 0, 1) := by decide +kernel
theorem dX5_isOne_6 : decode cX5_isOne 6 = .ok (.bipush 99, 2) := by decide +kernel
theorem dX5_isOne_8 : decode cX5_isOne 8 = .ok (.if_icmp .gt 7, 3) := by decide +kernel
theorem dX5_isOne_11 : decode cX5_isOne 11 = .ok (.iconst 1, 1) := by decide +kernel
theorem dX5_isOne_12 : decode cX5_isOne 12 = .ok (.goto 4, 3) := by decide +kernel
theorem dX5_isOne_15 : decode cX5_isOne 15 = .ok (.iconst 0, 1) := by decide +kernel
theorem dX5_isOne_16 : decode cX5_isOne 16 = .ok (.ireturn, 1) := by decide +kernel
set_option maxRecDepth 20000 in
theorem ggX5_kinds_X5_isOne : GoodIn wsX5_kinds wsX5_isOne := goodIn_r _ [6] (by decide +kernel) (by decide +kernel)
set_option maxRecDepth 20000 in
theorem gX5_kinds_X5_isOne : GoodIn wsX5_kinds (va_wsS RX5 183 yX5_isOne wsX5_isOne) := goodIn_app (goodIn_of _ (by decide +kernel)) ggX5_kinds_X5_isOne
theorem dX5_kinds_0 : decode cX5_kinds 0 = .ok (.aload_n 0, 1) := by decide +kernel
theorem dX5_kinds_1 : decode cX5_kinds 1 = .ok (.iconst 0, 1) := by decide +kernel
theorem dX5_kinds_2 : decode cX5_kinds 2 = .ok (.putfield 1, 3) := by decide +kernel
theorem dX5_kinds_5 : decode cX5_kinds 5 = .ok (.iload_n 1, 1) := by decide +kernel
theorem dX5_kinds_6 : decode cX5_kinds 6 = .ok (.invokestatic 183, 3) := by decide +kernel
theorem dX5_kinds_9 : decode cX5_kinds 9 = .ok (.ifCond .eq 15, 3) := by decide +kernel
theorem dX5_kinds_12 : decode cX5_kinds 12 = .ok (.iload_n 2, 1) := by decide +kernel
theorem dX5_kinds_13 : decode cX5_kinds 13 = .ok (.iconst 1, 1) := by decide +kernel
theorem dX5_kinds_14 : decode cX5_kinds 14 = .ok (.if_icmp .lt 10, 3) := by decide +kernel
theorem dX5_kinds_17 : decode cX5_kinds 17 = .ok (.iload_n 2, 1) := by decide +kernel
theorem dX5_kinds_18 : decode cX5_kinds 18 = .ok (.sipush 255, 3) := by decide +kernel
theorem dX5_kinds_21 : decode cX5_kinds 21 = .ok (.if_icmp .le 5, 3) := by decide +kernel
theorem dX5_kinds_24 : decode cX5_kinds 24 = .ok (.iconst 0, 1) := by decide +kernel
theorem dX5_kinds_25 : decode cX5_kinds 25 = .ok (.ireturn, 1) := by decide +kernel
theorem dX5_kinds_26 : decode cX5_kinds 26 = .ok (.aload_n 0, 1) := by decide +kernel
theorem dX5_kinds_27 : decode cX5_kinds 27 = .ok (.getfield 73, 3) := by decide +kernel
theorem dX5_kinds_30 : decode cX5_kinds 30 = .ok (.iload_n 1, 1) := by decide +kernel
theorem dX5_kinds_31 : decode cX5_kinds 31 = .ok (.iload_n 2, 1) := by decide +kernel
theorem dX5_kinds_32 : decode cX5_kinds 32 = .ok (.iastore, 1) := by decide +kernel
theorem dX5_kinds_33 : decode cX5_kinds 33 = .ok (.iconst 1, 1) := by decide +kernel
theorem dX5_kinds_34 : decode cX5_kinds 34 = .ok (.ireturn, 1) := by decide +kernel
set_option maxRecDepth 20000 in
theorem ggX5_name_X5_isOne : GoodIn wsX5_name wsX5_isOne := goodIn_r _ [6] (by decide +kernel) (by decide +kernel)
set_option maxRecDepth 20000 in
theorem gX5_name_X5_isOne : GoodIn wsX5_name (va_wsS RX5 183 yX5_isOne wsX5_isOne) := goodIn_app (goodIn_of _ (by decide +kernel)) ggX5_name_X5_isOne
theorem dX5_name_0 : decode cX5_name 0 = .ok (.aload_n 0, 1) := by decide +kernel
theorem dX5_name_1 : decode cX5_name 1 = .ok (.iconst 0, 1) := by decide +kernel
theorem dX5_name_2 : decode cX5_name 2 = .ok (.putfield 1, 3) := by decide +kernel
theorem dX5_name_5 : decode cX5_name 5 = .ok (.iload_n 1, 1) := by decide +kernel
theorem dX5_name_6 : decode cX5_name 6 = .ok (.invokestatic 183, 3) := by decide +kernel
theorem dX5_name_9 : decode cX5_name 9 = .ok (.ifCond .ne 5, 3) := by decide +kernel
theorem dX5_name_12 : decode cX5_name 12 = .ok (.iconst 0, 1) := by decide +kernel
theorem dX5_name_13 : decode cX5_name 13 = .ok (.ireturn, 1) := by decide +kernel
theorem dX5_name_14 : decode cX5_name 14 = .ok (.aload_n 0, 1) := by decide +kernel
theorem dX5_name_15 : decode cX5_name 15 = .ok (.getfield 76, 3) := by decide +kernel
theorem dX5_name_18 : decode cX5_name 18 = .ok (.iload_n 1, 1) := by decide +kernel
theorem dX5_name_19 : decode cX5_name 19 = .ok (.iload_n 2, 1) := by decide +kernel
theorem dX5_name_20 : decode cX5_name 20 = .ok (.bastore, 1) := by decide +kernel
theorem dX5_name_21 : decode cX5_name 21 = .ok (.iconst 1, 1) := by decide +kernel
theorem dX5_name_22 : decode cX5_name 22 = .ok (.ireturn, 1) := by decide +kernel
set_option maxRecDepth 20000 in
theorem ggX5_word_X5_isOne : GoodIn wsX5_word wsX5_isOne := goodIn_r _ [8] (by decide +kernel) (by decide +kernel)
set_option maxRecDepth 20000 in
theorem gX5_word_X5_isOne : GoodIn wsX5_word (va_wsS RX5 183 yX5_isOne wsX5_isOne) := goodIn_app (goodIn_of _ (by decide +kernel)) ggX5_word_X5_isOne
theorem dX5_word_0 : decode cX5_word 0 = .ok (.aload_n 0, 1) := by decide +kernel
theorem dX5_word_1 : decode cX5_word 1 = .ok (.iconst 0, 1) := by decide +kernel
theorem dX5_word_2 : decode cX5_word 2 = .ok (.putfield 1, 3) := by decide +kernel
theorem dX5_word_5 : decode cX5_word 5 = .ok (.iload_n 1, 1) := by decide +kernel
theorem dX5_word_6 : decode cX5_word 6 = .ok (.invokestatic 183, 3) := by decide +kernel
theorem dX5_word_9 : decode cX5_word 9 = .ok (.ifCond .eq 12, 3) := by decide +kernel
theorem dX5_word_12 : decode cX5_word 12 = .ok (.aload_n 0, 1) := by decide +kernel
theorem dX5_word_13 : decode cX5_word 13 = .ok (.getfield 186, 3) := by decide +kernel
theorem dX5_word_16 : decode cX5_word 16 = .ok (.bipush 60, 2) := by decide +kernel
theorem dX5_word_18 : decode cX5_word 18 = .ok (.if_icmp .ne 5, 3) := by decide +kernel
theorem dX5_word_21 : decode cX5_word 21 = .ok (.iconst (-1), 1) := by decide +kernel
theorem dX5_word_22 : decode cX5_word 22 = .ok (.ireturn, 1) := by decide +kernel
theorem dX5_word_23 : decode cX5_word 23 = .ok (.aload_n 0, 1) := by decide +kernel
theorem dX5_word_24 : decode cX5_word 24 = .ok (.getfield 80, 3) := by decide +kernel
theorem dX5_word_27 : decode cX5_word 27 = .ok (.aload_n 0, 1) := by decide +kernel
theorem dX5_word_28 : decode cX5_word 28 = .ok (.getfield 186, 3) := by decide +kernel
theorem dX5_word_31 : decode cX5_word 31 = .ok (.iload_n 1, 1) := by decide +kernel
theorem dX5_word_32 : decode cX5_word 32 = .ok (.iastore, 1) := by decide +kernel
theorem dX5_word_33 : decode cX5_word 33 = .ok (.aload_n 0, 1) := by decide +kernel
theorem dX5_word_34 : decode cX5_word 34 = .ok (.getfield 83, 3) := by decide +kernel
theorem dX5_word_37 : decode cX5_word 37 = .ok (.aload_n 0, 1) := by decide +kernel
theorem dX5_word_38 : decode cX5_word 38 = .ok (.getfield 186, 3) := by decide +kernel
theorem dX5_word_41 : decode cX5_word 41 = .ok (.iconst (-1), 1) := by decide +kernel
theorem dX5_word_42 : decode cX5_word 42 = .ok (.iastore, 1) := by decide +kernel
theorem dX5_word_43 : decode cX5_word 43 = .ok (.aload_n 0, 1) := by decide +kernel
theorem dX5_word_44 : decode cX5_word 44 = .ok (.dup, 1) := by decide +kernel
theorem dX5_word_45 : decode cX5_word 45 = .ok (.getfield 186, 3) := by decide +kernel
theorem dX5_word_48 : decode cX5_word 48 = .ok (.iconst 1, 1) := by decide +kernel
theorem dX5_word_49 : decode cX5_word 49 = .ok (.iadd, 1) := by decide +kernel
theorem dX5_word_50 : decode cX5_word 50 = .ok (.putfield 186, 3) := by decide +kernel
theorem dX5_word_53 : decode cX5_word 53 = .ok (.aload_n 0, 1) := by decide +kernel
theorem dX5_word_54 : decode cX5_word 54 = .ok (.getfield 186, 3) := by decide +kernel
theorem dX5_word_57 : decode cX5_word 57 = .ok (.ireturn, 1) := by decide +kernel
theorem dX5_drop_0 : decode cX5_drop 0 = .ok (.aload_n 0, 1) := by decide +kernel
theorem dX5_drop_1 : decode cX5_drop 1 = .ok (.iconst 0, 1) := by decide +kernel
theorem dX5_drop_2 : decode cX5_drop 2 = .ok (.putfield 1, 3) := by decide +kernel
theorem dX5_drop_5 : decode cX5_drop 5 = .ok (.aload_n 0, 1) := by decide +kernel
theorem dX5_drop_6 : decode cX5_drop 6 = .ok (.getfield 186, 3) := by decide +kernel
theorem dX5_drop_9 : decode cX5_drop 9 = .ok (.ifCond .ne 5, 3) := by decide +kernel
theorem dX5_drop_12 : decode cX5_drop 12 = .ok (.iconst (-1), 1) := by decide +kernel
theorem dX5_drop_13 : decode cX5_drop 13 = .ok (.ireturn, 1) := by decide +kernel
theorem dX5_drop_14 : decode cX5_drop 14 = .ok (.aload_n 0, 1) := by decide +kernel
theorem dX5_drop_15 : decode cX5_drop 15 = .ok (.dup, 1) := by decide +kernel
theorem dX5_drop_16 : decode cX5_drop 16 = .ok (.getfield 186, 3) := by decide +kernel
theorem dX5_drop_19 : decode cX5_drop 19 = .ok (.iconst 1, 1) := by decide +kernel
theorem dX5_drop_20 : decode cX5_drop 20 = .ok (.isub, 1) := by decide +kernel
theorem dX5_drop_21 : decode cX5_drop 21 = .ok (.putfield 186, 3) := by decide +kernel
theorem dX5_drop_24 : decode cX5_drop 24 = .ok (.aload_n 0, 1) := by decide +kernel
theorem dX5_drop_25 : decode cX5_drop 25 = .ok (.getfield 186, 3) := by decide +kernel
theorem dX5_drop_28 : decode cX5_drop 28 = .ok (.ireturn, 1) := by decide +kernel
theorem dX5_hand_0 : decode cX5_hand 0 = .ok (.aload_n 0, 1) := by decide +kernel
theorem dX5_hand_1 : decode cX5_hand 1 = .ok (.iconst 0, 1) := by decide +kernel
theorem dX5_hand_2 : decode cX5_hand 2 = .ok (.putfield 1, 3) := by decide +kernel
theorem dX5_hand_5 : decode cX5_hand 5 = .ok (.iload_n 1, 1) := by decide +kernel
theorem dX5_hand_6 : decode cX5_hand 6 = .ok (.ifCond .lt 31, 3) := by decide +kernel
theorem dX5_hand_9 : decode cX5_hand 9 = .ok (.iload_n 1, 1) := by decide +kernel
theorem dX5_hand_10 : decode cX5_hand 10 = .ok (.aload_n 0, 1) := by decide +kernel
theorem dX5_hand_11 : decode cX5_hand 11 = .ok (.getfield 186, 3) := by decide +kernel
theorem dX5_hand_14 : decode cX5_hand 14 = .ok (.if_icmp .ge 23, 3) := by decide +kernel
theorem dX5_hand_17 : decode cX5_hand 17 = .ok (.iload_n 2, 1) := by decide +kernel
theorem dX5_hand_18 : decode cX5_hand 18 = .ok (.iconst (-1), 1) := by decide +kernel
theorem dX5_hand_19 : decode cX5_hand 19 = .ok (.if_icmp .lt 18, 3) := by decide +kernel
theorem dX5_hand_22 : decode cX5_hand 22 = .ok (.iload_n 2, 1) := by decide +kernel
theorem dX5_hand_23 : decode cX5_hand 23 = .ok (.bipush 6, 2) := by decide +kernel
theorem dX5_hand_25 : decode cX5_hand 25 = .ok (.if_icmp .gt 12, 3) := by decide +kernel
theorem dX5_hand_28 : decode cX5_hand 28 = .ok (.iload_n 1, 1) := by decide +kernel
theorem dX5_hand_29 : decode cX5_hand 29 = .ok (.ifCond .ne 10, 3) := by decide +kernel
theorem dX5_hand_32 : decode cX5_hand 32 = .ok (.iload_n 2, 1) := by decide +kernel
theorem dX5_hand_33 : decode cX5_hand 33 = .ok (.iconst 3, 1) := by decide +kernel
theorem dX5_hand_34 : decode cX5_hand 34 = .ok (.if_icmp .le 5, 3) := by decide +kernel
theorem dX5_hand_37 : decode cX5_hand 37 = .ok (.iconst 0, 1) := by decide +kernel
theorem dX5_hand_38 : decode cX5_hand 38 = .ok (.ireturn, 1) := by decide +kernel
theorem dX5_hand_39 : decode cX5_hand 39 = .ok (.aload_n 0, 1) := by decide +kernel
theorem dX5_hand_40 : decode cX5_hand 40 = .ok (.getfield 83, 3) := by decide +kernel
theorem dX5_hand_43 : decode cX5_hand 43 = .ok (.iload_n 1, 1) := by decide +kernel
theorem dX5_hand_44 : decode cX5_hand 44 = .ok (.iload_n 2, 1) := by decide +kernel
theorem dX5_hand_45 : decode cX5_hand 45 = .ok (.iastore, 1) := by decide +kernel
theorem dX5_hand_46 : decode cX5_hand 46 = .ok (.iconst 1, 1) := by decide +kernel
theorem dX5_hand_47 : decode cX5_hand 47 = .ok (.ireturn, 1) := by decide +kernel
set_option maxRecDepth 20000 in
theorem ggX5_stepTo_X5_goOf : GoodIn wsX5_stepTo wsX5_goOf := goodIn_r _ [8, 9, 10, 16, 17, 18, 19, 20, 21, 22, 23, 24, 25, 26, 27, 28, 29, 30, 31, 32, 33, 34, 35, 36, 37, 38, 39, 40, 41, 42, 43, 44, 45] (by decide +kernel) (by decide +kernel)
set_option maxRecDepth 20000 in
theorem gX5_stepTo_X5_goOf : GoodIn wsX5_stepTo (wsV RX5 180 RX5 yX5_goOf wsX5_goOf) := goodIn_app (goodIn_of _ (by decide +kernel)) ggX5_stepTo_X5_goOf
set_option maxRecDepth 20000 in
theorem ggX5_stepTo_X5_endOf : GoodIn wsX5_stepTo wsX5_endOf := goodIn_r _ [14, 15, 10, 16, 17, 18, 19, 20, 21, 22, 23, 24, 25, 26, 27, 28, 29, 30, 31, 32, 33, 34, 35, 36, 37, 38, 39, 40, 41, 42, 43, 44, 45] (by decide +kernel) (by decide +kernel)
set_option maxRecDepth 20000 in
theorem gX5_stepTo_X5_endOf : GoodIn wsX5_stepTo (wsV RX5 189 RX5 yX5_endOf wsX5_endOf) := goodIn_app (goodIn_of _ (by decide +kernel)) ggX5_stepTo_X5_endOf
theorem dX5_stepTo_0 : decode cX5_stepTo 0 = .ok (.aload_n 0, 1) := by decide +kernel
theorem dX5_stepTo_1 : decode cX5_stepTo 1 = .ok (.getfield 83, 3) := by decide +kernel
theorem dX5_stepTo_4 : decode cX5_stepTo 4 = .ok (.iload_n 1, 1) := by decide +kernel
theorem dX5_stepTo_5 : decode cX5_stepTo 5 = .ok (.iaload, 1) := by decide +kernel
theorem dX5_stepTo_6 : decode cX5_stepTo 6 = .ok (.istore 5, 2) := by decide +kernel
theorem dX5_stepTo_8 : decode cX5_stepTo 8 = .ok (.aload_n 0, 1) := by decide +kernel
theorem dX5_stepTo_9 : decode cX5_stepTo 9 = .ok (.iload 4, 2) := by decide +kernel
theorem dX5_stepTo_11 : decode cX5_stepTo 11 = .ok (.iconst 4, 1) := by decide +kernel
theorem dX5_stepTo_12 : decode cX5_stepTo 12 = .ok (.invokevirtual 180, 3) := by decide +kernel
theorem dX5_stepTo_15 : decode cX5_stepTo 15 = .ok (.istore 6, 2) := by decide +kernel
theorem dX5_stepTo_17 : decode cX5_stepTo 17 = .ok (.iload_n 2, 1) := by decide +kernel
theorem dX5_stepTo_18 : decode cX5_stepTo 18 = .ok (.bipush 10, 2) := by decide +kernel
theorem dX5_stepTo_20 : decode cX5_stepTo 20 = .ok (.if_icmp .lt 7, 3) := by decide +kernel
theorem dX5_stepTo_23 : decode cX5_stepTo 23 = .ok (.iconst 1, 1) := by decide +kernel
theorem dX5_stepTo_24 : decode cX5_stepTo 24 = .ok (.goto 4, 3) := by decide +kernel
theorem dX5_stepTo_27 : decode cX5_stepTo 27 = .ok (.iconst 0, 1) := by decide +kernel
theorem dX5_stepTo_28 : decode cX5_stepTo 28 = .ok (.istore 7, 2) := by decide +kernel

theorem dX5_stepTo_30 : decode cX5_stepTo 30 = .ok (.iload_n 3, 1) := by decide +kernel
theorem dX5_stepTo_31 : decode cX5_stepTo 31 = .ok (.ifCond .lt 40, 3) := by decide +kernel
theorem dX5_stepTo_34 : decode cX5_stepTo 34 = .ok (.iload_n 1, 1) := by decide +kernel
theorem dX5_stepTo_35 : decode cX5_stepTo 35 = .ok (.ifCond .eq 34, 3) := by decide +kernel
theorem dX5_stepTo_38 : decode cX5_stepTo 38 = .ok (.iload 7, 2) := by decide +kernel
theorem dX5_stepTo_40 : decode cX5_stepTo 40 = .ok (.ifCond .ne 29, 3) := by decide +kernel
theorem dX5_stepTo_43 : decode cX5_stepTo 43 = .ok (.aload_n 0, 1) := by decide +kernel
theorem dX5_stepTo_44 : decode cX5_stepTo 44 = .ok (.iload_n 3, 1) := by decide +kernel
theorem dX5_stepTo_45 : decode cX5_stepTo 45 = .ok (.iconst 0, 1) := by decide +kernel
theorem dX5_stepTo_46 : decode cX5_stepTo 46 = .ok (.invokevirtual 189, 3) := by decide +kernel
theorem dX5_stepTo_49 : decode cX5_stepTo 49 = .ok (.iload_n 2, 1) := by decide +kernel
theorem dX5_stepTo_50 : decode cX5_stepTo 50 = .ok (.if_icmp .ne 19, 3) := by decide +kernel
theorem dX5_stepTo_53 : decode cX5_stepTo 53 = .ok (.iload 5, 2) := by decide +kernel
theorem dX5_stepTo_55 : decode cX5_stepTo 55 = .ok (.ifCond .lt 30, 3) := by decide +kernel
theorem dX5_stepTo_58 : decode cX5_stepTo 58 = .ok (.iload 5, 2) := by decide +kernel
theorem dX5_stepTo_60 : decode cX5_stepTo 60 = .ok (.aload_n 0, 1) := by decide +kernel
theorem dX5_stepTo_61 : decode cX5_stepTo 61 = .ok (.iload_n 3, 1) := by decide +kernel
theorem dX5_stepTo_62 : decode cX5_stepTo 62 = .ok (.iconst 2, 1) := by decide +kernel
theorem dX5_stepTo_63 : decode cX5_stepTo 63 = .ok (.invokevirtual 189, 3) := by decide +kernel
theorem dX5_stepTo_66 : decode cX5_stepTo 66 = .ok (.if_icmp .eq 19, 3) := by decide +kernel
theorem dX5_stepTo_69 : decode cX5_stepTo 69 = .ok (.iconst (-1), 1) := by decide +kernel
theorem dX5_stepTo_70 : decode cX5_stepTo 70 = .ok (.ireturn, 1) := by decide +kernel
theorem dX5_stepTo_71 : decode cX5_stepTo 71 = .ok (.iload 5, 2) := by decide +kernel
theorem dX5_stepTo_73 : decode cX5_stepTo 73 = .ok (.ifCond .lt 12, 3) := by decide +kernel
theorem dX5_stepTo_76 : decode cX5_stepTo 76 = .ok (.iload 5, 2) := by decide +kernel
theorem dX5_stepTo_78 : decode cX5_stepTo 78 = .ok (.iload 6, 2) := by decide +kernel
theorem dX5_stepTo_80 : decode cX5_stepTo 80 = .ok (.if_icmp .eq 5, 3) := by decide +kernel
theorem dX5_stepTo_83 : decode cX5_stepTo 83 = .ok (.iconst (-1), 1) := by decide +kernel
theorem dX5_stepTo_84 : decode cX5_stepTo 84 = .ok (.ireturn, 1) := by decide +kernel
theorem dX5_stepTo_85 : decode cX5_stepTo 85 = .ok (.iload_n 3, 1) := by decide +kernel
theorem dX5_stepTo_86 : decode cX5_stepTo 86 = .ok (.ifCond .lt 7, 3) := by decide +kernel
theorem dX5_stepTo_89 : decode cX5_stepTo 89 = .ok (.iconst 0, 1) := by decide +kernel
theorem dX5_stepTo_90 : decode cX5_stepTo 90 = .ok (.goto 7, 3) := by decide +kernel
theorem dX5_stepTo_93 : decode cX5_stepTo 93 = .ok (.iload_n 2, 1) := by decide +kernel
theorem dX5_stepTo_94 : decode cX5_stepTo 94 = .ok (.bipush 10, 2) := by decide +kernel
theorem dX5_stepTo_96 : decode cX5_stepTo 96 = .ok (.irem, 1) := by decide +kernel
theorem dX5_stepTo_97 : decode cX5_stepTo 97 = .ok (.istore 8, 2) := by decide +kernel
theorem dX5_stepTo_99 : decode cX5_stepTo 99 = .ok (.aload_n 0, 1) := by decide +kernel
theorem dX5_stepTo_100 : decode cX5_stepTo 100 = .ok (.iload 4, 2) := by decide +kernel
theorem dX5_stepTo_102 : decode cX5_stepTo 102 = .ok (.iconst 0, 1) := by decide +kernel
theorem dX5_stepTo_103 : decode cX5_stepTo 103 = .ok (.invokevirtual 180, 3) := by decide +kernel
theorem dX5_stepTo_106 : decode cX5_stepTo 106 = .ok (.iload 8, 2) := by decide +kernel
theorem dX5_stepTo_108 : decode cX5_stepTo 108 = .ok (.if_icmp .ne 49, 3) := by decide +kernel
theorem dX5_stepTo_111 : decode cX5_stepTo 111 = .ok (.aload_n 0, 1) := by decide +kernel
theorem dX5_stepTo_112 : decode cX5_stepTo 112 = .ok (.getfield 73, 3) := by decide +kernel
theorem dX5_stepTo_115 : decode cX5_stepTo 115 = .ok (.aload_n 0, 1) := by decide +kernel
theorem dX5_stepTo_116 : decode cX5_stepTo 116 = .ok (.getfield 80, 3) := by decide +kernel
theorem dX5_stepTo_119 : decode cX5_stepTo 119 = .ok (.iload_n 1, 1) := by decide +kernel
theorem dX5_stepTo_120 : decode cX5_stepTo 120 = .ok (.iaload, 1) := by decide +kernel
theorem dX5_stepTo_121 : decode cX5_stepTo 121 = .ok (.iaload, 1) := by decide +kernel
theorem dX5_stepTo_122 : decode cX5_stepTo 122 = .ok (.aload_n 0, 1) := by decide +kernel
theorem dX5_stepTo_123 : decode cX5_stepTo 123 = .ok (.iload 4, 2) := by decide +kernel
theorem dX5_stepTo_125 : decode cX5_stepTo 125 = .ok (.iconst 1, 1) := by decide +kernel
theorem dX5_stepTo_126 : decode cX5_stepTo 126 = .ok (.invokevirtual 180, 3) := by decide +kernel
theorem dX5_stepTo_129 : decode cX5_stepTo 129 = .ok (.ishr, 1) := by decide +kernel
theorem dX5_stepTo_130 : decode cX5_stepTo 130 = .ok (.iconst 1, 1) := by decide +kernel
theorem dX5_stepTo_131 : decode cX5_stepTo 131 = .ok (.iand, 1) := by decide +kernel
theorem dX5_stepTo_132 : decode cX5_stepTo 132 = .ok (.ifCond .eq 25, 3) := by decide +kernel
theorem dX5_stepTo_135 : decode cX5_stepTo 135 = .ok (.iload 6, 2) := by decide +kernel
theorem dX5_stepTo_137 : decode cX5_stepTo 137 = .ok (.iconst 2, 1) := by decide +kernel
theorem dX5_stepTo_138 : decode cX5_stepTo 138 = .ok (.if_icmp .ne 8, 3) := by decide +kernel
theorem dX5_stepTo_141 : decode cX5_stepTo 141 = .ok (.iload 7, 2) := by decide +kernel
theorem dX5_stepTo_143 : decode cX5_stepTo 143 = .ok (.ifCond .ne 14, 3) := by decide +kernel
theorem dX5_stepTo_146 : decode cX5_stepTo 146 = .ok (.iload 6, 2) := by decide +kernel
theorem dX5_stepTo_148 : decode cX5_stepTo 148 = .ok (.iconst 3, 1) := by decide +kernel
theorem dX5_stepTo_149 : decode cX5_stepTo 149 = .ok (.if_icmp .ne 10, 3) := by decide +kernel
theorem dX5_stepTo_152 : decode cX5_stepTo 152 = .ok (.iload 7, 2) := by decide +kernel
theorem dX5_stepTo_154 : decode cX5_stepTo 154 = .ok (.ifCond .ne 5, 3) := by decide +kernel
theorem dX5_stepTo_157 : decode cX5_stepTo 157 = .ok (.iconst (-1), 1) := by decide +kernel
theorem dX5_stepTo_158 : decode cX5_stepTo 158 = .ok (.ireturn, 1) := by decide +kernel
theorem dX5_stepTo_159 : decode cX5_stepTo 159 = .ok (.iload 6, 2) := by decide +kernel
theorem dX5_stepTo_161 : decode cX5_stepTo 161 = .ok (.iconst 2, 1) := by decide +kernel
theorem dX5_stepTo_162 : decode cX5_stepTo 162 = .ok (.if_icmp .eq 14, 3) := by decide +kernel
theorem dX5_stepTo_165 : decode cX5_stepTo 165 = .ok (.iload 6, 2) := by decide +kernel
theorem dX5_stepTo_167 : decode cX5_stepTo 167 = .ok (.iconst 3, 1) := by decide +kernel
theorem dX5_stepTo_168 : decode cX5_stepTo 168 = .ok (.if_icmp .eq 12, 3) := by decide +kernel
theorem dX5_stepTo_171 : decode cX5_stepTo 171 = .ok (.iload 7, 2) := by decide +kernel
theorem dX5_stepTo_173 : decode cX5_stepTo 173 = .ok (.ifCond .eq 7, 3) := by decide +kernel
theorem dX5_stepTo_176 : decode cX5_stepTo 176 = .ok (.iconst 1, 1) := by decide +kernel
theorem dX5_stepTo_177 : decode cX5_stepTo 177 = .ok (.goto 4, 3) := by decide +kernel
theorem dX5_stepTo_180 : decode cX5_stepTo 180 = .ok (.iconst 0, 1) := by decide +kernel
theorem dX5_stepTo_181 : decode cX5_stepTo 181 = .ok (.istore 9, 2) := by decide +kernel
theorem dX5_stepTo_183 : decode cX5_stepTo 183 = .ok (.aload_n 0, 1) := by decide +kernel
theorem dX5_stepTo_184 : decode cX5_stepTo 184 = .ok (.iload 4, 2) := by decide +kernel
theorem dX5_stepTo_186 : decode cX5_stepTo 186 = .ok (.iconst 2, 1) := by decide +kernel
theorem dX5_stepTo_187 : decode cX5_stepTo 187 = .ok (.invokevirtual 180, 3) := by decide +kernel
theorem dX5_stepTo_190 : decode cX5_stepTo 190 = .ok (.iload 9, 2) := by decide +kernel
theorem dX5_stepTo_192 : decode cX5_stepTo 192 = .ok (.ifCond .eq 8, 3) := by decide +kernel
theorem dX5_stepTo_195 : decode cX5_stepTo 195 = .ok (.bipush 10, 2) := by decide +kernel
theorem dX5_stepTo_197 : decode cX5_stepTo 197 = .ok (.goto 4, 3) := by decide +kernel
theorem dX5_stepTo_200 : decode cX5_stepTo 200 = .ok (.iconst 0, 1) := by decide +kernel
theorem dX5_stepTo_201 : decode cX5_stepTo 201 = .ok (.iadd, 1) := by decide +kernel
theorem dX5_stepTo_202 : decode cX5_stepTo 202 = .ok (.ireturn, 1) := by decide +kernel
set_option maxRecDepth 20000 in
theorem ggX5_costOf_X5_goOf : GoodIn wsX5_costOf wsX5_goOf := goodIn_r _ [5, 6, 7, 13, 14, 15, 16, 17, 18, 19, 20, 21, 22, 23, 24, 25, 26, 27, 28, 29, 30, 31, 32, 33, 34, 35, 36, 37, 38, 39, 40, 41, 42] (by decide +kernel) (by decide +kernel)
set_option maxRecDepth 20000 in
theorem gX5_costOf_X5_goOf : GoodIn wsX5_costOf (wsV RX5 180 RX5 yX5_goOf wsX5_goOf) := goodIn_app (goodIn_of _ (by decide +kernel)) ggX5_costOf_X5_goOf
set_option maxRecDepth 20000 in
theorem ggX5_costOf_X5_endOf : GoodIn wsX5_costOf wsX5_endOf := goodIn_r _ [11, 12, 7, 13, 14, 15, 16, 17, 18, 19, 20, 21, 22, 23, 24, 25, 26, 27, 28, 29, 30, 31, 32, 33, 34, 35, 36, 37, 38, 39, 40, 41, 42] (by decide +kernel) (by decide +kernel)
set_option maxRecDepth 20000 in
theorem gX5_costOf_X5_endOf : GoodIn wsX5_costOf (wsV RX5 189 RX5 yX5_endOf wsX5_endOf) := goodIn_app (goodIn_of _ (by decide +kernel)) ggX5_costOf_X5_endOf
theorem dX5_costOf_0 : decode cX5_costOf 0 = .ok (.aload_n 0, 1) := by decide +kernel
theorem dX5_costOf_1 : decode cX5_costOf 1 = .ok (.iload_n 2, 1) := by decide +kernel
theorem dX5_costOf_2 : decode cX5_costOf 2 = .ok (.iconst 3, 1) := by decide +kernel
theorem dX5_costOf_3 : decode cX5_costOf 3 = .ok (.invokevirtual 180, 3) := by decide +kernel
theorem dX5_costOf_6 : decode cX5_costOf 6 = .ok (.iload_n 1, 1) := by decide +kernel
theorem dX5_costOf_7 : decode cX5_costOf 7 = .ok (.ifCond .lt 12, 3) := by decide +kernel
theorem dX5_costOf_10 : decode cX5_costOf 10 = .ok (.aload_n 0, 1) := by decide +kernel
theorem dX5_costOf_11 : decode cX5_costOf 11 = .ok (.iload_n 1, 1) := by decide +kernel
theorem dX5_costOf_12 : decode cX5_costOf 12 = .ok (.iconst 1, 1) := by decide +kernel
theorem dX5_costOf_13 : decode cX5_costOf 13 = .ok (.invokevirtual 189, 3) := by decide +kernel
theorem dX5_costOf_16 : decode cX5_costOf 16 = .ok (.goto 4, 3) := by decide +kernel
theorem dX5_costOf_19 : decode cX5_costOf 19 = .ok (.iconst 0, 1) := by decide +kernel
theorem dX5_costOf_20 : decode cX5_costOf 20 = .ok (.iadd, 1) := by decide +kernel
theorem dX5_costOf_21 : decode cX5_costOf 21 = .ok (.ireturn, 1) := by decide +kernel
theorem dX5_offers_0 : decode cX5_offers 0 = .ok (.iload_n 2, 1) := by decide +kernel
theorem dX5_offers_1 : decode cX5_offers 1 = .ok (.aload_n 0, 1) := by decide +kernel
theorem dX5_offers_2 : decode cX5_offers 2 = .ok (.getfield 86, 3) := by decide +kernel
theorem dX5_offers_5 : decode cX5_offers 5 = .ok (.iload_n 1, 1) := by decide +kernel
theorem dX5_offers_6 : decode cX5_offers 6 = .ok (.iaload, 1) := by decide +kernel
theorem dX5_offers_7 : decode cX5_offers 7 = .ok (.if_icmp .ge 25, 3) := by decide +kernel
theorem dX5_offers_10 : decode cX5_offers 10 = .ok (.aload_n 0, 1) := by decide +kernel
theorem dX5_offers_11 : decode cX5_offers 11 = .ok (.getfield 89, 3) := by decide +kernel
theorem dX5_offers_14 : decode cX5_offers 14 = .ok (.iload_n 1, 1) := by decide +kernel
theorem dX5_offers_15 : decode cX5_offers 15 = .ok (.aload_n 0, 1) := by decide +kernel
theorem dX5_offers_16 : decode cX5_offers 16 = .ok (.getfield 86, 3) := by decide +kernel
theorem dX5_offers_19 : decode cX5_offers 19 = .ok (.iload_n 1, 1) := by decide +kernel
theorem dX5_offers_20 : decode cX5_offers 20 = .ok (.iaload, 1) := by decide +kernel
theorem dX5_offers_21 : decode cX5_offers 21 = .ok (.iastore, 1) := by decide +kernel
theorem dX5_offers_22 : decode cX5_offers 22 = .ok (.aload_n 0, 1) := by decide +kernel
theorem dX5_offers_23 : decode cX5_offers 23 = .ok (.getfield 86, 3) := by decide +kernel
theorem dX5_offers_26 : decode cX5_offers 26 = .ok (.iload_n 1, 1) := by decide +kernel
theorem dX5_offers_27 : decode cX5_offers 27 = .ok (.iload_n 2, 1) := by decide +kernel
theorem dX5_offers_28 : decode cX5_offers 28 = .ok (.iastore, 1) := by decide +kernel
theorem dX5_offers_29 : decode cX5_offers 29 = .ok (.goto 20, 3) := by decide +kernel
theorem dX5_offers_32 : decode cX5_offers 32 = .ok (.iload_n 2, 1) := by decide +kernel
theorem dX5_offers_33 : decode cX5_offers 33 = .ok (.aload_n 0, 1) := by decide +kernel
theorem dX5_offers_34 : decode cX5_offers 34 = .ok (.getfield 89, 3) := by decide +kernel
theorem dX5_offers_37 : decode cX5_offers 37 = .ok (.iload_n 1, 1) := by decide +kernel
theorem dX5_offers_38 : decode cX5_offers 38 = .ok (.iaload, 1) := by decide +kernel
theorem dX5_offers_39 : decode cX5_offers 39 = .ok (.if_icmp .ge 10, 3) := by decide +kernel
theorem dX5_offers_42 : decode cX5_offers 42 = .ok (.aload_n 0, 1) := by decide +kernel
theorem dX5_offers_43 : decode cX5_offers 43 = .ok (.getfield 89, 3) := by decide +kernel
theorem dX5_offers_46 : decode cX5_offers 46 = .ok (.iload_n 1, 1) := by decide +kernel
theorem dX5_offers_47 : decode cX5_offers 47 = .ok (.iload_n 2, 1) := by decide +kernel
theorem dX5_offers_48 : decode cX5_offers 48 = .ok (.iastore, 1) := by decide +kernel
theorem dX5_offers_49 : decode cX5_offers 49 = .ok (.return_, 1) := by decide +kernel
set_option maxRecDepth 20000 in
theorem ggX5_laysOut_X5_stepTo : GoodIn wsX5_laysOut wsX5_stepTo := goodIn_r _ [12, 13, 14, 15, 16, 17, 18, 11, 19, 20, 6, 21, 22, 23, 24, 25, 38, 39, 40, 41, 42, 43, 44, 45, 46, 47, 48, 49, 50, 51, 52, 53, 54, 55, 56, 57, 58, 59, 60, 61, 62, 63, 64, 65, 66, 67] (by decide +kernel) (by decide +kernel)
set_option maxRecDepth 20000 in
theorem gX5_laysOut_X5_stepTo : GoodIn wsX5_laysOut (wsV RX5 193 RX5 yX5_stepTo wsX5_stepTo) := goodIn_app (goodIn_of _ (by decide +kernel)) ggX5_laysOut_X5_stepTo
set_option maxRecDepth 20000 in
theorem ggX5_laysOut_X5_costOf : GoodIn wsX5_laysOut wsX5_costOf := goodIn_r _ [29, 16, 17, 18, 11, 19, 20, 6, 21, 22, 23, 24, 25, 38, 39, 40, 41, 42, 43, 44, 45, 46, 47, 48, 49, 50, 51, 52, 53, 54, 55, 56, 57, 58, 59, 60, 61, 62, 63, 64, 65, 66, 67] (by decide +kernel) (by decide +kernel)
set_option maxRecDepth 20000 in
theorem gX5_laysOut_X5_costOf : GoodIn wsX5_laysOut (wsV RX5 197 RX5 yX5_costOf wsX5_costOf) := goodIn_app (goodIn_of _ (by decide +kernel)) ggX5_laysOut_X5_costOf
set_option maxRecDepth 20000 in
theorem ggX5_laysOut_X5_adds : GoodIn wsX5_laysOut wsX5_adds := goodIn_r _ [33, 2, 3, 4, 34, 35, 36, 11, 37, 38, 39, 40, 41, 42, 43, 44, 45, 46, 47, 48, 49, 50, 51, 52, 53, 54, 55, 56, 57, 58, 59, 60, 61, 62, 63, 64, 65, 66, 67] (by decide +kernel) (by decide +kernel)
set_option maxRecDepth 20000 in
theorem gX5_laysOut_X5_adds : GoodIn wsX5_laysOut (wsV RX5 200 RX5 yX5_adds wsX5_adds) := goodIn_app (goodIn_of _ (by decide +kernel)) ggX5_laysOut_X5_adds
theorem dX5_laysOut_0 : decode cX5_laysOut 0 = .ok (.aload_n 0, 1) := by decide +kernel
theorem dX5_laysOut_1 : decode cX5_laysOut 1 = .ok (.getfield 186, 3) := by decide +kernel
theorem dX5_laysOut_4 : decode cX5_laysOut 4 = .ok (.iconst 1, 1) := by decide +kernel
theorem dX5_laysOut_5 : decode cX5_laysOut 5 = .ok (.isub, 1) := by decide +kernel
theorem dX5_laysOut_6 : decode cX5_laysOut 6 = .ok (.istore_n 1, 1) := by decide +kernel
theorem dX5_laysOut_7 : decode cX5_laysOut 7 = .ok (.iload_n 1, 1) := by decide +kernel
theorem dX5_laysOut_8 : decode cX5_laysOut 8 = .ok (.ifCond .lt 131, 3) := by decide +kernel
theorem dX5_laysOut_11 : decode cX5_laysOut 11 = .ok (.iconst 0, 1) := by decide +kernel
theorem dX5_laysOut_12 : decode cX5_laysOut 12 = .ok (.istore_n 2, 1) := by decide +kernel
theorem dX5_laysOut_13 : decode cX5_laysOut 13 = .ok (.iload_n 2, 1) := by decide +kernel
theorem dX5_laysOut_14 : decode cX5_laysOut 14 = .ok (.bipush 20, 2) := by decide +kernel
theorem dX5_laysOut_16 : decode cX5_laysOut 16 = .ok (.if_icmp .ge 117, 3) := by decide +kernel
theorem dX5_laysOut_19 : decode cX5_laysOut 19 = .ok (.bipush 20, 2) := by decide +kernel
theorem dX5_laysOut_21 : decode cX5_laysOut 21 = .ok (.iload_n 1, 1) := by decide +kernel
theorem dX5_laysOut_22 : decode cX5_laysOut 22 = .ok (.imul, 1) := by decide +kernel
theorem dX5_laysOut_23 : decode cX5_laysOut 23 = .ok (.iload_n 2, 1) := by decide +kernel
theorem dX5_laysOut_24 : decode cX5_laysOut 24 = .ok (.iadd, 1) := by decide +kernel
theorem dX5_laysOut_25 : decode cX5_laysOut 25 = .ok (.istore_n 3, 1) := by decide +kernel
theorem dX5_laysOut_26 : decode cX5_laysOut 26 = .ok (.aload_n 0, 1) := by decide +kernel
theorem dX5_laysOut_27 : decode cX5_laysOut 27 = .ok (.getfield 86, 3) := by decide +kernel
theorem dX5_laysOut_30 : decode cX5_laysOut 30 = .ok (.iload_n 3, 1) := by decide +kernel
theorem dX5_laysOut_31 : decode cX5_laysOut 31 = .ok (.ldc 192, 2) := by decide +kernel
theorem dX5_laysOut_33 : decode cX5_laysOut 33 = .ok (.iastore, 1) := by decide +kernel
theorem dX5_laysOut_34 : decode cX5_laysOut 34 = .ok (.aload_n 0, 1) := by decide +kernel
theorem dX5_laysOut_35 : decode cX5_laysOut 35 = .ok (.getfield 89, 3) := by decide +kernel
theorem dX5_laysOut_38 : decode cX5_laysOut 38 = .ok (.iload_n 3, 1) := by decide +kernel
theorem dX5_laysOut_39 : decode cX5_laysOut 39 = .ok (.ldc 192, 2) := by decide +kernel
theorem dX5_laysOut_41 : decode cX5_laysOut 41 = .ok (.iastore, 1) := by decide +kernel
theorem dX5_laysOut_42 : decode cX5_laysOut 42 = .ok (.iconst (-1), 1) := by decide +kernel
theorem dX5_laysOut_43 : decode cX5_laysOut 43 = .ok (.istore 4, 2) := by decide +kernel
theorem dX5_laysOut_45 : decode cX5_laysOut 45 = .ok (.iload 4, 2) := by decide +kernel
theorem dX5_laysOut_47 : decode cX5_laysOut 47 = .ok (.aload_n 0, 1) := by decide +kernel
theorem dX5_laysOut_48 : decode cX5_laysOut 48 = .ok (.getfield 67, 3) := by decide +kernel
theorem dX5_laysOut_51 : decode cX5_laysOut 51 = .ok (.aload_n 0, 1) := by decide +kernel
theorem dX5_laysOut_52 : decode cX5_laysOut 52 = .ok (.getfield 155, 3) := by decide +kernel
theorem dX5_laysOut_55 : decode cX5_laysOut 55 = .ok (.iaload, 1) := by decide +kernel
theorem dX5_laysOut_56 : decode cX5_laysOut 56 = .ok (.if_icmp .ge 71, 3) := by decide +kernel
theorem dX5_laysOut_59 : decode cX5_laysOut 59 = .ok (.iconst 0, 1) := by decide +kernel
theorem dX5_laysOut_60 : decode cX5_laysOut 60 = .ok (.istore 5, 2) := by decide +kernel
theorem dX5_laysOut_62 : decode cX5_laysOut 62 = .ok (.iload 5, 2) := by decide +kernel
theorem dX5_laysOut_64 : decode cX5_laysOut 64 = .ok (.aload_n 0, 1) := by decide +kernel
theorem dX5_laysOut_65 : decode cX5_laysOut 65 = .ok (.getfield 61, 3) := by decide +kernel
theorem dX5_laysOut_68 : decode cX5_laysOut 68 = .ok (.aload_n 0, 1) := by decide +kernel
theorem dX5_laysOut_69 : decode cX5_laysOut 69 = .ok (.getfield 155, 3) := by decide +kernel
theorem dX5_laysOut_72 : decode cX5_laysOut 72 = .ok (.iaload, 1) := by decide +kernel
theorem dX5_laysOut_73 : decode cX5_laysOut 73 = .ok (.if_icmp .ge 48, 3) := by decide +kernel
theorem dX5_laysOut_76 : decode cX5_laysOut 76 = .ok (.aload_n 0, 1) := by decide +kernel
theorem dX5_laysOut_77 : decode cX5_laysOut 77 = .ok (.iload_n 1, 1) := by decide +kernel
theorem dX5_laysOut_78 : decode cX5_laysOut 78 = .ok (.iload_n 2, 1) := by decide +kernel
theorem dX5_laysOut_79 : decode cX5_laysOut 79 = .ok (.iload 4, 2) := by decide +kernel
theorem dX5_laysOut_81 : decode cX5_laysOut 81 = .ok (.iload 5, 2) := by decide +kernel
theorem dX5_laysOut_83 : decode cX5_laysOut 83 = .ok (.invokevirtual 193, 3) := by decide +kernel
theorem dX5_laysOut_86 : decode cX5_laysOut 86 = .ok (.istore 6, 2) := by decide +kernel
theorem dX5_laysOut_88 : decode cX5_laysOut 88 = .ok (.iload 6, 2) := by decide +kernel
theorem dX5_laysOut_90 : decode cX5_laysOut 90 = .ok (.ifCond .lt 25, 3) := by decide +kernel
theorem dX5_laysOut_93 : decode cX5_laysOut 93 = .ok (.aload_n 0, 1) := by decide +kernel
theorem dX5_laysOut_94 : decode cX5_laysOut 94 = .ok (.iload_n 3, 1) := by decide +kernel
theorem dX5_laysOut_95 : decode cX5_laysOut 95 = .ok (.bipush 20, 2) := by decide +kernel
theorem dX5_laysOut_97 : decode cX5_laysOut 97 = .ok (.iload_n 1, 1) := by decide +kernel
theorem dX5_laysOut_98 : decode cX5_laysOut 98 = .ok (.iconst 1, 1) := by decide +kernel
theorem dX5_laysOut_99 : decode cX5_laysOut 99 = .ok (.iadd, 1) := by decide +kernel
theorem dX5_laysOut_100 : decode cX5_laysOut 100 = .ok (.imul, 1) := by decide +kernel
theorem dX5_laysOut_101 : decode cX5_laysOut 101 = .ok (.iload 6, 2) := by decide +kernel
theorem dX5_laysOut_103 : decode cX5_laysOut 103 = .ok (.iadd, 1) := by decide +kernel
theorem dX5_laysOut_104 : decode cX5_laysOut 104 = .ok (.aload_n 0, 1) := by decide +kernel
theorem dX5_laysOut_105 : decode cX5_laysOut 105 = .ok (.iload 4, 2) := by decide +kernel
theorem dX5_laysOut_107 : decode cX5_laysOut 107 = .ok (.iload 5, 2) := by decide +kernel
theorem dX5_laysOut_109 : decode cX5_laysOut 109 = .ok (.invokevirtual 197, 3) := by decide +kernel
theorem dX5_laysOut_112 : decode cX5_laysOut 112 = .ok (.invokevirtual 200, 3) := by decide +kernel
theorem dX5_laysOut_115 : decode cX5_laysOut 115 = .ok (.iinc 5 1, 3) := by decide +kernel
theorem dX5_laysOut_118 : decode cX5_laysOut 118 = .ok (.goto (-56), 3) := by decide +kernel
theorem dX5_laysOut_121 : decode cX5_laysOut 121 = .ok (.iinc 4 1, 3) := by decide +kernel
theorem dX5_laysOut_124 : decode cX5_laysOut 124 = .ok (.goto (-79), 3) := by decide +kernel
theorem dX5_laysOut_127 : decode cX5_laysOut 127 = .ok (.iinc 2 1, 3) := by decide +kernel
theorem dX5_laysOut_130 : decode cX5_laysOut 130 = .ok (.goto (-117), 3) := by decide +kernel
theorem dX5_laysOut_133 : decode cX5_laysOut 133 = .ok (.iinc 1 (-1), 3) := by decide +kernel
theorem dX5_laysOut_136 : decode cX5_laysOut 136 = .ok (.goto (-129), 3) := by decide +kernel
theorem dX5_laysOut_139 : decode cX5_laysOut 139 = .ok (.return_, 1) := by decide +kernel
set_option maxRecDepth 20000 in
theorem ggX5_adds_X5_offers : GoodIn wsX5_adds wsX5_offers := goodIn_r _ [8, 1, 3, 9, 10, 11, 12, 13, 14, 15, 16, 17, 18, 19, 20, 21, 22, 23, 24, 25, 26, 27, 28, 29, 30, 31, 32, 33, 34, 35, 36, 37, 38] (by decide +kernel) (by decide +kernel)
set_option maxRecDepth 20000 in
theorem gX5_adds_X5_offers : GoodIn wsX5_adds (wsV RX5 204 RX5 yX5_offers wsX5_offers) := goodIn_app (goodIn_of _ (by decide +kernel)) ggX5_adds_X5_offers
theorem dX5_adds_0 : decode cX5_adds 0 = .ok (.aload_n 0, 1) := by decide +kernel
theorem dX5_adds_1 : decode cX5_adds 1 = .ok (.getfield 86, 3) := by decide +kernel
theorem dX5_adds_4 : decode cX5_adds 4 = .ok (.iload_n 2, 1) := by decide +kernel
theorem dX5_adds_5 : decode cX5_adds 5 = .ok (.iaload, 1) := by decide +kernel
theorem dX5_adds_6 : decode cX5_adds 6 = .ok (.ldc 192, 2) := by decide +kernel
theorem dX5_adds_8 : decode cX5_adds 8 = .ok (.if_icmp .ge 16, 3) := by decide +kernel
theorem dX5_adds_11 : decode cX5_adds 11 = .ok (.aload_n 0, 1) := by decide +kernel
theorem dX5_adds_12 : decode cX5_adds 12 = .ok (.iload_n 1, 1) := by decide +kernel
theorem dX5_adds_13 : decode cX5_adds 13 = .ok (.iload_n 3, 1) := by decide +kernel
theorem dX5_adds_14 : decode cX5_adds 14 = .ok (.aload_n 0, 1) := by decide +kernel
theorem dX5_adds_15 : decode cX5_adds 15 = .ok (.getfield 86, 3) := by decide +kernel
theorem dX5_adds_18 : decode cX5_adds 18 = .ok (.iload_n 2, 1) := by decide +kernel
theorem dX5_adds_19 : decode cX5_adds 19 = .ok (.iaload, 1) := by decide +kernel
theorem dX5_adds_20 : decode cX5_adds 20 = .ok (.iadd, 1) := by decide +kernel
theorem dX5_adds_21 : decode cX5_adds 21 = .ok (.invokevirtual 204, 3) := by decide +kernel
theorem dX5_adds_24 : decode cX5_adds 24 = .ok (.aload_n 0, 1) := by decide +kernel
theorem dX5_adds_25 : decode cX5_adds 25 = .ok (.getfield 89, 3) := by decide +kernel
theorem dX5_adds_28 : decode cX5_adds 28 = .ok (.iload_n 2, 1) := by decide +kernel
theorem dX5_adds_29 : decode cX5_adds 29 = .ok (.iaload, 1) := by decide +kernel
theorem dX5_adds_30 : decode cX5_adds 30 = .ok (.ldc 192, 2) := by decide +kernel
theorem dX5_adds_32 : decode cX5_adds 32 = .ok (.if_icmp .ge 16, 3) := by decide +kernel
theorem dX5_adds_35 : decode cX5_adds 35 = .ok (.aload_n 0, 1) := by decide +kernel
theorem dX5_adds_36 : decode cX5_adds 36 = .ok (.iload_n 1, 1) := by decide +kernel
theorem dX5_adds_37 : decode cX5_adds 37 = .ok (.iload_n 3, 1) := by decide +kernel
theorem dX5_adds_38 : decode cX5_adds 38 = .ok (.aload_n 0, 1) := by decide +kernel
theorem dX5_adds_39 : decode cX5_adds 39 = .ok (.getfield 89, 3) := by decide +kernel
theorem dX5_adds_42 : decode cX5_adds 42 = .ok (.iload_n 2, 1) := by decide +kernel
theorem dX5_adds_43 : decode cX5_adds 43 = .ok (.iaload, 1) := by decide +kernel
theorem dX5_adds_44 : decode cX5_adds 44 = .ok (.iadd, 1) := by decide +kernel
theorem dX5_adds_45 : decode cX5_adds 45 = .ok (.invokevirtual 204, 3) := by decide +kernel
theorem dX5_adds_48 : decode cX5_adds 48 = .ok (.return_, 1) := by decide +kernel
set_option maxRecDepth 20000 in
theorem ggX5_laysOutEnds_X5_endOf : GoodIn wsX5_laysOutEnds wsX5_endOf := goodIn_r _ [11, 12, 6, 42, 43, 44, 45, 46, 47, 48, 49, 50, 51, 52, 53, 54, 55, 56, 57, 58, 59, 60, 61, 62, 63, 64, 65, 66, 67, 68, 69, 70, 71] (by decide +kernel) (by decide +kernel)
set_option maxRecDepth 20000 in
theorem gX5_laysOutEnds_X5_endOf : GoodIn wsX5_laysOutEnds (wsV RX5 189 RX5 yX5_endOf wsX5_endOf) := goodIn_app (goodIn_of _ (by decide +kernel)) ggX5_laysOutEnds_X5_endOf
set_option maxRecDepth 20000 in
theorem ggX5_laysOutEnds_X5_offers : GoodIn wsX5_laysOutEnds wsX5_offers := goodIn_r _ [16, 2, 4, 42, 43, 44, 45, 46, 47, 48, 49, 50, 51, 52, 53, 54, 55, 56, 57, 58, 59, 60, 61, 62, 63, 64, 65, 66, 67, 68, 69, 70, 71] (by decide +kernel) (by decide +kernel)
set_option maxRecDepth 20000 in
theorem gX5_laysOutEnds_X5_offers : GoodIn wsX5_laysOutEnds (wsV RX5 204 RX5 yX5_offers wsX5_offers) := goodIn_app (goodIn_of _ (by decide +kernel)) ggX5_laysOutEnds_X5_offers
set_option maxRecDepth 20000 in
theorem ggX5_laysOutEnds_X5_laysOut : GoodIn wsX5_laysOutEnds wsX5_laysOut := goodIn_r _ [20, 1, 2, 3, 4, 5, 6, 21, 22, 23, 24, 10, 25, 26, 27, 28, 29, 30, 31, 32, 33, 7, 8, 9, 11, 12, 34, 35, 36, 37, 38, 39, 40, 41, 13, 14, 15, 16, 42, 43, 44, 45, 46, 47, 48, 49, 50, 51, 52, 53, 54, 55, 56, 57, 58, 59, 60, 61, 62, 63, 64, 65, 66, 67, 68, 69, 70, 71] (by decide +kernel) (by decide +kernel)
set_option maxRecDepth 20000 in
theorem gX5_laysOutEnds_X5_laysOut : GoodIn wsX5_laysOutEnds (wsV RX5 208 RX5 yX5_laysOut wsX5_laysOut) := goodIn_app (goodIn_of _ (by decide +kernel)) ggX5_laysOutEnds_X5_laysOut
theorem dX5_laysOutEnds_0 : decode cX5_laysOutEnds 0 = .ok (.iconst 0, 1) := by decide +kernel
theorem dX5_laysOutEnds_1 : decode cX5_laysOutEnds 1 = .ok (.istore_n 1, 1) := by decide +kernel
theorem dX5_laysOutEnds_2 : decode cX5_laysOutEnds 2 = .ok (.iload_n 1, 1) := by decide +kernel
theorem dX5_laysOutEnds_3 : decode cX5_laysOutEnds 3 = .ok (.bipush 20, 2) := by decide +kernel
theorem dX5_laysOutEnds_5 : decode cX5_laysOutEnds 5 = .ok (.if_icmp .ge 83, 3) := by decide +kernel
theorem dX5_laysOutEnds_8 : decode cX5_laysOutEnds 8 = .ok (.bipush 20, 2) := by decide +kernel
theorem dX5_laysOutEnds_10 : decode cX5_laysOutEnds 10 = .ok (.aload_n 0, 1) := by decide +kernel
theorem dX5_laysOutEnds_11 : decode cX5_laysOutEnds 11 = .ok (.getfield 186, 3) := by decide +kernel
theorem dX5_laysOutEnds_14 : decode cX5_laysOutEnds 14 = .ok (.imul, 1) := by decide +kernel
theorem dX5_laysOutEnds_15 : decode cX5_laysOutEnds 15 = .ok (.iload_n 1, 1) := by decide +kernel
theorem dX5_laysOutEnds_16 : decode cX5_laysOutEnds 16 = .ok (.iadd, 1) := by decide +kernel
theorem dX5_laysOutEnds_17 : decode cX5_laysOutEnds 17 = .ok (.istore_n 2, 1) := by decide +kernel
theorem dX5_laysOutEnds_18 : decode cX5_laysOutEnds 18 = .ok (.aload_n 0, 1) := by decide +kernel
theorem dX5_laysOutEnds_19 : decode cX5_laysOutEnds 19 = .ok (.getfield 86, 3) := by decide +kernel
theorem dX5_laysOutEnds_22 : decode cX5_laysOutEnds 22 = .ok (.iload_n 2, 1) := by decide +kernel
theorem dX5_laysOutEnds_23 : decode cX5_laysOutEnds 23 = .ok (.ldc 192, 2) := by decide +kernel
theorem dX5_laysOutEnds_25 : decode cX5_laysOutEnds 25 = .ok (.iastore, 1) := by decide +kernel
theorem dX5_laysOutEnds_26 : decode cX5_laysOutEnds 26 = .ok (.aload_n 0, 1) := by decide +kernel
theorem dX5_laysOutEnds_27 : decode cX5_laysOutEnds 27 = .ok (.getfield 89, 3) := by decide +kernel
theorem dX5_laysOutEnds_30 : decode cX5_laysOutEnds 30 = .ok (.iload_n 2, 1) := by decide +kernel
theorem dX5_laysOutEnds_31 : decode cX5_laysOutEnds 31 = .ok (.ldc 192, 2) := by decide +kernel
theorem dX5_laysOutEnds_33 : decode cX5_laysOutEnds 33 = .ok (.iastore, 1) := by decide +kernel
theorem dX5_laysOutEnds_34 : decode cX5_laysOutEnds 34 = .ok (.iconst 0, 1) := by decide +kernel
theorem dX5_laysOutEnds_35 : decode cX5_laysOutEnds 35 = .ok (.istore_n 3, 1) := by decide +kernel
theorem dX5_laysOutEnds_36 : decode cX5_laysOutEnds 36 = .ok (.iload_n 3, 1) := by decide +kernel
theorem dX5_laysOutEnds_37 : decode cX5_laysOutEnds 37 = .ok (.aload_n 0, 1) := by decide +kernel
theorem dX5_laysOutEnds_38 : decode cX5_laysOutEnds 38 = .ok (.getfield 67, 3) := by decide +kernel
theorem dX5_laysOutEnds_41 : decode cX5_laysOutEnds 41 = .ok (.aload_n 0, 1) := by decide +kernel
theorem dX5_laysOutEnds_42 : decode cX5_laysOutEnds 42 = .ok (.getfield 155, 3) := by decide +kernel
theorem dX5_laysOutEnds_45 : decode cX5_laysOutEnds 45 = .ok (.iaload, 1) := by decide +kernel
theorem dX5_laysOutEnds_46 : decode cX5_laysOutEnds 46 = .ok (.if_icmp .ge 36, 3) := by decide +kernel
theorem dX5_laysOutEnds_49 : decode cX5_laysOutEnds 49 = .ok (.iload_n 1, 1) := by decide +kernel
theorem dX5_laysOutEnds_50 : decode cX5_laysOutEnds 50 = .ok (.bipush 10, 2) := by decide +kernel
theorem dX5_laysOutEnds_52 : decode cX5_laysOutEnds 52 = .ok (.if_icmp .ge 30, 3) := by decide +kernel
theorem dX5_laysOutEnds_55 : decode cX5_laysOutEnds 55 = .ok (.aload_n 0, 1) := by decide +kernel
theorem dX5_laysOutEnds_56 : decode cX5_laysOutEnds 56 = .ok (.iload_n 3, 1) := by decide +kernel
theorem dX5_laysOutEnds_57 : decode cX5_laysOutEnds 57 = .ok (.iconst 0, 1) := by decide +kernel
theorem dX5_laysOutEnds_58 : decode cX5_laysOutEnds 58 = .ok (.invokevirtual 189, 3) := by decide +kernel
theorem dX5_laysOutEnds_61 : decode cX5_laysOutEnds 61 = .ok (.iload_n 1, 1) := by decide +kernel
theorem dX5_laysOutEnds_62 : decode cX5_laysOutEnds 62 = .ok (.if_icmp .ne 14, 3) := by decide +kernel
theorem dX5_laysOutEnds_65 : decode cX5_laysOutEnds 65 = .ok (.aload_n 0, 1) := by decide +kernel
theorem dX5_laysOutEnds_66 : decode cX5_laysOutEnds 66 = .ok (.iload_n 2, 1) := by decide +kernel
theorem dX5_laysOutEnds_67 : decode cX5_laysOutEnds 67 = .ok (.aload_n 0, 1) := by decide +kernel
theorem dX5_laysOutEnds_68 : decode cX5_laysOutEnds 68 = .ok (.iload_n 3, 1) := by decide +kernel
theorem dX5_laysOutEnds_69 : decode cX5_laysOutEnds 69 = .ok (.iconst 1, 1) := by decide +kernel
theorem dX5_laysOutEnds_70 : decode cX5_laysOutEnds 70 = .ok (.invokevirtual 189, 3) := by decide +kernel
theorem dX5_laysOutEnds_73 : decode cX5_laysOutEnds 73 = .ok (.invokevirtual 204, 3) := by decide +kernel
theorem dX5_laysOutEnds_76 : decode cX5_laysOutEnds 76 = .ok (.iinc 3 1, 3) := by decide +kernel
theorem dX5_laysOutEnds_79 : decode cX5_laysOutEnds 79 = .ok (.goto (-43), 3) := by decide +kernel
theorem dX5_laysOutEnds_82 : decode cX5_laysOutEnds 82 = .ok (.iinc 1 1, 3) := by decide +kernel
theorem dX5_laysOutEnds_85 : decode cX5_laysOutEnds 85 = .ok (.goto (-83), 3) := by decide +kernel
theorem dX5_laysOutEnds_88 : decode cX5_laysOutEnds 88 = .ok (.aload_n 0, 1) := by decide +kernel
theorem dX5_laysOutEnds_89 : decode cX5_laysOutEnds 89 = .ok (.invokevirtual 208, 3) := by decide +kernel
theorem dX5_laysOutEnds_92 : decode cX5_laysOutEnds 92 = .ok (.return_, 1) := by decide +kernel
set_option maxRecDepth 20000 in
theorem ggX5_goesFrom_X5_stepTo : GoodIn wsX5_goesFrom wsX5_stepTo := goodIn_r _ [14, 15, 16, 17, 18, 19, 20, 13, 21, 22, 6, 23, 24, 25, 26, 27, 32, 33, 34, 35, 36, 37, 38, 39, 40, 41, 42, 43, 44, 45, 46, 47, 48, 49, 50, 51, 52, 53, 54, 55, 56, 57, 58, 59, 60, 61] (by decide +kernel) (by decide +kernel)
set_option maxRecDepth 20000 in
theorem gX5_goesFrom_X5_stepTo : GoodIn wsX5_goesFrom (wsV RX5 193 RX5 yX5_stepTo wsX5_stepTo) := goodIn_app (goodIn_of _ (by decide +kernel)) ggX5_goesFrom_X5_stepTo
set_option maxRecDepth 20000 in
theorem ggX5_goesFrom_X5_costOf : GoodIn wsX5_goesFrom wsX5_costOf := goodIn_r _ [31, 18, 19, 20, 13, 21, 22, 6, 23, 24, 25, 26, 27, 32, 33, 34, 35, 36, 37, 38, 39, 40, 41, 42, 43, 44, 45, 46, 47, 48, 49, 50, 51, 52, 53, 54, 55, 56, 57, 58, 59, 60, 61] (by decide +kernel) (by decide +kernel)
set_option maxRecDepth 20000 in
theorem gX5_goesFrom_X5_costOf : GoodIn wsX5_goesFrom (wsV RX5 197 RX5 yX5_costOf wsX5_costOf) := goodIn_app (goodIn_of _ (by decide +kernel)) ggX5_goesFrom_X5_costOf
theorem dX5_goesFrom_0 : decode cX5_goesFrom 0 = .ok (.aload_n 0, 1) := by decide +kernel
theorem dX5_goesFrom_1 : decode cX5_goesFrom 1 = .ok (.getfield 86, 3) := by decide +kernel
theorem dX5_goesFrom_4 : decode cX5_goesFrom 4 = .ok (.iconst 0, 1) := by decide +kernel
theorem dX5_goesFrom_5 : decode cX5_goesFrom 5 = .ok (.iaload, 1) := by decide +kernel
theorem dX5_goesFrom_6 : decode cX5_goesFrom 6 = .ok (.ldc 192, 2) := by decide +kernel
theorem dX5_goesFrom_8 : decode cX5_goesFrom 8 = .ok (.if_icmp .lt 5, 3) := by decide +kernel
theorem dX5_goesFrom_11 : decode cX5_goesFrom 11 = .ok (.iconst 0, 1) := by decide +kernel
theorem dX5_goesFrom_12 : decode cX5_goesFrom 12 = .ok (.ireturn, 1) := by decide +kernel
theorem dX5_goesFrom_13 : decode cX5_goesFrom 13 = .ok (.iconst 0, 1) := by decide +kernel
theorem dX5_goesFrom_14 : decode cX5_goesFrom 14 = .ok (.istore_n 1, 1) := by decide +kernel
theorem dX5_goesFrom_15 : decode cX5_goesFrom 15 = .ok (.iconst 0, 1) := by decide +kernel
theorem dX5_goesFrom_16 : decode cX5_goesFrom 16 = .ok (.istore_n 2, 1) := by decide +kernel
theorem dX5_goesFrom_17 : decode cX5_goesFrom 17 = .ok (.iload_n 2, 1) := by decide +kernel
theorem dX5_goesFrom_18 : decode cX5_goesFrom 18 = .ok (.aload_n 0, 1) := by decide +kernel
theorem dX5_goesFrom_19 : decode cX5_goesFrom 19 = .ok (.getfield 186, 3) := by decide +kernel
theorem dX5_goesFrom_22 : decode cX5_goesFrom 22 = .ok (.if_icmp .ge 160, 3) := by decide +kernel
theorem dX5_goesFrom_25 : decode cX5_goesFrom 25 = .ok (.aload_n 0, 1) := by decide +kernel
theorem dX5_goesFrom_26 : decode cX5_goesFrom 26 = .ok (.getfield 95, 3) := by decide +kernel
theorem dX5_goesFrom_29 : decode cX5_goesFrom 29 = .ok (.iload_n 2, 1) := by decide +kernel
theorem dX5_goesFrom_30 : decode cX5_goesFrom 30 = .ok (.iconst (-1), 1) := by decide +kernel
theorem dX5_goesFrom_31 : decode cX5_goesFrom 31 = .ok (.iastore, 1) := by decide +kernel
theorem dX5_goesFrom_32 : decode cX5_goesFrom 32 = .ok (.iconst (-1), 1) := by decide +kernel
theorem dX5_goesFrom_33 : decode cX5_goesFrom 33 = .ok (.istore_n 3, 1) := by decide +kernel
theorem dX5_goesFrom_34 : decode cX5_goesFrom 34 = .ok (.iload_n 3, 1) := by decide +kernel
theorem dX5_goesFrom_35 : decode cX5_goesFrom 35 = .ok (.aload_n 0, 1) := by decide +kernel
theorem dX5_goesFrom_36 : decode cX5_goesFrom 36 = .ok (.getfield 67, 3) := by decide +kernel
theorem dX5_goesFrom_39 : decode cX5_goesFrom 39 = .ok (.aload_n 0, 1) := by decide +kernel
theorem dX5_goesFrom_40 : decode cX5_goesFrom 40 = .ok (.getfield 155, 3) := by decide +kernel
theorem dX5_goesFrom_43 : decode cX5_goesFrom 43 = .ok (.iaload, 1) := by decide +kernel
theorem dX5_goesFrom_44 : decode cX5_goesFrom 44 = .ok (.if_icmp .ge 125, 3) := by decide +kernel
theorem dX5_goesFrom_47 : decode cX5_goesFrom 47 = .ok (.aload_n 0, 1) := by decide +kernel
theorem dX5_goesFrom_48 : decode cX5_goesFrom 48 = .ok (.getfield 95, 3) := by decide +kernel
theorem dX5_goesFrom_51 : decode cX5_goesFrom 51 = .ok (.iload_n 2, 1) := by decide +kernel
theorem dX5_goesFrom_52 : decode cX5_goesFrom 52 = .ok (.iaload, 1) := by decide +kernel
theorem dX5_goesFrom_53 : decode cX5_goesFrom 53 = .ok (.ifCond .ge 116, 3) := by decide +kernel
theorem dX5_goesFrom_56 : decode cX5_goesFrom 56 = .ok (.iconst 0, 1) := by decide +kernel
theorem dX5_goesFrom_57 : decode cX5_goesFrom 57 = .ok (.istore 4, 2) := by decide +kernel
theorem dX5_goesFrom_59 : decode cX5_goesFrom 59 = .ok (.iload 4, 2) := by decide +kernel
theorem dX5_goesFrom_61 : decode cX5_goesFrom 61 = .ok (.aload_n 0, 1) := by decide +kernel
theorem dX5_goesFrom_62 : decode cX5_goesFrom 62 = .ok (.getfield 61, 3) := by decide +kernel
theorem dX5_goesFrom_65 : decode cX5_goesFrom 65 = .ok (.aload_n 0, 1) := by decide +kernel
theorem dX5_goesFrom_66 : decode cX5_goesFrom 66 = .ok (.getfield 155, 3) := by decide +kernel
theorem dX5_goesFrom_69 : decode cX5_goesFrom 69 = .ok (.iaload, 1) := by decide +kernel
theorem dX5_goesFrom_70 : decode cX5_goesFrom 70 = .ok (.if_icmp .ge 93, 3) := by decide +kernel
theorem dX5_goesFrom_73 : decode cX5_goesFrom 73 = .ok (.aload_n 0, 1) := by decide +kernel
theorem dX5_goesFrom_74 : decode cX5_goesFrom 74 = .ok (.getfield 95, 3) := by decide +kernel
theorem dX5_goesFrom_77 : decode cX5_goesFrom 77 = .ok (.iload_n 2, 1) := by decide +kernel
theorem dX5_goesFrom_78 : decode cX5_goesFrom 78 = .ok (.iaload, 1) := by decide +kernel
theorem dX5_goesFrom_79 : decode cX5_goesFrom 79 = .ok (.ifCond .ge 84, 3) := by decide +kernel
theorem dX5_goesFrom_82 : decode cX5_goesFrom 82 = .ok (.aload_n 0, 1) := by decide +kernel
theorem dX5_goesFrom_83 : decode cX5_goesFrom 83 = .ok (.iload_n 2, 1) := by decide +kernel
theorem dX5_goesFrom_84 : decode cX5_goesFrom 84 = .ok (.iload_n 1, 1) := by decide +kernel
theorem dX5_goesFrom_85 : decode cX5_goesFrom 85 = .ok (.iload_n 3, 1) := by decide +kernel
theorem dX5_goesFrom_86 : decode cX5_goesFrom 86 = .ok (.iload 4, 2) := by decide +kernel
theorem dX5_goesFrom_88 : decode cX5_goesFrom 88 = .ok (.invokevirtual 193, 3) := by decide +kernel
theorem dX5_goesFrom_91 : decode cX5_goesFrom 91 = .ok (.istore 5, 2) := by decide +kernel
theorem dX5_goesFrom_93 : decode cX5_goesFrom 93 = .ok (.iload 5, 2) := by decide +kernel
theorem dX5_goesFrom_95 : decode cX5_goesFrom 95 = .ok (.ifCond .lt 62, 3) := by decide +kernel
theorem dX5_goesFrom_98 : decode cX5_goesFrom 98 = .ok (.aload_n 0, 1) := by decide +kernel
theorem dX5_goesFrom_99 : decode cX5_goesFrom 99 = .ok (.iload_n 3, 1) := by decide +kernel
theorem dX5_goesFrom_100 : decode cX5_goesFrom 100 = .ok (.iload 4, 2) := by decide +kernel
theorem dX5_goesFrom_102 : decode cX5_goesFrom 102 = .ok (.invokevirtual 197, 3) := by decide +kernel
theorem dX5_goesFrom_105 : decode cX5_goesFrom 105 = .ok (.aload_n 0, 1) := by decide +kernel
theorem dX5_goesFrom_106 : decode cX5_goesFrom 106 = .ok (.getfield 86, 3) := by decide +kernel
theorem dX5_goesFrom_109 : decode cX5_goesFrom 109 = .ok (.bipush 20, 2) := by decide +kernel
theorem dX5_goesFrom_111 : decode cX5_goesFrom 111 = .ok (.iload_n 2, 1) := by decide +kernel
theorem dX5_goesFrom_112 : decode cX5_goesFrom 112 = .ok (.iconst 1, 1) := by decide +kernel
theorem dX5_goesFrom_113 : decode cX5_goesFrom 113 = .ok (.iadd, 1) := by decide +kernel
theorem dX5_goesFrom_114 : decode cX5_goesFrom 114 = .ok (.imul, 1) := by decide +kernel
theorem dX5_goesFrom_115 : decode cX5_goesFrom 115 = .ok (.iload 5, 2) := by decide +kernel
theorem dX5_goesFrom_117 : decode cX5_goesFrom 117 = .ok (.iadd, 1) := by decide +kernel
theorem dX5_goesFrom_118 : decode cX5_goesFrom 118 = .ok (.iaload, 1) := by decide +kernel
theorem dX5_goesFrom_119 : decode cX5_goesFrom 119 = .ok (.iadd, 1) := by decide +kernel
theorem dX5_goesFrom_120 : decode cX5_goesFrom 120 = .ok (.aload_n 0, 1) := by decide +kernel
theorem dX5_goesFrom_121 : decode cX5_goesFrom 121 = .ok (.getfield 86, 3) := by decide +kernel
theorem dX5_goesFrom_124 : decode cX5_goesFrom 124 = .ok (.bipush 20, 2) := by decide +kernel
theorem dX5_goesFrom_126 : decode cX5_goesFrom 126 = .ok (.iload_n 2, 1) := by decide +kernel
theorem dX5_goesFrom_127 : decode cX5_goesFrom 127 = .ok (.imul, 1) := by decide +kernel
theorem dX5_goesFrom_128 : decode cX5_goesFrom 128 = .ok (.iload_n 1, 1) := by decide +kernel
theorem dX5_goesFrom_129 : decode cX5_goesFrom 129 = .ok (.iadd, 1) := by decide +kernel
theorem dX5_goesFrom_130 : decode cX5_goesFrom 130 = .ok (.iaload, 1) := by decide +kernel
theorem dX5_goesFrom_131 : decode cX5_goesFrom 131 = .ok (.if_icmp .ne 26, 3) := by decide +kernel
theorem dX5_goesFrom_134 : decode cX5_goesFrom 134 = .ok (.aload_n 0, 1) := by decide +kernel
theorem dX5_goesFrom_135 : decode cX5_goesFrom 135 = .ok (.getfield 92, 3) := by decide +kernel
theorem dX5_goesFrom_138 : decode cX5_goesFrom 138 = .ok (.iload_n 2, 1) := by decide +kernel
theorem dX5_goesFrom_139 : decode cX5_goesFrom 139 = .ok (.iload_n 3, 1) := by decide +kernel
theorem dX5_goesFrom_140 : decode cX5_goesFrom 140 = .ok (.iastore, 1) := by decide +kernel
theorem dX5_goesFrom_141 : decode cX5_goesFrom 141 = .ok (.aload_n 0, 1) := by decide +kernel
theorem dX5_goesFrom_142 : decode cX5_goesFrom 142 = .ok (.getfield 95, 3) := by decide +kernel
theorem dX5_goesFrom_145 : decode cX5_goesFrom 145 = .ok (.iload_n 2, 1) := by decide +kernel
theorem dX5_goesFrom_146 : decode cX5_goesFrom 146 = .ok (.iload 4, 2) := by decide +kernel
theorem dX5_goesFrom_148 : decode cX5_goesFrom 148 = .ok (.iastore, 1) := by decide +kernel
theorem dX5_goesFrom_149 : decode cX5_goesFrom 149 = .ok (.aload_n 0, 1) := by decide +kernel
theorem dX5_goesFrom_150 : decode cX5_goesFrom 150 = .ok (.getfield 98, 3) := by decide +kernel
theorem dX5_goesFrom_153 : decode cX5_goesFrom 153 = .ok (.iload_n 2, 1) := by decide +kernel
theorem dX5_goesFrom_154 : decode cX5_goesFrom 154 = .ok (.iload 5, 2) := by decide +kernel
theorem dX5_goesFrom_156 : decode cX5_goesFrom 156 = .ok (.iastore, 1) := by decide +kernel
theorem dX5_goesFrom_157 : decode cX5_goesFrom 157 = .ok (.iinc 4 1, 3) := by decide +kernel
theorem dX5_goesFrom_160 : decode cX5_goesFrom 160 = .ok (.goto (-101), 3) := by decide +kernel
theorem dX5_goesFrom_163 : decode cX5_goesFrom 163 = .ok (.iinc 3 1, 3) := by decide +kernel
theorem dX5_goesFrom_166 : decode cX5_goesFrom 166 = .ok (.goto (-132), 3) := by decide +kernel
theorem dX5_goesFrom_169 : decode cX5_goesFrom 169 = .ok (.aload_n 0, 1) := by decide +kernel
theorem dX5_goesFrom_170 : decode cX5_goesFrom 170 = .ok (.getfield 98, 3) := by decide +kernel
theorem dX5_goesFrom_173 : decode cX5_goesFrom 173 = .ok (.iload_n 2, 1) := by decide +kernel
theorem dX5_goesFrom_174 : decode cX5_goesFrom 174 = .ok (.iaload, 1) := by decide +kernel
theorem dX5_goesFrom_175 : decode cX5_goesFrom 175 = .ok (.istore_n 1, 1) := by decide +kernel
theorem dX5_goesFrom_176 : decode cX5_goesFrom 176 = .ok (.iinc 2 1, 3) := by decide +kernel
theorem dX5_goesFrom_179 : decode cX5_goesFrom 179 = .ok (.goto (-162), 3) := by decide +kernel
theorem dX5_goesFrom_182 : decode cX5_goesFrom 182 = .ok (.iconst 1, 1) := by decide +kernel
theorem dX5_goesFrom_183 : decode cX5_goesFrom 183 = .ok (.ireturn, 1) := by decide +kernel
set_option maxRecDepth 20000 in
theorem ggX5_parts_X5_laysOutEnds : GoodIn wsX5_parts wsX5_laysOutEnds := goodIn_r _ [11, 1, 6, 12, 13, 3, 4, 14, 15, 16, 10, 17, 18, 19, 20, 21, 22, 23, 24, 25, 26, 27, 28, 29, 30, 31, 32, 33, 34, 35, 36, 37, 38, 39, 40, 41, 42, 43, 44, 45, 46, 47, 54, 55, 56, 57, 58, 59, 60, 61, 62, 63, 64, 65, 66, 67, 68, 69, 70, 71, 72, 73, 74, 75, 76, 77, 78, 79, 80, 81, 82, 83] (by decide +kernel) (by decide +kernel)
set_option maxRecDepth 20000 in
theorem gX5_parts_X5_laysOutEnds : GoodIn wsX5_parts (wsV RX5 211 RX5 yX5_laysOutEnds wsX5_laysOutEnds) := goodIn_app (goodIn_of _ (by decide +kernel)) ggX5_parts_X5_laysOutEnds
set_option maxRecDepth 20000 in
theorem ggX5_parts_X5_goesFrom : GoodIn wsX5_parts wsX5_goesFrom := goodIn_r _ [51, 6, 12, 1, 52, 3, 4, 27, 53, 5, 28, 29, 30, 10, 31, 32, 33, 34, 35, 36, 37, 38, 39, 14, 15, 16, 17, 18, 40, 41, 42, 43, 54, 55, 56, 57, 58, 59, 60, 61, 62, 63, 64, 65, 66, 67, 68, 69, 70, 71, 72, 73, 74, 75, 76, 77, 78, 79, 80, 81, 82, 83] (by decide +kernel) (by decide +kernel)
set_option maxRecDepth 20000 in
theorem gX5_parts_X5_goesFrom : GoodIn wsX5_parts (wsV RX5 214 RX5 yX5_goesFrom wsX5_goesFrom) := goodIn_app (goodIn_of _ (by decide +kernel)) ggX5_parts_X5_goesFrom
set_option maxRecDepth 20000 in
theorem ggX5_parts_X5_endOf : GoodIn wsX5_parts wsX5_endOf := goodIn_r _ [17, 18, 4, 54, 55, 56, 57, 58, 59, 60, 61, 62, 63, 64, 65, 66, 67, 68, 69, 70, 71, 72, 73, 74, 75, 76, 77, 78, 79, 80, 81, 82, 83] (by decide +kernel) (by decide +kernel)
set_option maxRecDepth 20000 in
theorem gX5_parts_X5_endOf : GoodIn wsX5_parts (wsV RX5 189 RX5 yX5_endOf wsX5_endOf) := goodIn_app (goodIn_of _ (by decide +kernel)) ggX5_parts_X5_endOf
theorem dX5_parts_0 : decode cX5_parts 0 = .ok (.aload_n 0, 1) := by decide +kernel
theorem dX5_parts_1 : decode cX5_parts 1 = .ok (.invokevirtual 211, 3) := by decide +kernel
theorem dX5_parts_4 : decode cX5_parts 4 = .ok (.aload_n 0, 1) := by decide +kernel
theorem dX5_parts_5 : decode cX5_parts 5 = .ok (.getfield 186, 3) := by decide +kernel
theorem dX5_parts_8 : decode cX5_parts 8 = .ok (.ifCond .le 14, 3) := by decide +kernel
theorem dX5_parts_11 : decode cX5_parts 11 = .ok (.aload_n 0, 1) := by decide +kernel
theorem dX5_parts_12 : decode cX5_parts 12 = .ok (.invokevirtual 214, 3) := by decide +kernel
theorem dX5_parts_15 : decode cX5_parts 15 = .ok (.ifCond .eq 7, 3) := by decide +kernel
theorem dX5_parts_18 : decode cX5_parts 18 = .ok (.iconst 1, 1) := by decide +kernel
theorem dX5_parts_19 : decode cX5_parts 19 = .ok (.goto 4, 3) := by decide +kernel
theorem dX5_parts_22 : decode cX5_parts 22 = .ok (.iconst 0, 1) := by decide +kernel
theorem dX5_parts_23 : decode cX5_parts 23 = .ok (.istore_n 1, 1) := by decide +kernel
theorem dX5_parts_24 : decode cX5_parts 24 = .ok (.aload_n 0, 1) := by decide +kernel
theorem dX5_parts_25 : decode cX5_parts 25 = .ok (.iconst (-1), 1) := by decide +kernel
theorem dX5_parts_26 : decode cX5_parts 26 = .ok (.putfield 218, 3) := by decide +kernel
theorem dX5_parts_29 : decode cX5_parts 29 = .ok (.iconst 0, 1) := by decide +kernel
theorem dX5_parts_30 : decode cX5_parts 30 = .ok (.istore_n 2, 1) := by decide +kernel
theorem dX5_parts_31 : decode cX5_parts 31 = .ok (.iload_n 2, 1) := by decide +kernel
theorem dX5_parts_32 : decode cX5_parts 32 = .ok (.aload_n 0, 1) := by decide +kernel
theorem dX5_parts_33 : decode cX5_parts 33 = .ok (.getfield 67, 3) := by decide +kernel
theorem dX5_parts_36 : decode cX5_parts 36 = .ok (.aload_n 0, 1) := by decide +kernel
theorem dX5_parts_37 : decode cX5_parts 37 = .ok (.getfield 155, 3) := by decide +kernel
theorem dX5_parts_40 : decode cX5_parts 40 = .ok (.iaload, 1) := by decide +kernel
theorem dX5_parts_41 : decode cX5_parts 41 = .ok (.if_icmp .ge 74, 3) := by decide +kernel
theorem dX5_parts_44 : decode cX5_parts 44 = .ok (.iload_n 1, 1) := by decide +kernel
theorem dX5_parts_45 : decode cX5_parts 45 = .ok (.ifCond .eq 70, 3) := by decide +kernel
theorem dX5_parts_48 : decode cX5_parts 48 = .ok (.aload_n 0, 1) := by decide +kernel
theorem dX5_parts_49 : decode cX5_parts 49 = .ok (.getfield 218, 3) := by decide +kernel
theorem dX5_parts_52 : decode cX5_parts 52 = .ok (.ifCond .ge 63, 3) := by decide +kernel
theorem dX5_parts_55 : decode cX5_parts 55 = .ok (.aload_n 0, 1) := by decide +kernel
theorem dX5_parts_56 : decode cX5_parts 56 = .ok (.getfield 98, 3) := by decide +kernel
theorem dX5_parts_59 : decode cX5_parts 59 = .ok (.aload_n 0, 1) := by decide +kernel
theorem dX5_parts_60 : decode cX5_parts 60 = .ok (.getfield 186, 3) := by decide +kernel
theorem dX5_parts_63 : decode cX5_parts 63 = .ok (.iconst 1, 1) := by decide +kernel
theorem dX5_parts_64 : decode cX5_parts 64 = .ok (.isub, 1) := by decide +kernel
theorem dX5_parts_65 : decode cX5_parts 65 = .ok (.iaload, 1) := by decide +kernel
theorem dX5_parts_66 : decode cX5_parts 66 = .ok (.istore_n 3, 1) := by decide +kernel
theorem dX5_parts_67 : decode cX5_parts 67 = .ok (.aload_n 0, 1) := by decide +kernel
theorem dX5_parts_68 : decode cX5_parts 68 = .ok (.aload_n 0, 1) := by decide +kernel
theorem dX5_parts_69 : decode cX5_parts 69 = .ok (.iload_n 2, 1) := by decide +kernel
theorem dX5_parts_70 : decode cX5_parts 70 = .ok (.iconst 0, 1) := by decide +kernel
theorem dX5_parts_71 : decode cX5_parts 71 = .ok (.invokevirtual 189, 3) := by decide +kernel
theorem dX5_parts_74 : decode cX5_parts 74 = .ok (.iload_n 3, 1) := by decide +kernel
theorem dX5_parts_75 : decode cX5_parts 75 = .ok (.if_icmp .ne 30, 3) := by decide +kernel
theorem dX5_parts_78 : decode cX5_parts 78 = .ok (.aload_n 0, 1) := by decide +kernel
theorem dX5_parts_79 : decode cX5_parts 79 = .ok (.iload_n 2, 1) := by decide +kernel
theorem dX5_parts_80 : decode cX5_parts 80 = .ok (.iconst 1, 1) := by decide +kernel
theorem dX5_parts_81 : decode cX5_parts 81 = .ok (.invokevirtual 189, 3) := by decide +kernel
theorem dX5_parts_84 : decode cX5_parts 84 = .ok (.aload_n 0, 1) := by decide +kernel
theorem dX5_parts_85 : decode cX5_parts 85 = .ok (.getfield 86, 3) := by decide +kernel
theorem dX5_parts_88 : decode cX5_parts 88 = .ok (.bipush 20, 2) := by decide +kernel
theorem dX5_parts_90 : decode cX5_parts 90 = .ok (.aload_n 0, 1) := by decide +kernel
theorem dX5_parts_91 : decode cX5_parts 91 = .ok (.getfield 186, 3) := by decide +kernel
theorem dX5_parts_94 : decode cX5_parts 94 = .ok (.imul, 1) := by decide +kernel
theorem dX5_parts_95 : decode cX5_parts 95 = .ok (.iload_n 3, 1) := by decide +kernel
theorem dX5_parts_96 : decode cX5_parts 96 = .ok (.iadd, 1) := by decide +kernel
theorem dX5_parts_97 : decode cX5_parts 97 = .ok (.iaload, 1) := by decide +kernel
theorem dX5_parts_98 : decode cX5_parts 98 = .ok (.if_icmp .ne 7, 3) := by decide +kernel
theorem dX5_parts_101 : decode cX5_parts 101 = .ok (.iload_n 2, 1) := by decide +kernel
theorem dX5_parts_102 : decode cX5_parts 102 = .ok (.goto 4, 3) := by decide +kernel
theorem dX5_parts_105 : decode cX5_parts 105 = .ok (.iconst (-1), 1) := by decide +kernel
theorem dX5_parts_106 : decode cX5_parts 106 = .ok (.putfield 218, 3) := by decide +kernel
theorem dX5_parts_109 : decode cX5_parts 109 = .ok (.iinc 2 1, 3) := by decide +kernel
theorem dX5_parts_112 : decode cX5_parts 112 = .ok (.goto (-81), 3) := by decide +kernel
theorem dX5_parts_115 : decode cX5_parts 115 = .ok (.iload_n 1, 1) := by decide +kernel
theorem dX5_parts_116 : decode cX5_parts 116 = .ok (.ireturn, 1) := by decide +kernel
set_option maxRecDepth 20000 in
theorem ggX5_cost_X5_parts : GoodIn wsX5_cost wsX5_parts := goodIn_r _ [7, 8, 9, 10, 11, 12, 2, 13, 14, 15, 6, 16, 17, 18, 19, 20, 21, 22, 23, 24, 25, 26, 27, 28, 29, 30, 31, 32, 33, 34, 35, 36, 37, 38, 39, 40, 41, 42, 43, 44, 45, 46, 47, 48, 49, 50, 51, 52, 53, 54, 55, 56, 57, 58, 59, 60, 61, 62, 63, 64, 65, 66, 67, 68, 69, 70, 71, 72, 73, 74, 75, 76, 77, 78, 79, 80, 81, 82, 83, 84, 85, 86, 87, 88] (by decide +kernel) (by decide +kernel)
set_option maxRecDepth 20000 in
theorem gX5_cost_X5_parts : GoodIn wsX5_cost (wsV RX5 221 RX5 yX5_parts wsX5_parts) := goodIn_app (goodIn_of _ (by decide +kernel)) ggX5_cost_X5_parts
theorem dX5_cost_0 : decode cX5_cost 0 = .ok (.aload_n 0, 1) := by decide +kernel
theorem dX5_cost_1 : decode cX5_cost 1 = .ok (.iconst 0, 1) := by decide +kernel
theorem dX5_cost_2 : decode cX5_cost 2 = .ok (.putfield 1, 3) := by decide +kernel
theorem dX5_cost_5 : decode cX5_cost 5 = .ok (.aload_n 0, 1) := by decide +kernel
theorem dX5_cost_6 : decode cX5_cost 6 = .ok (.invokevirtual 221, 3) := by decide +kernel
theorem dX5_cost_9 : decode cX5_cost 9 = .ok (.ifCond .eq 12, 3) := by decide +kernel
theorem dX5_cost_12 : decode cX5_cost 12 = .ok (.aload_n 0, 1) := by decide +kernel
theorem dX5_cost_13 : decode cX5_cost 13 = .ok (.getfield 86, 3) := by decide +kernel
theorem dX5_cost_16 : decode cX5_cost 16 = .ok (.iconst 0, 1) := by decide +kernel
theorem dX5_cost_17 : decode cX5_cost 17 = .ok (.iaload, 1) := by decide +kernel
theorem dX5_cost_18 : decode cX5_cost 18 = .ok (.goto 4, 3) := by decide +kernel
theorem dX5_cost_21 : decode cX5_cost 21 = .ok (.iconst (-1), 1) := by decide +kernel
theorem dX5_cost_22 : decode cX5_cost 22 = .ok (.ireturn, 1) := by decide +kernel
set_option maxRecDepth 20000 in
theorem ggX5_second_X5_parts : GoodIn wsX5_second wsX5_parts := goodIn_r _ [8, 9, 10, 11, 12, 13, 14, 15, 16, 17, 7, 18, 3, 2, 19, 20, 21, 22, 23, 24, 25, 26, 27, 28, 29, 30, 31, 32, 33, 34, 35, 36, 37, 38, 39, 40, 41, 42, 43, 44, 45, 46, 47, 48, 49, 50, 51, 52, 53, 54, 55, 56, 57, 58, 59, 60, 61, 62, 63, 64, 65, 66, 67, 68, 69, 70, 71, 72, 73, 74, 75, 76, 77, 78, 79, 80, 81, 82, 83, 84, 85, 86, 87, 88] (by decide +kernel) (by decide +kernel)
set_option maxRecDepth 20000 in
theorem gX5_second_X5_parts : GoodIn wsX5_second (wsV RX5 221 RX5 yX5_parts wsX5_parts) := goodIn_app (goodIn_of _ (by decide +kernel)) ggX5_second_X5_parts
theorem dX5_second_0 : decode cX5_second 0 = .ok (.aload_n 0, 1) := by decide +kernel
theorem dX5_second_1 : decode cX5_second 1 = .ok (.iconst 0, 1) := by decide +kernel
theorem dX5_second_2 : decode cX5_second 2 = .ok (.putfield 1, 3) := by decide +kernel
theorem dX5_second_5 : decode cX5_second 5 = .ok (.aload_n 0, 1) := by decide +kernel
theorem dX5_second_6 : decode cX5_second 6 = .ok (.invokevirtual 221, 3) := by decide +kernel
theorem dX5_second_9 : decode cX5_second 9 = .ok (.ifCond .eq 23, 3) := by decide +kernel
theorem dX5_second_12 : decode cX5_second 12 = .ok (.aload_n 0, 1) := by decide +kernel
theorem dX5_second_13 : decode cX5_second 13 = .ok (.getfield 89, 3) := by decide +kernel
theorem dX5_second_16 : decode cX5_second 16 = .ok (.iconst 0, 1) := by decide +kernel
theorem dX5_second_17 : decode cX5_second 17 = .ok (.iaload, 1) := by decide +kernel
theorem dX5_second_18 : decode cX5_second 18 = .ok (.ldc 192, 2) := by decide +kernel
theorem dX5_second_20 : decode cX5_second 20 = .ok (.if_icmp .ge 12, 3) := by decide +kernel
theorem dX5_second_23 : decode cX5_second 23 = .ok (.aload_n 0, 1) := by decide +kernel
theorem dX5_second_24 : decode cX5_second 24 = .ok (.getfield 89, 3) := by decide +kernel
theorem dX5_second_27 : decode cX5_second 27 = .ok (.iconst 0, 1) := by decide +kernel
theorem dX5_second_28 : decode cX5_second 28 = .ok (.iaload, 1) := by decide +kernel
theorem dX5_second_29 : decode cX5_second 29 = .ok (.goto 4, 3) := by decide +kernel
theorem dX5_second_32 : decode cX5_second 32 = .ok (.iconst (-1), 1) := by decide +kernel
theorem dX5_second_33 : decode cX5_second 33 = .ok (.ireturn, 1) := by decide +kernel
set_option maxRecDepth 20000 in
theorem ggX5_isRaised_X5_endOf : GoodIn wsX5_isRaised wsX5_endOf := goodIn_r _ [9, 10, 11, 17, 18, 19, 20, 21, 22, 23, 24, 25, 26, 27, 28, 29, 30, 31, 32, 33, 34, 35, 36, 37, 38, 39, 40, 41, 42, 43, 44, 45, 46] (by decide +kernel) (by decide +kernel)
set_option maxRecDepth 20000 in
theorem gX5_isRaised_X5_endOf : GoodIn wsX5_isRaised (wsV RX5 189 RX5 yX5_endOf wsX5_endOf) := goodIn_app (goodIn_of _ (by decide +kernel)) ggX5_isRaised_X5_endOf
set_option maxRecDepth 20000 in
theorem ggX5_isRaised_X5_goOf : GoodIn wsX5_isRaised wsX5_goOf := goodIn_r _ [15, 16, 11, 17, 18, 19, 20, 21, 22, 23, 24, 25, 26, 27, 28, 29, 30, 31, 32, 33, 34, 35, 36, 37, 38, 39, 40, 41, 42, 43, 44, 45, 46] (by decide +kernel) (by decide +kernel)
set_option maxRecDepth 20000 in
theorem gX5_isRaised_X5_goOf : GoodIn wsX5_isRaised (wsV RX5 180 RX5 yX5_goOf wsX5_goOf) := goodIn_app (goodIn_of _ (by decide +kernel)) ggX5_isRaised_X5_goOf
theorem dX5_isRaised_0 : decode cX5_isRaised 0 = .ok (.aload_n 0, 1) := by decide +kernel
theorem dX5_isRaised_1 : decode cX5_isRaised 1 = .ok (.getfield 92, 3) := by decide +kernel
theorem dX5_isRaised_4 : decode cX5_isRaised 4 = .ok (.iload_n 1, 1) := by decide +kernel
theorem dX5_isRaised_5 : decode cX5_isRaised 5 = .ok (.iaload, 1) := by decide +kernel
theorem dX5_isRaised_6 : decode cX5_isRaised 6 = .ok (.ifCond .lt 23, 3) := by decide +kernel
theorem dX5_isRaised_9 : decode cX5_isRaised 9 = .ok (.aload_n 0, 1) := by decide +kernel
theorem dX5_isRaised_10 : decode cX5_isRaised 10 = .ok (.aload_n 0, 1) := by decide +kernel
theorem dX5_isRaised_11 : decode cX5_isRaised 11 = .ok (.getfield 92, 3) := by decide +kernel
theorem dX5_isRaised_14 : decode cX5_isRaised 14 = .ok (.iload_n 1, 1) := by decide +kernel
theorem dX5_isRaised_15 : decode cX5_isRaised 15 = .ok (.iaload, 1) := by decide +kernel
theorem dX5_isRaised_16 : decode cX5_isRaised 16 = .ok (.iconst 2, 1) := by decide +kernel
theorem dX5_isRaised_17 : decode cX5_isRaised 17 = .ok (.invokevirtual 189, 3) := by decide +kernel
theorem dX5_isRaised_20 : decode cX5_isRaised 20 = .ok (.bipush 6, 2) := by decide +kernel
theorem dX5_isRaised_22 : decode cX5_isRaised 22 = .ok (.if_icmp .ge 7, 3) := by decide +kernel
theorem dX5_isRaised_25 : decode cX5_isRaised 25 = .ok (.iconst 1, 1) := by decide +kernel
theorem dX5_isRaised_26 : decode cX5_isRaised 26 = .ok (.goto 4, 3) := by decide +kernel
theorem dX5_isRaised_29 : decode cX5_isRaised 29 = .ok (.iconst 0, 1) := by decide +kernel
theorem dX5_isRaised_30 : decode cX5_isRaised 30 = .ok (.istore_n 2, 1) := by decide +kernel
theorem dX5_isRaised_31 : decode cX5_isRaised 31 = .ok (.iload_n 1, 1) := by decide +kernel
theorem dX5_isRaised_32 : decode cX5_isRaised 32 = .ok (.ifCond .eq 36, 3) := by decide +kernel
theorem dX5_isRaised_35 : decode cX5_isRaised 35 = .ok (.aload_n 0, 1) := by decide +kernel
theorem dX5_isRaised_36 : decode cX5_isRaised 36 = .ok (.getfield 76, 3) := by decide +kernel
theorem dX5_isRaised_39 : decode cX5_isRaised 39 = .ok (.aload_n 0, 1) := by decide +kernel
theorem dX5_isRaised_40 : decode cX5_isRaised 40 = .ok (.getfield 80, 3) := by decide +kernel
theorem dX5_isRaised_43 : decode cX5_isRaised 43 = .ok (.iload_n 1, 1) := by decide +kernel
theorem dX5_isRaised_44 : decode cX5_isRaised 44 = .ok (.iaload, 1) := by decide +kernel
theorem dX5_isRaised_45 : decode cX5_isRaised 45 = .ok (.baload, 1) := by decide +kernel
theorem dX5_isRaised_46 : decode cX5_isRaised 46 = .ok (.ifCond .ne 22, 3) := by decide +kernel
theorem dX5_isRaised_49 : decode cX5_isRaised 49 = .ok (.iload_n 2, 1) := by decide +kernel
theorem dX5_isRaised_50 : decode cX5_isRaised 50 = .ok (.ifCond .ne 18, 3) := by decide +kernel
theorem dX5_isRaised_53 : decode cX5_isRaised 53 = .ok (.aload_n 0, 1) := by decide +kernel
theorem dX5_isRaised_54 : decode cX5_isRaised 54 = .ok (.aload_n 0, 1) := by decide +kernel
theorem dX5_isRaised_55 : decode cX5_isRaised 55 = .ok (.getfield 95, 3) := by decide +kernel
theorem dX5_isRaised_58 : decode cX5_isRaised 58 = .ok (.iload_n 1, 1) := by decide +kernel
theorem dX5_isRaised_59 : decode cX5_isRaised 59 = .ok (.iaload, 1) := by decide +kernel
theorem dX5_isRaised_60 : decode cX5_isRaised 60 = .ok (.iconst 4, 1) := by decide +kernel
theorem dX5_isRaised_61 : decode cX5_isRaised 61 = .ok (.invokevirtual 180, 3) := by decide +kernel
theorem dX5_isRaised_64 : decode cX5_isRaised 64 = .ok (.iconst 2, 1) := by decide +kernel
theorem dX5_isRaised_65 : decode cX5_isRaised 65 = .ok (.if_icmp .ne 7, 3) := by decide +kernel
theorem dX5_isRaised_68 : decode cX5_isRaised 68 = .ok (.iconst 1, 1) := by decide +kernel
theorem dX5_isRaised_69 : decode cX5_isRaised 69 = .ok (.goto 4, 3) := by decide +kernel
theorem dX5_isRaised_72 : decode cX5_isRaised 72 = .ok (.iconst 0, 1) := by decide +kernel
theorem dX5_isRaised_73 : decode cX5_isRaised 73 = .ok (.ireturn, 1) := by decide +kernel
set_option maxRecDepth 20000 in
theorem ggX5_look_X5_parts : GoodIn wsX5_look wsX5_parts := goodIn_r _ [10, 1, 11, 12, 13, 5, 14, 15, 16, 17, 9, 18, 19, 20, 21, 22, 23, 24, 25, 26, 27, 28, 29, 30, 31, 32, 33, 34, 35, 36, 37, 38, 39, 40, 41, 42, 43, 44, 45, 46, 47, 48, 49, 50, 51, 52, 53, 54, 55, 56, 57, 58, 4, 3, 64, 65, 66, 67, 68, 69, 70, 71, 72, 73, 74, 75, 76, 77, 78, 79, 80, 81, 82, 83, 84, 85, 86, 87, 88, 89, 90, 91, 92, 93] (by decide +kernel) (by decide +kernel)
set_option maxRecDepth 20000 in
theorem gX5_look_X5_parts : GoodIn wsX5_look (wsV RX5 221 RX5 yX5_parts wsX5_parts) := goodIn_app (goodIn_of _ (by decide +kernel)) ggX5_look_X5_parts
set_option maxRecDepth 20000 in
theorem ggX5_look_X5_endOf : GoodIn wsX5_look wsX5_endOf := goodIn_r _ [24, 25, 13, 64, 65, 66, 67, 68, 69, 70, 71, 72, 73, 74, 75, 76, 77, 78, 79, 80, 81, 82, 83, 84, 85, 86, 87, 88, 89, 90, 91, 92, 93] (by decide +kernel) (by decide +kernel)
set_option maxRecDepth 20000 in
theorem gX5_look_X5_endOf : GoodIn wsX5_look (wsV RX5 189 RX5 yX5_endOf wsX5_endOf) := goodIn_app (goodIn_of _ (by decide +kernel)) ggX5_look_X5_endOf
set_option maxRecDepth 20000 in
theorem ggX5_look_X5_goOf : GoodIn wsX5_look wsX5_goOf := goodIn_r _ [45, 46, 13, 64, 65, 66, 67, 68, 69, 70, 71, 72, 73, 74, 75, 76, 77, 78, 79, 80, 81, 82, 83, 84, 85, 86, 87, 88, 89, 90, 91, 92, 93] (by decide +kernel) (by decide +kernel)
set_option maxRecDepth 20000 in
theorem gX5_look_X5_goOf : GoodIn wsX5_look (wsV RX5 180 RX5 yX5_goOf wsX5_goOf) := goodIn_app (goodIn_of _ (by decide +kernel)) ggX5_look_X5_goOf
set_option maxRecDepth 20000 in
theorem ggX5_look_X5_isRaised : GoodIn wsX5_look wsX5_isRaised := goodIn_r _ [62, 3, 63, 41, 4, 21, 22, 23, 9, 24, 25, 13, 42, 43, 44, 45, 46, 64, 65, 66, 67, 68, 69, 70, 71, 72, 73, 74, 75, 76, 77, 78, 79, 80, 81, 82, 83, 84, 85, 86, 87, 88, 89, 90, 91, 92, 93] (by decide +kernel) (by decide +kernel)
set_option maxRecDepth 20000 in
theorem gX5_look_X5_isRaised : GoodIn wsX5_look (wsV RX5 224 RX5 yX5_isRaised wsX5_isRaised) := goodIn_app (goodIn_of _ (by decide +kernel)) ggX5_look_X5_isRaised
theorem dX5_look_0 : decode cX5_look 0 = .ok (.aload_n 0, 1) := by decide +kernel
theorem dX5_look_1 : decode cX5_look 1 = .ok (.iload_n 1, 1) := by decide +kernel
theorem dX5_look_2 : decode cX5_look 2 = .ok (.ifCond .lt 32, 3) := by decide +kernel
theorem dX5_look_5 : decode cX5_look 5 = .ok (.iload_n 1, 1) := by decide +kernel
theorem dX5_look_6 : decode cX5_look 6 = .ok (.aload_n 0, 1) := by decide +kernel
theorem dX5_look_7 : decode cX5_look 7 = .ok (.getfield 186, 3) := by decide +kernel
theorem dX5_look_10 : decode cX5_look 10 = .ok (.if_icmp .ge 24, 3) := by decide +kernel
theorem dX5_look_13 : decode cX5_look 13 = .ok (.iload_n 2, 1) := by decide +kernel
theorem dX5_look_14 : decode cX5_look 14 = .ok (.ifCond .lt 20, 3) := by decide +kernel
theorem dX5_look_17 : decode cX5_look 17 = .ok (.iload_n 2, 1) := by decide +kernel
theorem dX5_look_18 : decode cX5_look 18 = .ok (.bipush 6, 2) := by decide +kernel
theorem dX5_look_20 : decode cX5_look 20 = .ok (.if_icmp .gt 14, 3) := by decide +kernel
theorem dX5_look_23 : decode cX5_look 23 = .ok (.aload_n 0, 1) := by decide +kernel
theorem dX5_look_24 : decode cX5_look 24 = .ok (.invokevirtual 221, 3) := by decide +kernel
theorem dX5_look_27 : decode cX5_look 27 = .ok (.ifCond .eq 7, 3) := by decide +kernel
theorem dX5_look_30 : decode cX5_look 30 = .ok (.iconst 0, 1) := by decide +kernel
theorem dX5_look_31 : decode cX5_look 31 = .ok (.goto 4, 3) := by decide +kernel
theorem dX5_look_34 : decode cX5_look 34 = .ok (.iconst 1, 1) := by decide +kernel
theorem dX5_look_35 : decode cX5_look 35 = .ok (.putfield 1, 3) := by decide +kernel
theorem dX5_look_38 : decode cX5_look 38 = .ok (.aload_n 0, 1) := by decide +kernel
theorem dX5_look_39 : decode cX5_look 39 = .ok (.getfield 1, 3) := by decide +kernel
theorem dX5_look_42 : decode cX5_look 42 = .ok (.ifCond .le 5, 3) := by decide +kernel
theorem dX5_look_45 : decode cX5_look 45 = .ok (.iconst 0, 1) := by decide +kernel
theorem dX5_look_46 : decode cX5_look 46 = .ok (.ireturn, 1) := by decide +kernel
theorem dX5_look_47 : decode cX5_look 47 = .ok (.iload_n 2, 1) := by decide +kernel
theorem dX5_look_48 : decode cX5_look 48 = .ok (.tableswitch 115 0 5 #[40, 47, 54, 79, 91, 105], 40) := by decide +kernel
theorem dX5_look_88 : decode cX5_look 88 = .ok (.aload_n 0, 1) := by decide +kernel
theorem dX5_look_89 : decode cX5_look 89 = .ok (.getfield 92, 3) := by decide +kernel
theorem dX5_look_92 : decode cX5_look 92 = .ok (.iload_n 1, 1) := by decide +kernel
theorem dX5_look_93 : decode cX5_look 93 = .ok (.iaload, 1) := by decide +kernel
theorem dX5_look_94 : decode cX5_look 94 = .ok (.ireturn, 1) := by decide +kernel
theorem dX5_look_95 : decode cX5_look 95 = .ok (.aload_n 0, 1) := by decide +kernel
theorem dX5_look_96 : decode cX5_look 96 = .ok (.getfield 95, 3) := by decide +kernel
theorem dX5_look_99 : decode cX5_look 99 = .ok (.iload_n 1, 1) := by decide +kernel
theorem dX5_look_100 : decode cX5_look 100 = .ok (.iaload, 1) := by decide +kernel
theorem dX5_look_101 : decode cX5_look 101 = .ok (.ireturn, 1) := by decide +kernel
theorem dX5_look_102 : decode cX5_look 102 = .ok (.aload_n 0, 1) := by decide +kernel
theorem dX5_look_103 : decode cX5_look 103 = .ok (.getfield 92, 3) := by decide +kernel
theorem dX5_look_106 : decode cX5_look 106 = .ok (.iload_n 1, 1) := by decide +kernel
theorem dX5_look_107 : decode cX5_look 107 = .ok (.iaload, 1) := by decide +kernel
theorem dX5_look_108 : decode cX5_look 108 = .ok (.ifCond .ge 7, 3) := by decide +kernel
theorem dX5_look_111 : decode cX5_look 111 = .ok (.iconst 0, 1) := by decide +kernel
theorem dX5_look_112 : decode cX5_look 112 = .ok (.goto 14, 3) := by decide +kernel
theorem dX5_look_115 : decode cX5_look 115 = .ok (.aload_n 0, 1) := by decide +kernel
theorem dX5_look_116 : decode cX5_look 116 = .ok (.aload_n 0, 1) := by decide +kernel
theorem dX5_look_117 : decode cX5_look 117 = .ok (.getfield 92, 3) := by decide +kernel
theorem dX5_look_120 : decode cX5_look 120 = .ok (.iload_n 1, 1) := by decide +kernel
theorem dX5_look_121 : decode cX5_look 121 = .ok (.iaload, 1) := by decide +kernel
theorem dX5_look_122 : decode cX5_look 122 = .ok (.iconst 2, 1) := by decide +kernel
theorem dX5_look_123 : decode cX5_look 123 = .ok (.invokevirtual 189, 3) := by decide +kernel
theorem dX5_look_126 : decode cX5_look 126 = .ok (.ireturn, 1) := by decide +kernel
theorem dX5_look_127 : decode cX5_look 127 = .ok (.aload_n 0, 1) := by decide +kernel
theorem dX5_look_128 : decode cX5_look 128 = .ok (.aload_n 0, 1) := by decide +kernel
theorem dX5_look_129 : decode cX5_look 129 = .ok (.getfield 95, 3) := by decide +kernel
theorem dX5_look_132 : decode cX5_look 132 = .ok (.iload_n 1, 1) := by decide +kernel
theorem dX5_look_133 : decode cX5_look 133 = .ok (.iaload, 1) := by decide +kernel
theorem dX5_look_134 : decode cX5_look 134 = .ok (.iconst 4, 1) := by decide +kernel
theorem dX5_look_135 : decode cX5_look 135 = .ok (.invokevirtual 180, 3) := by decide +kernel
theorem dX5_look_138 : decode cX5_look 138 = .ok (.ireturn, 1) := by decide +kernel
theorem dX5_look_139 : decode cX5_look 139 = .ok (.aload_n 0, 1) := by decide +kernel
theorem dX5_look_140 : decode cX5_look 140 = .ok (.iload_n 1, 1) := by decide +kernel
theorem dX5_look_141 : decode cX5_look 141 = .ok (.invokevirtual 224, 3) := by decide +kernel
theorem dX5_look_144 : decode cX5_look 144 = .ok (.ifCond .eq 7, 3) := by decide +kernel
theorem dX5_look_147 : decode cX5_look 147 = .ok (.iconst 1, 1) := by decide +kernel
theorem dX5_look_148 : decode cX5_look 148 = .ok (.goto 4, 3) := by decide +kernel
theorem dX5_look_151 : decode cX5_look 151 = .ok (.iconst 0, 1) := by decide +kernel
theorem dX5_look_152 : decode cX5_look 152 = .ok (.ireturn, 1) := by decide +kernel
theorem dX5_look_153 : decode cX5_look 153 = .ok (.aload_n 0, 1) := by decide +kernel
theorem dX5_look_154 : decode cX5_look 154 = .ok (.getfield 98, 3) := by decide +kernel
theorem dX5_look_157 : decode cX5_look 157 = .ok (.iload_n 1, 1) := by decide +kernel
theorem dX5_look_158 : decode cX5_look 158 = .ok (.iaload, 1) := by decide +kernel
theorem dX5_look_159 : decode cX5_look 159 = .ok (.bipush 10, 2) := by decide +kernel
theorem dX5_look_161 : decode cX5_look 161 = .ok (.irem, 1) := by decide +kernel
theorem dX5_look_162 : decode cX5_look 162 = .ok (.ireturn, 1) := by decide +kernel
theorem dX5_look_163 : decode cX5_look 163 = .ok (.aload_n 0, 1) := by decide +kernel
theorem dX5_look_164 : decode cX5_look 164 = .ok (.getfield 98, 3) := by decide +kernel
theorem dX5_look_167 : decode cX5_look 167 = .ok (.iload_n 1, 1) := by decide +kernel
theorem dX5_look_168 : decode cX5_look 168 = .ok (.iaload, 1) := by decide +kernel
theorem dX5_look_169 : decode cX5_look 169 = .ok (.bipush 10, 2) := by decide +kernel
theorem dX5_look_171 : decode cX5_look 171 = .ok (.idiv, 1) := by decide +kernel
theorem dX5_look_172 : decode cX5_look 172 = .ok (.ireturn, 1) := by decide +kernel
set_option maxRecDepth 20000 in
theorem ggX5_last_X5_parts : GoodIn wsX5_last wsX5_parts := goodIn_r _ [7, 8, 2, 9, 10, 11, 12, 13, 14, 15, 6, 16, 17, 18, 19, 20, 21, 22, 23, 24, 25, 26, 27, 28, 29, 30, 31, 32, 33, 34, 35, 36, 37, 38, 39, 40, 41, 42, 43, 44, 45, 46, 47, 48, 49, 50, 51, 52, 53, 54, 55, 56, 57, 58, 59, 60, 61, 62, 63, 64, 65, 66, 67, 68, 69, 70, 71, 72, 73, 74, 75, 76, 77, 78, 79, 80, 81, 82, 83, 84, 85, 86, 87, 88] (by decide +kernel) (by decide +kernel)
set_option maxRecDepth 20000 in
theorem gX5_last_X5_parts : GoodIn wsX5_last (wsV RX5 221 RX5 yX5_parts wsX5_parts) := goodIn_app (goodIn_of _ (by decide +kernel)) ggX5_last_X5_parts
theorem dX5_last_0 : decode cX5_last 0 = .ok (.aload_n 0, 1) := by decide +kernel
theorem dX5_last_1 : decode cX5_last 1 = .ok (.iconst 0, 1) := by decide +kernel
theorem dX5_last_2 : decode cX5_last 2 = .ok (.putfield 1, 3) := by decide +kernel
theorem dX5_last_5 : decode cX5_last 5 = .ok (.aload_n 0, 1) := by decide +kernel
theorem dX5_last_6 : decode cX5_last 6 = .ok (.invokevirtual 221, 3) := by decide +kernel
theorem dX5_last_9 : decode cX5_last 9 = .ok (.ifCond .eq 10, 3) := by decide +kernel
theorem dX5_last_12 : decode cX5_last 12 = .ok (.aload_n 0, 1) := by decide +kernel
theorem dX5_last_13 : decode cX5_last 13 = .ok (.getfield 218, 3) := by decide +kernel
theorem dX5_last_16 : decode cX5_last 16 = .ok (.goto 4, 3) := by decide +kernel
theorem dX5_last_19 : decode cX5_last 19 = .ok (.iconst (-1), 1) := by decide +kernel
theorem dX5_last_20 : decode cX5_last 20 = .ok (.ireturn, 1) := by decide +kernel
set_option maxRecDepth 20000 in
theorem ggX5_sentences_X5_parts : GoodIn wsX5_sentences wsX5_parts := goodIn_r _ [8, 2, 9, 10, 11, 12, 13, 14, 15, 16, 7, 17, 18, 19, 20, 21, 22, 23, 24, 25, 26, 27, 28, 29, 30, 31, 32, 33, 34, 35, 36, 37, 38, 39, 40, 41, 42, 43, 44, 45, 46, 47, 48, 49, 50, 51, 52, 53, 54, 55, 56, 57, 58, 3, 59, 60, 61, 62, 63, 64, 65, 66, 67, 68, 69, 70, 71, 72, 73, 74, 75, 76, 77, 78, 79, 80, 81, 82, 83, 84, 85, 86, 87, 88] (by decide +kernel) (by decide +kernel)
set_option maxRecDepth 20000 in
theorem gX5_sentences_X5_parts : GoodIn wsX5_sentences (wsV RX5 221 RX5 yX5_parts wsX5_parts) := goodIn_app (goodIn_of _ (by decide +kernel)) ggX5_sentences_X5_parts
theorem dX5_sentences_0 : decode cX5_sentences 0 = .ok (.aload_n 0, 1) := by decide +kernel
theorem dX5_sentences_1 : decode cX5_sentences 1 = .ok (.iconst 0, 1) := by decide +kernel
theorem dX5_sentences_2 : decode cX5_sentences 2 = .ok (.putfield 1, 3) := by decide +kernel
theorem dX5_sentences_5 : decode cX5_sentences 5 = .ok (.aload_n 0, 1) := by decide +kernel
theorem dX5_sentences_6 : decode cX5_sentences 6 = .ok (.invokevirtual 221, 3) := by decide +kernel
theorem dX5_sentences_9 : decode cX5_sentences 9 = .ok (.ifCond .ne 5, 3) := by decide +kernel
theorem dX5_sentences_12 : decode cX5_sentences 12 = .ok (.iconst (-1), 1) := by decide +kernel
theorem dX5_sentences_13 : decode cX5_sentences 13 = .ok (.ireturn, 1) := by decide +kernel
theorem dX5_sentences_14 : decode cX5_sentences 14 = .ok (.iconst 1, 1) := by decide +kernel
theorem dX5_sentences_15 : decode cX5_sentences 15 = .ok (.istore_n 1, 1) := by decide +kernel
theorem dX5_sentences_16 : decode cX5_sentences 16 = .ok (.iconst 0, 1) := by decide +kernel
theorem dX5_sentences_17 : decode cX5_sentences 17 = .ok (.istore_n 2, 1) := by decide +kernel
theorem dX5_sentences_18 : decode cX5_sentences 18 = .ok (.iload_n 2, 1) := by decide +kernel
theorem dX5_sentences_19 : decode cX5_sentences 19 = .ok (.aload_n 0, 1) := by decide +kernel
theorem dX5_sentences_20 : decode cX5_sentences 20 = .ok (.getfield 186, 3) := by decide +kernel
theorem dX5_sentences_23 : decode cX5_sentences 23 = .ok (.if_icmp .ge 26, 3) := by decide +kernel
theorem dX5_sentences_26 : decode cX5_sentences 26 = .ok (.iload_n 1, 1) := by decide +kernel
theorem dX5_sentences_27 : decode cX5_sentences 27 = .ok (.aload_n 0, 1) := by decide +kernel
theorem dX5_sentences_28 : decode cX5_sentences 28 = .ok (.getfield 92, 3) := by decide +kernel
theorem dX5_sentences_31 : decode cX5_sentences 31 = .ok (.iload_n 2, 1) := by decide +kernel
theorem dX5_sentences_32 : decode cX5_sentences 32 = .ok (.iaload, 1) := by decide +kernel
theorem dX5_sentences_33 : decode cX5_sentences 33 = .ok (.ifCond .lt 7, 3) := by decide +kernel
theorem dX5_sentences_36 : decode cX5_sentences 36 = .ok (.iconst 1, 1) := by decide +kernel
theorem dX5_sentences_37 : decode cX5_sentences 37 = .ok (.goto 4, 3) := by decide +kernel
theorem dX5_sentences_40 : decode cX5_sentences 40 = .ok (.iconst 0, 1) := by decide +kernel
theorem dX5_sentences_41 : decode cX5_sentences 41 = .ok (.iadd, 1) := by decide +kernel
theorem dX5_sentences_42 : decode cX5_sentences 42 = .ok (.istore_n 1, 1) := by decide +kernel
theorem dX5_sentences_43 : decode cX5_sentences 43 = .ok (.iinc 2 1, 3) := by decide +kernel
theorem dX5_sentences_46 : decode cX5_sentences 46 = .ok (.goto (-28), 3) := by decide +kernel
theorem dX5_sentences_49 : decode cX5_sentences 49 = .ok (.iload_n 1, 1) := by decide +kernel
theorem dX5_sentences_50 : decode cX5_sentences 50 = .ok (.ireturn, 1) := by decide +kernel
set_option maxRecDepth 20000 in
theorem ggX5_findOut_X5_endOf : GoodIn wsX5_findOut wsX5_endOf := goodIn_r _ [9, 10, 3, 20, 21, 22, 23, 24, 25, 26, 27, 28, 29, 30, 31, 32, 33, 34, 35, 36, 37, 38, 39, 40, 41, 42, 43, 44, 45, 46, 47, 48, 49] (by decide +kernel) (by decide +kernel)
set_option maxRecDepth 20000 in
theorem gX5_findOut_X5_endOf : GoodIn wsX5_findOut (wsV RX5 189 RX5 yX5_endOf wsX5_endOf) := goodIn_app (goodIn_of _ (by decide +kernel)) ggX5_findOut_X5_endOf
set_option maxRecDepth 20000 in
theorem ggX5_findOut_X5_leadsOut : GoodIn wsX5_findOut wsX5_leadsOut := goodIn_r _ [14, 1, 15, 16, 17, 8, 18, 19, 3, 20, 21, 22, 23, 24, 25, 26, 27, 28, 29, 30, 31, 32, 33, 34, 35, 36, 37, 38, 39, 40, 41, 42, 43, 44, 45, 46, 47, 48, 49] (by decide +kernel) (by decide +kernel)
set_option maxRecDepth 20000 in
theorem gX5_findOut_X5_leadsOut : GoodIn wsX5_findOut (wsV RX5 227 RX5 yX5_leadsOut wsX5_leadsOut) := goodIn_app (goodIn_of _ (by decide +kernel)) ggX5_findOut_X5_leadsOut
theorem dX5_findOut_0 : decode cX5_findOut 0 = .ok (.iconst 0, 1) := by decide +kernel
theorem dX5_findOut_1 : decode cX5_findOut 1 = .ok (.istore_n 1, 1) := by decide +kernel
theorem dX5_findOut_2 : decode cX5_findOut 2 = .ok (.iload_n 1, 1) := by decide +kernel
theorem dX5_findOut_3 : decode cX5_findOut 3 = .ok (.bipush 20, 2) := by decide +kernel
theorem dX5_findOut_5 : decode cX5_findOut 5 = .ok (.if_icmp .ge 73, 3) := by decide +kernel
theorem dX5_findOut_8 : decode cX5_findOut 8 = .ok (.aload_n 0, 1) := by decide +kernel
theorem dX5_findOut_9 : decode cX5_findOut 9 = .ok (.getfield 101, 3) := by decide +kernel
theorem dX5_findOut_12 : decode cX5_findOut 12 = .ok (.iload_n 1, 1) := by decide +kernel
theorem dX5_findOut_13 : decode cX5_findOut 13 = .ok (.iconst 0, 1) := by decide +kernel
theorem dX5_findOut_14 : decode cX5_findOut 14 = .ok (.bastore, 1) := by decide +kernel
theorem dX5_findOut_15 : decode cX5_findOut 15 = .ok (.iconst 0, 1) := by decide +kernel
theorem dX5_findOut_16 : decode cX5_findOut 16 = .ok (.istore_n 2, 1) := by decide +kernel
theorem dX5_findOut_17 : decode cX5_findOut 17 = .ok (.iload_n 2, 1) := by decide +kernel
theorem dX5_findOut_18 : decode cX5_findOut 18 = .ok (.aload_n 0, 1) := by decide +kernel
theorem dX5_findOut_19 : decode cX5_findOut 19 = .ok (.getfield 67, 3) := by decide +kernel
theorem dX5_findOut_22 : decode cX5_findOut 22 = .ok (.aload_n 0, 1) := by decide +kernel
theorem dX5_findOut_23 : decode cX5_findOut 23 = .ok (.getfield 155, 3) := by decide +kernel
theorem dX5_findOut_26 : decode cX5_findOut 26 = .ok (.iaload, 1) := by decide +kernel
theorem dX5_findOut_27 : decode cX5_findOut 27 = .ok (.if_icmp .ge 45, 3) := by decide +kernel
theorem dX5_findOut_30 : decode cX5_findOut 30 = .ok (.iload_n 1, 1) := by decide +kernel
theorem dX5_findOut_31 : decode cX5_findOut 31 = .ok (.bipush 10, 2) := by decide +kernel
theorem dX5_findOut_33 : decode cX5_findOut 33 = .ok (.if_icmp .ge 39, 3) := by decide +kernel
theorem dX5_findOut_36 : decode cX5_findOut 36 = .ok (.aload_n 0, 1) := by decide +kernel
theorem dX5_findOut_37 : decode cX5_findOut 37 = .ok (.getfield 101, 3) := by decide +kernel
theorem dX5_findOut_40 : decode cX5_findOut 40 = .ok (.iload_n 1, 1) := by decide +kernel
theorem dX5_findOut_41 : decode cX5_findOut 41 = .ok (.aload_n 0, 1) := by decide +kernel
theorem dX5_findOut_42 : decode cX5_findOut 42 = .ok (.getfield 101, 3) := by decide +kernel
theorem dX5_findOut_45 : decode cX5_findOut 45 = .ok (.iload_n 1, 1) := by decide +kernel
theorem dX5_findOut_46 : decode cX5_findOut 46 = .ok (.baload, 1) := by decide +kernel
theorem dX5_findOut_47 : decode cX5_findOut 47 = .ok (.ifCond .ne 13, 3) := by decide +kernel
theorem dX5_findOut_50 : decode cX5_findOut 50 = .ok (.aload_n 0, 1) := by decide +kernel
theorem dX5_findOut_51 : decode cX5_findOut 51 = .ok (.iload_n 2, 1) := by decide +kernel
theorem dX5_findOut_52 : decode cX5_findOut 52 = .ok (.iconst 0, 1) := by decide +kernel
theorem dX5_findOut_53 : decode cX5_findOut 53 = .ok (.invokevirtual 189, 3) := by decide +kernel
theorem dX5_findOut_56 : decode cX5_findOut 56 = .ok (.iload_n 1, 1) := by decide +kernel
theorem dX5_findOut_57 : decode cX5_findOut 57 = .ok (.if_icmp .ne 7, 3) := by decide +kernel
theorem dX5_findOut_60 : decode cX5_findOut 60 = .ok (.iconst 1, 1) := by decide +kernel
theorem dX5_findOut_61 : decode cX5_findOut 61 = .ok (.goto 4, 3) := by decide +kernel
theorem dX5_findOut_64 : decode cX5_findOut 64 = .ok (.iconst 0, 1) := by decide +kernel
theorem dX5_findOut_65 : decode cX5_findOut 65 = .ok (.bastore, 1) := by decide +kernel
theorem dX5_findOut_66 : decode cX5_findOut 66 = .ok (.iinc 2 1, 3) := by decide +kernel
theorem dX5_findOut_69 : decode cX5_findOut 69 = .ok (.goto (-52), 3) := by decide +kernel
theorem dX5_findOut_72 : decode cX5_findOut 72 = .ok (.iinc 1 1, 3) := by decide +kernel
theorem dX5_findOut_75 : decode cX5_findOut 75 = .ok (.goto (-73), 3) := by decide +kernel
theorem dX5_findOut_78 : decode cX5_findOut 78 = .ok (.iconst 1, 1) := by decide +kernel
theorem dX5_findOut_79 : decode cX5_findOut 79 = .ok (.istore_n 1, 1) := by decide +kernel
theorem dX5_findOut_80 : decode cX5_findOut 80 = .ok (.iload_n 1, 1) := by decide +kernel
theorem dX5_findOut_81 : decode cX5_findOut 81 = .ok (.ifCond .eq 114, 3) := by decide +kernel
theorem dX5_findOut_84 : decode cX5_findOut 84 = .ok (.iconst 0, 1) := by decide +kernel
theorem dX5_findOut_85 : decode cX5_findOut 85 = .ok (.istore_n 1, 1) := by decide +kernel
theorem dX5_findOut_86 : decode cX5_findOut 86 = .ok (.iconst 0, 1) := by decide +kernel
theorem dX5_findOut_87 : decode cX5_findOut 87 = .ok (.istore_n 2, 1) := by decide +kernel
theorem dX5_findOut_88 : decode cX5_findOut 88 = .ok (.iload_n 2, 1) := by decide +kernel
theorem dX5_findOut_89 : decode cX5_findOut 89 = .ok (.bipush 20, 2) := by decide +kernel
theorem dX5_findOut_91 : decode cX5_findOut 91 = .ok (.if_icmp .ge 101, 3) := by decide +kernel
theorem dX5_findOut_94 : decode cX5_findOut 94 = .ok (.iconst 0, 1) := by decide +kernel
theorem dX5_findOut_95 : decode cX5_findOut 95 = .ok (.istore_n 3, 1) := by decide +kernel
theorem dX5_findOut_96 : decode cX5_findOut 96 = .ok (.iconst 0, 1) := by decide +kernel
theorem dX5_findOut_97 : decode cX5_findOut 97 = .ok (.istore 4, 2) := by decide +kernel
theorem dX5_findOut_99 : decode cX5_findOut 99 = .ok (.iload 4, 2) := by decide +kernel
theorem dX5_findOut_101 : decode cX5_findOut 101 = .ok (.aload_n 0, 1) := by decide +kernel
theorem dX5_findOut_102 : decode cX5_findOut 102 = .ok (.getfield 61, 3) := by decide +kernel
theorem dX5_findOut_105 : decode cX5_findOut 105 = .ok (.aload_n 0, 1) := by decide +kernel
theorem dX5_findOut_106 : decode cX5_findOut 106 = .ok (.getfield 155, 3) := by decide +kernel
theorem dX5_findOut_109 : decode cX5_findOut 109 = .ok (.iaload, 1) := by decide +kernel
theorem dX5_findOut_110 : decode cX5_findOut 110 = .ok (.if_icmp .ge 38, 3) := by decide +kernel
theorem dX5_findOut_113 : decode cX5_findOut 113 = .ok (.aload_n 0, 1) := by decide +kernel
theorem dX5_findOut_114 : decode cX5_findOut 114 = .ok (.getfield 101, 3) := by decide +kernel
theorem dX5_findOut_117 : decode cX5_findOut 117 = .ok (.iload_n 2, 1) := by decide +kernel
theorem dX5_findOut_118 : decode cX5_findOut 118 = .ok (.baload, 1) := by decide +kernel
theorem dX5_findOut_119 : decode cX5_findOut 119 = .ok (.ifCond .ne 29, 3) := by decide +kernel
theorem dX5_findOut_122 : decode cX5_findOut 122 = .ok (.iload_n 3, 1) := by decide +kernel
theorem dX5_findOut_123 : decode cX5_findOut 123 = .ok (.ifCond .ne 13, 3) := by decide +kernel
theorem dX5_findOut_126 : decode cX5_findOut 126 = .ok (.aload_n 0, 1) := by decide +kernel
theorem dX5_findOut_127 : decode cX5_findOut 127 = .ok (.iload_n 2, 1) := by decide +kernel
theorem dX5_findOut_128 : decode cX5_findOut 128 = .ok (.iload 4, 2) := by decide +kernel
theorem dX5_findOut_130 : decode cX5_findOut 130 = .ok (.invokevirtual 227, 3) := by decide +kernel
theorem dX5_findOut_133 : decode cX5_findOut 133 = .ok (.ifCond .eq 7, 3) := by decide +kernel
theorem dX5_findOut_136 : decode cX5_findOut 136 = .ok (.iconst 1, 1) := by decide +kernel
theorem dX5_findOut_137 : decode cX5_findOut 137 = .ok (.goto 4, 3) := by decide +kernel
theorem dX5_findOut_140 : decode cX5_findOut 140 = .ok (.iconst 0, 1) := by decide +kernel
theorem dX5_findOut_141 : decode cX5_findOut 141 = .ok (.istore_n 3, 1) := by decide +kernel
theorem dX5_findOut_142 : decode cX5_findOut 142 = .ok (.iinc 4 1, 3) := by decide +kernel
theorem dX5_findOut_145 : decode cX5_findOut 145 = .ok (.goto (-46), 3) := by decide +kernel
theorem dX5_findOut_148 : decode cX5_findOut 148 = .ok (.aload_n 0, 1) := by decide +kernel
theorem dX5_findOut_149 : decode cX5_findOut 149 = .ok (.getfield 101, 3) := by decide +kernel
theorem dX5_findOut_152 : decode cX5_findOut 152 = .ok (.iload_n 2, 1) := by decide +kernel
theorem dX5_findOut_153 : decode cX5_findOut 153 = .ok (.aload_n 0, 1) := by decide +kernel
theorem dX5_findOut_154 : decode cX5_findOut 154 = .ok (.getfield 101, 3) := by decide +kernel
theorem dX5_findOut_157 : decode cX5_findOut 157 = .ok (.iload_n 2, 1) := by decide +kernel
theorem dX5_findOut_158 : decode cX5_findOut 158 = .ok (.baload, 1) := by decide +kernel
theorem dX5_findOut_159 : decode cX5_findOut 159 = .ok (.ifCond .ne 7, 3) := by decide +kernel
theorem dX5_findOut_162 : decode cX5_findOut 162 = .ok (.iload_n 3, 1) := by decide +kernel
theorem dX5_findOut_163 : decode cX5_findOut 163 = .ok (.ifCond .eq 7, 3) := by decide +kernel
theorem dX5_findOut_166 : decode cX5_findOut 166 = .ok (.iconst 1, 1) := by decide +kernel
theorem dX5_findOut_167 : decode cX5_findOut 167 = .ok (.goto 4, 3) := by decide +kernel
theorem dX5_findOut_170 : decode cX5_findOut 170 = .ok (.iconst 0, 1) := by decide +kernel
theorem dX5_findOut_171 : decode cX5_findOut 171 = .ok (.bastore, 1) := by decide +kernel
theorem dX5_findOut_172 : decode cX5_findOut 172 = .ok (.iload_n 1, 1) := by decide +kernel
theorem dX5_findOut_173 : decode cX5_findOut 173 = .ok (.ifCond .ne 7, 3) := by decide +kernel
theorem dX5_findOut_176 : decode cX5_findOut 176 = .ok (.iload_n 3, 1) := by decide +kernel
theorem dX5_findOut_177 : decode cX5_findOut 177 = .ok (.ifCond .eq 7, 3) := by decide +kernel
theorem dX5_findOut_180 : decode cX5_findOut 180 = .ok (.iconst 1, 1) := by decide +kernel
theorem dX5_findOut_181 : decode cX5_findOut 181 = .ok (.goto 4, 3) := by decide +kernel
theorem dX5_findOut_184 : decode cX5_findOut 184 = .ok (.iconst 0, 1) := by decide +kernel
theorem dX5_findOut_185 : decode cX5_findOut 185 = .ok (.istore_n 1, 1) := by decide +kernel
theorem dX5_findOut_186 : decode cX5_findOut 186 = .ok (.iinc 2 1, 3) := by decide +kernel
theorem dX5_findOut_189 : decode cX5_findOut 189 = .ok (.goto (-101), 3) := by decide +kernel
theorem dX5_findOut_192 : decode cX5_findOut 192 = .ok (.goto (-112), 3) := by decide +kernel
theorem dX5_findOut_195 : decode cX5_findOut 195 = .ok (.return_, 1) := by decide +kernel
set_option maxRecDepth 20000 in
theorem ggX5_leadsOut_X5_goOf : GoodIn wsX5_leadsOut wsX5_goOf := goodIn_r _ [6, 7, 8, 9, 10, 11, 12, 13, 14, 15, 16, 17, 18, 19, 20, 21, 22, 23, 24, 25, 26, 27, 28, 29, 30, 31, 32, 33, 34, 35, 36, 37, 38] (by decide +kernel) (by decide +kernel)
set_option maxRecDepth 20000 in
theorem gX5_leadsOut_X5_goOf : GoodIn wsX5_leadsOut (wsV RX5 180 RX5 yX5_goOf wsX5_goOf) := goodIn_app (goodIn_of _ (by decide +kernel)) ggX5_leadsOut_X5_goOf
theorem dX5_leadsOut_0 : decode cX5_leadsOut 0 = .ok (.aload_n 0, 1) := by decide +kernel
theorem dX5_leadsOut_1 : decode cX5_leadsOut 1 = .ok (.iload_n 2, 1) := by decide +kernel
theorem dX5_leadsOut_2 : decode cX5_leadsOut 2 = .ok (.iconst 4, 1) := by decide +kernel
theorem dX5_leadsOut_3 : decode cX5_leadsOut 3 = .ok (.invokevirtual 180, 3) := by decide +kernel
theorem dX5_leadsOut_6 : decode cX5_leadsOut 6 = .ok (.istore_n 3, 1) := by decide +kernel
theorem dX5_leadsOut_7 : decode cX5_leadsOut 7 = .ok (.iload_n 1, 1) := by decide +kernel
theorem dX5_leadsOut_8 : decode cX5_leadsOut 8 = .ok (.bipush 10, 2) := by decide +kernel
theorem dX5_leadsOut_10 : decode cX5_leadsOut 10 = .ok (.if_icmp .lt 7, 3) := by decide +kernel
theorem dX5_leadsOut_13 : decode cX5_leadsOut 13 = .ok (.iconst 1, 1) := by decide +kernel
theorem dX5_leadsOut_14 : decode cX5_leadsOut 14 = .ok (.goto 4, 3) := by decide +kernel
theorem dX5_leadsOut_17 : decode cX5_leadsOut 17 = .ok (.iconst 0, 1) := by decide +kernel
theorem dX5_leadsOut_18 : decode cX5_leadsOut 18 = .ok (.istore 4, 2) := by decide +kernel
theorem dX5_leadsOut_20 : decode cX5_leadsOut 20 = .ok (.aload_n 0, 1) := by decide +kernel
theorem dX5_leadsOut_21 : decode cX5_leadsOut 21 = .ok (.iload_n 2, 1) := by decide +kernel
theorem dX5_leadsOut_22 : decode cX5_leadsOut 22 = .ok (.iconst 0, 1) := by decide +kernel
theorem dX5_leadsOut_23 : decode cX5_leadsOut 23 = .ok (.invokevirtual 180, 3) := by decide +kernel
theorem dX5_leadsOut_26 : decode cX5_leadsOut 26 = .ok (.iload_n 1, 1) := by decide +kernel
theorem dX5_leadsOut_27 : decode cX5_leadsOut 27 = .ok (.bipush 10, 2) := by decide +kernel
theorem dX5_leadsOut_29 : decode cX5_leadsOut 29 = .ok (.irem, 1) := by decide +kernel
theorem dX5_leadsOut_30 : decode cX5_leadsOut 30 = .ok (.if_icmp .ne 23, 3) := by decide +kernel
theorem dX5_leadsOut_33 : decode cX5_leadsOut 33 = .ok (.iload_n 3, 1) := by decide +kernel
theorem dX5_leadsOut_34 : decode cX5_leadsOut 34 = .ok (.iconst 2, 1) := by decide +kernel
theorem dX5_leadsOut_35 : decode cX5_leadsOut 35 = .ok (.if_icmp .ne 8, 3) := by decide +kernel
theorem dX5_leadsOut_38 : decode cX5_leadsOut 38 = .ok (.iload 4, 2) := by decide +kernel
theorem dX5_leadsOut_40 : decode cX5_leadsOut 40 = .ok (.ifCond .ne 13, 3) := by decide +kernel
theorem dX5_leadsOut_43 : decode cX5_leadsOut 43 = .ok (.iload_n 3, 1) := by decide +kernel
theorem dX5_leadsOut_44 : decode cX5_leadsOut 44 = .ok (.iconst 3, 1) := by decide +kernel
theorem dX5_leadsOut_45 : decode cX5_leadsOut 45 = .ok (.if_icmp .ne 10, 3) := by decide +kernel
theorem dX5_leadsOut_48 : decode cX5_leadsOut 48 = .ok (.iload 4, 2) := by decide +kernel
theorem dX5_leadsOut_50 : decode cX5_leadsOut 50 = .ok (.ifCond .ne 5, 3) := by decide +kernel
theorem dX5_leadsOut_53 : decode cX5_leadsOut 53 = .ok (.iconst 0, 1) := by decide +kernel
theorem dX5_leadsOut_54 : decode cX5_leadsOut 54 = .ok (.ireturn, 1) := by decide +kernel
theorem dX5_leadsOut_55 : decode cX5_leadsOut 55 = .ok (.iload_n 3, 1) := by decide +kernel
theorem dX5_leadsOut_56 : decode cX5_leadsOut 56 = .ok (.iconst 2, 1) := by decide +kernel
theorem dX5_leadsOut_57 : decode cX5_leadsOut 57 = .ok (.if_icmp .eq 13, 3) := by decide +kernel
theorem dX5_leadsOut_60 : decode cX5_leadsOut 60 = .ok (.iload_n 3, 1) := by decide +kernel
theorem dX5_leadsOut_61 : decode cX5_leadsOut 61 = .ok (.iconst 3, 1) := by decide +kernel
theorem dX5_leadsOut_62 : decode cX5_leadsOut 62 = .ok (.if_icmp .eq 12, 3) := by decide +kernel
theorem dX5_leadsOut_65 : decode cX5_leadsOut 65 = .ok (.iload 4, 2) := by decide +kernel
theorem dX5_leadsOut_67 : decode cX5_leadsOut 67 = .ok (.ifCond .eq 7, 3) := by decide +kernel
theorem dX5_leadsOut_70 : decode cX5_leadsOut 70 = .ok (.iconst 1, 1) := by decide +kernel
theorem dX5_leadsOut_71 : decode cX5_leadsOut 71 = .ok (.goto 4, 3) := by decide +kernel
theorem dX5_leadsOut_74 : decode cX5_leadsOut 74 = .ok (.iconst 0, 1) := by decide +kernel
theorem dX5_leadsOut_75 : decode cX5_leadsOut 75 = .ok (.istore 5, 2) := by decide +kernel
theorem dX5_leadsOut_77 : decode cX5_leadsOut 77 = .ok (.aload_n 0, 1) := by decide +kernel
theorem dX5_leadsOut_78 : decode cX5_leadsOut 78 = .ok (.getfield 101, 3) := by decide +kernel
theorem dX5_leadsOut_81 : decode cX5_leadsOut 81 = .ok (.aload_n 0, 1) := by decide +kernel
theorem dX5_leadsOut_82 : decode cX5_leadsOut 82 = .ok (.iload_n 2, 1) := by decide +kernel
theorem dX5_leadsOut_83 : decode cX5_leadsOut 83 = .ok (.iconst 2, 1) := by decide +kernel
theorem dX5_leadsOut_84 : decode cX5_leadsOut 84 = .ok (.invokevirtual 180, 3) := by decide +kernel
theorem dX5_leadsOut_87 : decode cX5_leadsOut 87 = .ok (.iload 5, 2) := by decide +kernel
theorem dX5_leadsOut_89 : decode cX5_leadsOut 89 = .ok (.ifCond .eq 8, 3) := by decide +kernel
theorem dX5_leadsOut_92 : decode cX5_leadsOut 92 = .ok (.bipush 10, 2) := by decide +kernel
theorem dX5_leadsOut_94 : decode cX5_leadsOut 94 = .ok (.goto 4, 3) := by decide +kernel
theorem dX5_leadsOut_97 : decode cX5_leadsOut 97 = .ok (.iconst 0, 1) := by decide +kernel
theorem dX5_leadsOut_98 : decode cX5_leadsOut 98 = .ok (.iadd, 1) := by decide +kernel
theorem dX5_leadsOut_99 : decode cX5_leadsOut 99 = .ok (.baload, 1) := by decide +kernel
theorem dX5_leadsOut_100 : decode cX5_leadsOut 100 = .ok (.ireturn, 1) := by decide +kernel
set_option maxRecDepth 20000 in
theorem ggX5_settled_X5_findOut : GoodIn wsX5_settled wsX5_findOut := goodIn_r _ [11, 6, 12, 13, 14, 15, 16, 17, 10, 18, 19, 20, 21, 22, 23, 24, 25, 26, 27, 28, 69, 70, 71, 72, 73, 74, 75, 76, 77, 78, 79, 80, 81, 82, 83, 84, 85, 86, 87, 88, 89, 90, 91, 92, 93, 94, 95, 96, 97, 98] (by decide +kernel) (by decide +kernel)
set_option maxRecDepth 20000 in
theorem gX5_settled_X5_findOut : GoodIn wsX5_settled (wsV RX5 231 RX5 yX5_findOut wsX5_findOut) := goodIn_app (goodIn_of _ (by decide +kernel)) ggX5_settled_X5_findOut

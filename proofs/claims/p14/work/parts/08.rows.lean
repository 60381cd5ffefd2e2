set_option maxRecDepth 20000 in
theorem ggX5_settled_X5_laysOut : GoodIn wsX5_settled wsX5_laysOut := goodIn_r _ [32, 3, 2, 4, 5, 12, 13, 14, 33, 34, 35, 10, 36, 37, 38, 39, 24, 25, 26, 27, 28, 15, 16, 17, 18, 19, 40, 41, 42, 43, 44, 45, 46, 47, 48, 49, 50, 51, 69, 70, 71, 72, 73, 74, 75, 76, 77, 78, 79, 80, 81, 82, 83, 84, 85, 86, 87, 88, 89, 90, 91, 92, 93, 94, 95, 96, 97, 98] (by decide +kernel) (by decide +kernel)
set_option maxRecDepth 20000 in
theorem gX5_settled_X5_laysOut : GoodIn wsX5_settled (wsV RX5 208 RX5 yX5_laysOut wsX5_laysOut) := goodIn_app (goodIn_of _ (by decide +kernel)) ggX5_settled_X5_laysOut
set_option maxRecDepth 20000 in
theorem ggX5_settled_X5_goesFrom : GoodIn wsX5_settled wsX5_goesFrom := goodIn_r _ [55, 2, 4, 3, 56, 12, 13, 14, 57, 58, 33, 34, 35, 10, 36, 37, 38, 39, 24, 25, 26, 27, 28, 15, 16, 17, 18, 19, 40, 41, 42, 43, 69, 70, 71, 72, 73, 74, 75, 76, 77, 78, 79, 80, 81, 82, 83, 84, 85, 86, 87, 88, 89, 90, 91, 92, 93, 94, 95, 96, 97, 98] (by decide +kernel) (by decide +kernel)
set_option maxRecDepth 20000 in
theorem gX5_settled_X5_goesFrom : GoodIn wsX5_settled (wsV RX5 214 RX5 yX5_goesFrom wsX5_goesFrom) := goodIn_app (goodIn_of _ (by decide +kernel)) ggX5_settled_X5_goesFrom
set_option maxRecDepth 20000 in
theorem ggX5_settled_X5_keeps : GoodIn wsX5_settled wsX5_keeps := goodIn_r _ [62, 3, 63, 57, 64, 56, 69, 70, 71, 72, 73, 74, 75, 76, 77, 78, 79, 80, 81, 82, 83, 84, 85, 86, 87, 88, 89, 90, 91, 92, 93, 94, 95, 96, 97, 98] (by decide +kernel) (by decide +kernel)
set_option maxRecDepth 20000 in
theorem gX5_settled_X5_keeps : GoodIn wsX5_settled (wsV RX5 234 RX5 yX5_keeps wsX5_keeps) := goodIn_app (goodIn_of _ (by decide +kernel)) ggX5_settled_X5_keeps
set_option maxRecDepth 20000 in
theorem ggX5_settled_X5_alike : GoodIn wsX5_settled wsX5_alike := goodIn_r _ [68, 63, 57, 64, 56, 69, 70, 71, 72, 73, 74, 75, 76, 77, 78, 79, 80, 81, 82, 83, 84, 85, 86, 87, 88, 89, 90, 91, 92, 93, 94, 95, 96, 97, 98] (by decide +kernel) (by decide +kernel)
set_option maxRecDepth 20000 in
theorem gX5_settled_X5_alike : GoodIn wsX5_settled (wsV RX5 238 RX5 yX5_alike wsX5_alike) := goodIn_app (goodIn_of _ (by decide +kernel)) ggX5_settled_X5_alike
theorem dX5_settled_0 : decode cX5_settled 0 = .ok (.aload_n 0, 1) := by decide +kernel
theorem dX5_settled_1 : decode cX5_settled 1 = .ok (.iconst 0, 1) := by decide +kernel
theorem dX5_settled_2 : decode cX5_settled 2 = .ok (.putfield 1, 3) := by decide +kernel
theorem dX5_settled_5 : decode cX5_settled 5 = .ok (.aload_n 0, 1) := by decide +kernel
theorem dX5_settled_6 : decode cX5_settled 6 = .ok (.invokevirtual 231, 3) := by decide +kernel
theorem dX5_settled_9 : decode cX5_settled 9 = .ok (.iconst (-1), 1) := by decide +kernel
theorem dX5_settled_10 : decode cX5_settled 10 = .ok (.istore_n 1, 1) := by decide +kernel
theorem dX5_settled_11 : decode cX5_settled 11 = .ok (.iconst 0, 1) := by decide +kernel
theorem dX5_settled_12 : decode cX5_settled 12 = .ok (.istore_n 2, 1) := by decide +kernel
theorem dX5_settled_13 : decode cX5_settled 13 = .ok (.iload_n 2, 1) := by decide +kernel
theorem dX5_settled_14 : decode cX5_settled 14 = .ok (.bipush 20, 2) := by decide +kernel
theorem dX5_settled_16 : decode cX5_settled 16 = .ok (.if_icmp .ge 101, 3) := by decide +kernel
theorem dX5_settled_19 : decode cX5_settled 19 = .ok (.iconst 0, 1) := by decide +kernel
theorem dX5_settled_20 : decode cX5_settled 20 = .ok (.istore_n 3, 1) := by decide +kernel
theorem dX5_settled_21 : decode cX5_settled 21 = .ok (.iload_n 3, 1) := by decide +kernel
theorem dX5_settled_22 : decode cX5_settled 22 = .ok (.bipush 20, 2) := by decide +kernel
theorem dX5_settled_24 : decode cX5_settled 24 = .ok (.if_icmp .ge 50, 3) := by decide +kernel
theorem dX5_settled_27 : decode cX5_settled 27 = .ok (.aload_n 0, 1) := by decide +kernel
theorem dX5_settled_28 : decode cX5_settled 28 = .ok (.getfield 86, 3) := by decide +kernel
theorem dX5_settled_31 : decode cX5_settled 31 = .ok (.bipush 20, 2) := by decide +kernel
theorem dX5_settled_33 : decode cX5_settled 33 = .ok (.aload_n 0, 1) := by decide +kernel
theorem dX5_settled_34 : decode cX5_settled 34 = .ok (.getfield 186, 3) := by decide +kernel
theorem dX5_settled_37 : decode cX5_settled 37 = .ok (.imul, 1) := by decide +kernel
theorem dX5_settled_38 : decode cX5_settled 38 = .ok (.iload_n 3, 1) := by decide +kernel
theorem dX5_settled_39 : decode cX5_settled 39 = .ok (.iadd, 1) := by decide +kernel
theorem dX5_settled_40 : decode cX5_settled 40 = .ok (.iload_n 3, 1) := by decide +kernel
theorem dX5_settled_41 : decode cX5_settled 41 = .ok (.iload_n 2, 1) := by decide +kernel
theorem dX5_settled_42 : decode cX5_settled 42 = .ok (.if_icmp .ne 7, 3) := by decide +kernel
theorem dX5_settled_45 : decode cX5_settled 45 = .ok (.iconst 0, 1) := by decide +kernel
theorem dX5_settled_46 : decode cX5_settled 46 = .ok (.goto 5, 3) := by decide +kernel
theorem dX5_settled_49 : decode cX5_settled 49 = .ok (.ldc 192, 2) := by decide +kernel
theorem dX5_settled_51 : decode cX5_settled 51 = .ok (.iastore, 1) := by decide +kernel
theorem dX5_settled_52 : decode cX5_settled 52 = .ok (.aload_n 0, 1) := by decide +kernel
theorem dX5_settled_53 : decode cX5_settled 53 = .ok (.getfield 89, 3) := by decide +kernel
theorem dX5_settled_56 : decode cX5_settled 56 = .ok (.bipush 20, 2) := by decide +kernel
theorem dX5_settled_58 : decode cX5_settled 58 = .ok (.aload_n 0, 1) := by decide +kernel
theorem dX5_settled_59 : decode cX5_settled 59 = .ok (.getfield 186, 3) := by decide +kernel
theorem dX5_settled_62 : decode cX5_settled 62 = .ok (.imul, 1) := by decide +kernel
theorem dX5_settled_63 : decode cX5_settled 63 = .ok (.iload_n 3, 1) := by decide +kernel
theorem dX5_settled_64 : decode cX5_settled 64 = .ok (.iadd, 1) := by decide +kernel
theorem dX5_settled_65 : decode cX5_settled 65 = .ok (.ldc 192, 2) := by decide +kernel
theorem dX5_settled_67 : decode cX5_settled 67 = .ok (.iastore, 1) := by decide +kernel
theorem dX5_settled_68 : decode cX5_settled 68 = .ok (.iinc 3 1, 3) := by decide +kernel
theorem dX5_settled_71 : decode cX5_settled 71 = .ok (.goto (-50), 3) := by decide +kernel
theorem dX5_settled_74 : decode cX5_settled 74 = .ok (.aload_n 0, 1) := by decide +kernel
theorem dX5_settled_75 : decode cX5_settled 75 = .ok (.invokevirtual 208, 3) := by decide +kernel
theorem dX5_settled_78 : decode cX5_settled 78 = .ok (.aload_n 0, 1) := by decide +kernel
theorem dX5_settled_79 : decode cX5_settled 79 = .ok (.getfield 101, 3) := by decide +kernel
theorem dX5_settled_82 : decode cX5_settled 82 = .ok (.iload_n 2, 1) := by decide +kernel
theorem dX5_settled_83 : decode cX5_settled 83 = .ok (.baload, 1) := by decide +kernel
theorem dX5_settled_84 : decode cX5_settled 84 = .ok (.ifCond .eq 27, 3) := by decide +kernel
theorem dX5_settled_87 : decode cX5_settled 87 = .ok (.aload_n 0, 1) := by decide +kernel
theorem dX5_settled_88 : decode cX5_settled 88 = .ok (.invokevirtual 214, 3) := by decide +kernel
theorem dX5_settled_91 : decode cX5_settled 91 = .ok (.ifCond .eq 20, 3) := by decide +kernel
theorem dX5_settled_94 : decode cX5_settled 94 = .ok (.iload_n 1, 1) := by decide +kernel
theorem dX5_settled_95 : decode cX5_settled 95 = .ok (.ifCond .ge 10, 3) := by decide +kernel
theorem dX5_settled_98 : decode cX5_settled 98 = .ok (.aload_n 0, 1) := by decide +kernel
theorem dX5_settled_99 : decode cX5_settled 99 = .ok (.invokevirtual 234, 3) := by decide +kernel
theorem dX5_settled_102 : decode cX5_settled 102 = .ok (.goto 8, 3) := by decide +kernel
theorem dX5_settled_105 : decode cX5_settled 105 = .ok (.aload_n 0, 1) := by decide +kernel
theorem dX5_settled_106 : decode cX5_settled 106 = .ok (.iload_n 1, 1) := by decide +kernel
theorem dX5_settled_107 : decode cX5_settled 107 = .ok (.invokevirtual 238, 3) := by decide +kernel
theorem dX5_settled_110 : decode cX5_settled 110 = .ok (.istore_n 1, 1) := by decide +kernel
theorem dX5_settled_111 : decode cX5_settled 111 = .ok (.iinc 2 1, 3) := by decide +kernel
theorem dX5_settled_114 : decode cX5_settled 114 = .ok (.goto (-101), 3) := by decide +kernel
theorem dX5_settled_117 : decode cX5_settled 117 = .ok (.iload_n 1, 1) := by decide +kernel
theorem dX5_settled_118 : decode cX5_settled 118 = .ok (.ifCond .ge 7, 3) := by decide +kernel
theorem dX5_settled_121 : decode cX5_settled 121 = .ok (.iconst 0, 1) := by decide +kernel
theorem dX5_settled_122 : decode cX5_settled 122 = .ok (.goto 4, 3) := by decide +kernel
theorem dX5_settled_125 : decode cX5_settled 125 = .ok (.iload_n 1, 1) := by decide +kernel
theorem dX5_settled_126 : decode cX5_settled 126 = .ok (.ireturn, 1) := by decide +kernel
theorem dX5_keeps_0 : decode cX5_keeps 0 = .ok (.iconst 0, 1) := by decide +kernel
theorem dX5_keeps_1 : decode cX5_keeps 1 = .ok (.istore_n 1, 1) := by decide +kernel
theorem dX5_keeps_2 : decode cX5_keeps 2 = .ok (.iload_n 1, 1) := by decide +kernel
theorem dX5_keeps_3 : decode cX5_keeps 3 = .ok (.aload_n 0, 1) := by decide +kernel
theorem dX5_keeps_4 : decode cX5_keeps 4 = .ok (.getfield 186, 3) := by decide +kernel
theorem dX5_keeps_7 : decode cX5_keeps 7 = .ok (.if_icmp .ge 33, 3) := by decide +kernel
theorem dX5_keeps_10 : decode cX5_keeps 10 = .ok (.aload_n 0, 1) := by decide +kernel
theorem dX5_keeps_11 : decode cX5_keeps 11 = .ok (.getfield 104, 3) := by decide +kernel
theorem dX5_keeps_14 : decode cX5_keeps 14 = .ok (.iload_n 1, 1) := by decide +kernel
theorem dX5_keeps_15 : decode cX5_keeps 15 = .ok (.aload_n 0, 1) := by decide +kernel
theorem dX5_keeps_16 : decode cX5_keeps 16 = .ok (.getfield 92, 3) := by decide +kernel
theorem dX5_keeps_19 : decode cX5_keeps 19 = .ok (.iload_n 1, 1) := by decide +kernel
theorem dX5_keeps_20 : decode cX5_keeps 20 = .ok (.iaload, 1) := by decide +kernel
theorem dX5_keeps_21 : decode cX5_keeps 21 = .ok (.iastore, 1) := by decide +kernel
theorem dX5_keeps_22 : decode cX5_keeps 22 = .ok (.aload_n 0, 1) := by decide +kernel
theorem dX5_keeps_23 : decode cX5_keeps 23 = .ok (.getfield 107, 3) := by decide +kernel
theorem dX5_keeps_26 : decode cX5_keeps 26 = .ok (.iload_n 1, 1) := by decide +kernel
theorem dX5_keeps_27 : decode cX5_keeps 27 = .ok (.aload_n 0, 1) := by decide +kernel
theorem dX5_keeps_28 : decode cX5_keeps 28 = .ok (.getfield 95, 3) := by decide +kernel
theorem dX5_keeps_31 : decode cX5_keeps 31 = .ok (.iload_n 1, 1) := by decide +kernel
theorem dX5_keeps_32 : decode cX5_keeps 32 = .ok (.iaload, 1) := by decide +kernel
theorem dX5_keeps_33 : decode cX5_keeps 33 = .ok (.iastore, 1) := by decide +kernel
theorem dX5_keeps_34 : decode cX5_keeps 34 = .ok (.iinc 1 1, 3) := by decide +kernel
theorem dX5_keeps_37 : decode cX5_keeps 37 = .ok (.goto (-35), 3) := by decide +kernel
theorem dX5_keeps_40 : decode cX5_keeps 40 = .ok (.aload_n 0, 1) := by decide +kernel
theorem dX5_keeps_41 : decode cX5_keeps 41 = .ok (.getfield 186, 3) := by decide +kernel
theorem dX5_keeps_44 : decode cX5_keeps 44 = .ok (.ireturn, 1) := by decide +kernel
theorem dX5_alike_0 : decode cX5_alike 0 = .ok (.iconst 0, 1) := by decide +kernel
theorem dX5_alike_1 : decode cX5_alike 1 = .ok (.istore_n 2, 1) := by decide +kernel
theorem dX5_alike_2 : decode cX5_alike 2 = .ok (.iload_n 2, 1) := by decide +kernel
theorem dX5_alike_3 : decode cX5_alike 3 = .ok (.iload_n 1, 1) := by decide +kernel
theorem dX5_alike_4 : decode cX5_alike 4 = .ok (.if_icmp .ge 39, 3) := by decide +kernel
theorem dX5_alike_7 : decode cX5_alike 7 = .ok (.aload_n 0, 1) := by decide +kernel
theorem dX5_alike_8 : decode cX5_alike 8 = .ok (.getfield 104, 3) := by decide +kernel
theorem dX5_alike_11 : decode cX5_alike 11 = .ok (.iload_n 2, 1) := by decide +kernel
theorem dX5_alike_12 : decode cX5_alike 12 = .ok (.iaload, 1) := by decide +kernel
theorem dX5_alike_13 : decode cX5_alike 13 = .ok (.aload_n 0, 1) := by decide +kernel
theorem dX5_alike_14 : decode cX5_alike 14 = .ok (.getfield 92, 3) := by decide +kernel
theorem dX5_alike_17 : decode cX5_alike 17 = .ok (.iload_n 2, 1) := by decide +kernel
theorem dX5_alike_18 : decode cX5_alike 18 = .ok (.iaload, 1) := by decide +kernel
theorem dX5_alike_19 : decode cX5_alike 19 = .ok (.if_icmp .ne 24, 3) := by decide +kernel
theorem dX5_alike_22 : decode cX5_alike 22 = .ok (.aload_n 0, 1) := by decide +kernel
theorem dX5_alike_23 : decode cX5_alike 23 = .ok (.getfield 107, 3) := by decide +kernel
theorem dX5_alike_26 : decode cX5_alike 26 = .ok (.iload_n 2, 1) := by decide +kernel
theorem dX5_alike_27 : decode cX5_alike 27 = .ok (.iaload, 1) := by decide +kernel
theorem dX5_alike_28 : decode cX5_alike 28 = .ok (.aload_n 0, 1) := by decide +kernel
theorem dX5_alike_29 : decode cX5_alike 29 = .ok (.getfield 95, 3) := by decide +kernel
theorem dX5_alike_32 : decode cX5_alike 32 = .ok (.iload_n 2, 1) := by decide +kernel
theorem dX5_alike_33 : decode cX5_alike 33 = .ok (.iaload, 1) := by decide +kernel
theorem dX5_alike_34 : decode cX5_alike 34 = .ok (.if_icmp .ne 9, 3) := by decide +kernel
theorem dX5_alike_37 : decode cX5_alike 37 = .ok (.iinc 2 1, 3) := by decide +kernel
theorem dX5_alike_40 : decode cX5_alike 40 = .ok (.goto (-38), 3) := by decide +kernel
theorem dX5_alike_43 : decode cX5_alike 43 = .ok (.iload_n 2, 1) := by decide +kernel
theorem dX5_alike_44 : decode cX5_alike 44 = .ok (.ireturn, 1) := by decide +kernel
theorem dX5_count_0 : decode cX5_count 0 = .ok (.aload_n 0, 1) := by decide +kernel
theorem dX5_count_1 : decode cX5_count 1 = .ok (.iconst 0, 1) := by decide +kernel
theorem dX5_count_2 : decode cX5_count 2 = .ok (.putfield 1, 3) := by decide +kernel
theorem dX5_count_5 : decode cX5_count 5 = .ok (.iconst 0, 1) := by decide +kernel
theorem dX5_count_6 : decode cX5_count 6 = .ok (.istore_n 2, 1) := by decide +kernel
theorem dX5_count_7 : decode cX5_count 7 = .ok (.iconst 0, 1) := by decide +kernel
theorem dX5_count_8 : decode cX5_count 8 = .ok (.istore_n 3, 1) := by decide +kernel
theorem dX5_count_9 : decode cX5_count 9 = .ok (.iload_n 3, 1) := by decide +kernel
theorem dX5_count_10 : decode cX5_count 10 = .ok (.aload_n 0, 1) := by decide +kernel
theorem dX5_count_11 : decode cX5_count 11 = .ok (.getfield 186, 3) := by decide +kernel
theorem dX5_count_14 : decode cX5_count 14 = .ok (.if_icmp .ge 26, 3) := by decide +kernel
theorem dX5_count_17 : decode cX5_count 17 = .ok (.iload_n 2, 1) := by decide +kernel
theorem dX5_count_18 : decode cX5_count 18 = .ok (.aload_n 0, 1) := by decide +kernel
theorem dX5_count_19 : decode cX5_count 19 = .ok (.getfield 83, 3) := by decide +kernel
theorem dX5_count_22 : decode cX5_count 22 = .ok (.iload_n 3, 1) := by decide +kernel
theorem dX5_count_23 : decode cX5_count 23 = .ok (.iaload, 1) := by decide +kernel
theorem dX5_count_24 : decode cX5_count 24 = .ok (.ifCond .lt 7, 3) := by decide +kernel
theorem dX5_count_27 : decode cX5_count 27 = .ok (.iconst 1, 1) := by decide +kernel
theorem dX5_count_28 : decode cX5_count 28 = .ok (.goto 4, 3) := by decide +kernel
theorem dX5_count_31 : decode cX5_count 31 = .ok (.iconst 0, 1) := by decide +kernel
theorem dX5_count_32 : decode cX5_count 32 = .ok (.iadd, 1) := by decide +kernel
theorem dX5_count_33 : decode cX5_count 33 = .ok (.istore_n 2, 1) := by decide +kernel
theorem dX5_count_34 : decode cX5_count 34 = .ok (.iinc 3 1, 3) := by decide +kernel
theorem dX5_count_37 : decode cX5_count 37 = .ok (.goto (-28), 3) := by decide +kernel
theorem dX5_count_40 : decode cX5_count 40 = .ok (.iload_n 1, 1) := by decide +kernel
theorem dX5_count_41 : decode cX5_count 41 = .ok (.ifCond .ne 10, 3) := by decide +kernel
theorem dX5_count_44 : decode cX5_count 44 = .ok (.aload_n 0, 1) := by decide +kernel
theorem dX5_count_45 : decode cX5_count 45 = .ok (.getfield 186, 3) := by decide +kernel
theorem dX5_count_48 : decode cX5_count 48 = .ok (.goto 59, 3) := by decide +kernel
theorem dX5_count_51 : decode cX5_count 51 = .ok (.iload_n 1, 1) := by decide +kernel
theorem dX5_count_52 : decode cX5_count 52 = .ok (.iconst 1, 1) := by decide +kernel
theorem dX5_count_53 : decode cX5_count 53 = .ok (.if_icmp .ne 15, 3) := by decide +kernel
theorem dX5_count_56 : decode cX5_count 56 = .ok (.aload_n 0, 1) := by decide +kernel
theorem dX5_count_57 : decode cX5_count 57 = .ok (.getfield 61, 3) := by decide +kernel
theorem dX5_count_60 : decode cX5_count 60 = .ok (.aload_n 0, 1) := by decide +kernel
theorem dX5_count_61 : decode cX5_count 61 = .ok (.getfield 155, 3) := by decide +kernel
theorem dX5_count_64 : decode cX5_count 64 = .ok (.iaload, 1) := by decide +kernel
theorem dX5_count_65 : decode cX5_count 65 = .ok (.goto 42, 3) := by decide +kernel
theorem dX5_count_68 : decode cX5_count 68 = .ok (.iload_n 1, 1) := by decide +kernel
theorem dX5_count_69 : decode cX5_count 69 = .ok (.iconst 2, 1) := by decide +kernel
theorem dX5_count_70 : decode cX5_count 70 = .ok (.if_icmp .ne 15, 3) := by decide +kernel
theorem dX5_count_73 : decode cX5_count 73 = .ok (.aload_n 0, 1) := by decide +kernel
theorem dX5_count_74 : decode cX5_count 74 = .ok (.getfield 67, 3) := by decide +kernel
theorem dX5_count_77 : decode cX5_count 77 = .ok (.aload_n 0, 1) := by decide +kernel
theorem dX5_count_78 : decode cX5_count 78 = .ok (.getfield 155, 3) := by decide +kernel
theorem dX5_count_81 : decode cX5_count 81 = .ok (.iaload, 1) := by decide +kernel
theorem dX5_count_82 : decode cX5_count 82 = .ok (.goto 25, 3) := by decide +kernel
theorem dX5_count_85 : decode cX5_count 85 = .ok (.iload_n 1, 1) := by decide +kernel
theorem dX5_count_86 : decode cX5_count 86 = .ok (.iconst 3, 1) := by decide +kernel
theorem dX5_count_87 : decode cX5_count 87 = .ok (.if_icmp .ne 10, 3) := by decide +kernel
theorem dX5_count_90 : decode cX5_count 90 = .ok (.aload_n 0, 1) := by decide +kernel
theorem dX5_count_91 : decode cX5_count 91 = .ok (.getfield 11, 3) := by decide +kernel
theorem dX5_count_94 : decode cX5_count 94 = .ok (.goto 13, 3) := by decide +kernel
theorem dX5_count_97 : decode cX5_count 97 = .ok (.iload_n 1, 1) := by decide +kernel
theorem dX5_count_98 : decode cX5_count 98 = .ok (.iconst 4, 1) := by decide +kernel
theorem dX5_count_99 : decode cX5_count 99 = .ok (.if_icmp .ne 7, 3) := by decide +kernel
theorem dX5_count_102 : decode cX5_count 102 = .ok (.iload_n 2, 1) := by decide +kernel
theorem dX5_count_103 : decode cX5_count 103 = .ok (.goto 4, 3) := by decide +kernel
theorem dX5_count_106 : decode cX5_count 106 = .ok (.iconst (-1), 1) := by decide +kernel
theorem dX5_count_107 : decode cX5_count 107 = .ok (.ireturn, 1) := by decide +kernel
theorem dJ9_min_7cf53_0 : decode cJ9_min_7cf53 0 = .ok (.iload_n 0, 1) := by decide +kernel
theorem dJ9_min_7cf53_1 : decode cJ9_min_7cf53 1 = .ok (.iload_n 1, 1) := by decide +kernel
theorem dJ9_min_7cf53_2 : decode cJ9_min_7cf53 2 = .ok (.if_icmp .gt 7, 3) := by decide +kernel
theorem dJ9_min_7cf53_5 : decode cJ9_min_7cf53 5 = .ok (.iload_n 0, 1) := by decide +kernel
theorem dJ9_min_7cf53_6 : decode cJ9_min_7cf53 6 = .ok (.goto 4, 3) := by decide +kernel
theorem dJ9_min_7cf53_9 : decode cJ9_min_7cf53 9 = .ok (.iload_n 1, 1) := by decide +kernel
theorem dJ9_min_7cf53_10 : decode cJ9_min_7cf53 10 = .ok (.ireturn, 1) := by decide +kernel
set_option maxRecDepth 20000 in
theorem ggJ0_length_8abf5_J0_coder_7d493 : GoodIn wsJ0_length_8abf5 wsJ0_coder_7d493 := goodIn_r _ [6, 7, 8] (by decide +kernel) (by decide +kernel)
set_option maxRecDepth 20000 in
theorem gJ0_length_8abf5_J0_coder_7d493 : GoodIn wsJ0_length_8abf5 (wsV RJ0 335 RJ0 yJ0_coder_7d493 wsJ0_coder_7d493) := goodIn_app (goodIn_of _ (by decide +kernel)) ggJ0_length_8abf5_J0_coder_7d493
theorem dJ0_length_8abf5_0 : decode cJ0_length_8abf5 0 = .ok (.aload_n 0, 1) := by decide +kernel
theorem dJ0_length_8abf5_1 : decode cJ0_length_8abf5 1 = .ok (.getfield 9, 3) := by decide +kernel
theorem dJ0_length_8abf5_4 : decode cJ0_length_8abf5 4 = .ok (.arraylength, 1) := by decide +kernel
theorem dJ0_length_8abf5_5 : decode cJ0_length_8abf5 5 = .ok (.aload_n 0, 1) := by decide +kernel
theorem dJ0_length_8abf5_6 : decode cJ0_length_8abf5 6 = .ok (.invokevirtual 335, 3) := by decide +kernel
theorem dJ0_length_8abf5_9 : decode cJ0_length_8abf5 9 = .ok (.ishr, 1) := by decide +kernel
theorem dJ0_length_8abf5_10 : decode cJ0_length_8abf5 10 = .ok (.ireturn, 1) := by decide +kernel
set_option maxRecDepth 20000 in
theorem ggJ0_charAt_5068e_J0_isLatin1_aae02 : GoodIn wsJ0_charAt_5068e wsJ0_isLatin1_aae02 := goodIn_r _ [6, 7, 8] (by decide +kernel) (by decide +kernel)
set_option maxRecDepth 20000 in
theorem gJ0_charAt_5068e_J0_isLatin1_aae02 : GoodIn wsJ0_charAt_5068e (wsV RJ0 492 RJ0 yJ0_isLatin1_aae02 wsJ0_isLatin1_aae02) := goodIn_app (goodIn_of _ (by decide +kernel)) ggJ0_charAt_5068e_J0_isLatin1_aae02
set_option maxRecDepth 20000 in
theorem ggJ0_charAt_5068e_J1_charAt_3b067 : GoodIn wsJ0_charAt_5068e wsJ1_charAt_3b067 := goodIn_r _ [12, 13, 14, 5, 15, 16, 17, 18, 19, 20] (by decide +kernel) (by decide +kernel)
set_option maxRecDepth 20000 in
theorem gJ0_charAt_5068e_J1_charAt_3b067 : GoodIn wsJ0_charAt_5068e (va_wsS RJ0 495 yJ1_charAt_3b067 wsJ1_charAt_3b067) := goodIn_app (goodIn_of _ (by decide +kernel)) ggJ0_charAt_5068e_J1_charAt_3b067
set_option maxRecDepth 20000 in
theorem ggJ0_charAt_5068e_J2_charAt_3b067 : GoodIn wsJ0_charAt_5068e wsJ2_charAt_3b067 := goodIn_r _ [24, 25, 26, 23, 27, 28, 29, 30, 31, 14, 5, 15, 16, 17, 18, 19, 20, 32, 33, 34, 35, 36, 37] (by decide +kernel) (by decide +kernel)
set_option maxRecDepth 20000 in
theorem gJ0_charAt_5068e_J2_charAt_3b067 : GoodIn wsJ0_charAt_5068e (va_wsS RJ0 498 yJ2_charAt_3b067 wsJ2_charAt_3b067) := goodIn_app (goodIn_of _ (by decide +kernel)) ggJ0_charAt_5068e_J2_charAt_3b067
theorem dJ0_charAt_5068e_0 : decode cJ0_charAt_5068e 0 = .ok (.aload_n 0, 1) := by decide +kernel
theorem dJ0_charAt_5068e_1 : decode cJ0_charAt_5068e 1 = .ok (.invokevirtual 492, 3) := by decide +kernel
theorem dJ0_charAt_5068e_4 : decode cJ0_charAt_5068e 4 = .ok (.ifCond .eq 12, 3) := by decide +kernel
theorem dJ0_charAt_5068e_7 : decode cJ0_charAt_5068e 7 = .ok (.aload_n 0, 1) := by decide +kernel
theorem dJ0_charAt_5068e_8 : decode cJ0_charAt_5068e 8 = .ok (.getfield 9, 3) := by decide +kernel
theorem dJ0_charAt_5068e_11 : decode cJ0_charAt_5068e 11 = .ok (.iload_n 1, 1) := by decide +kernel
theorem dJ0_charAt_5068e_12 : decode cJ0_charAt_5068e 12 = .ok (.invokestatic 495, 3) := by decide +kernel
theorem dJ0_charAt_5068e_15 : decode cJ0_charAt_5068e 15 = .ok (.ireturn, 1) := by decide +kernel
theorem dJ0_charAt_5068e_16 : decode cJ0_charAt_5068e 16 = .ok (.aload_n 0, 1) := by decide +kernel
theorem dJ0_charAt_5068e_17 : decode cJ0_charAt_5068e 17 = .ok (.getfield 9, 3) := by decide +kernel
theorem dJ0_charAt_5068e_20 : decode cJ0_charAt_5068e 20 = .ok (.iload_n 1, 1) := by decide +kernel
theorem dJ0_charAt_5068e_21 : decode cJ0_charAt_5068e 21 = .ok (.invokestatic 498, 3) := by decide +kernel
theorem dJ0_charAt_5068e_24 : decode cJ0_charAt_5068e 24 = .ok (.ireturn, 1) := by decide +kernel
theorem dJ0_coder_7d493_0 : decode cJ0_coder_7d493 0 = .ok (.getstatic 38, 3) := by decide +kernel
theorem dJ0_coder_7d493_3 : decode cJ0_coder_7d493 3 = .ok (.ifCond .eq 10, 3) := by decide +kernel
theorem dJ0_coder_7d493_6 : decode cJ0_coder_7d493 6 = .ok (.aload_n 0, 1) := by decide +kernel
theorem dJ0_coder_7d493_7 : decode cJ0_coder_7d493 7 = .ok (.getfield 15, 3) := by decide +kernel
theorem dJ0_coder_7d493_10 : decode cJ0_coder_7d493 10 = .ok (.goto 4, 3) := by decide +kernel
theorem dJ0_coder_7d493_13 : decode cJ0_coder_7d493 13 = .ok (.iconst 1, 1) := by decide +kernel
theorem dJ0_coder_7d493_14 : decode cJ0_coder_7d493 14 = .ok (.ireturn, 1) := by decide +kernel
theorem dJ0_isLatin1_aae02_0 : decode cJ0_isLatin1_aae02 0 = .ok (.getstatic 38, 3) := by decide +kernel
theorem dJ0_isLatin1_aae02_3 : decode cJ0_isLatin1_aae02 3 = .ok (.ifCond .eq 14, 3) := by decide +kernel
theorem dJ0_isLatin1_aae02_6 : decode cJ0_isLatin1_aae02 6 = .ok (.aload_n 0, 1) := by decide +kernel
theorem dJ0_isLatin1_aae02_7 : decode cJ0_isLatin1_aae02 7 = .ok (.getfield 15, 3) := by decide +kernel
theorem dJ0_isLatin1_aae02_10 : decode cJ0_isLatin1_aae02 10 = .ok (.ifCond .ne 7, 3) := by decide +kernel
theorem dJ0_isLatin1_aae02_13 : decode cJ0_isLatin1_aae02 13 = .ok (.iconst 1, 1) := by decide +kernel
theorem dJ0_isLatin1_aae02_14 : decode cJ0_isLatin1_aae02 14 = .ok (.goto 4, 3) := by decide +kernel
theorem dJ0_isLatin1_aae02_17 : decode cJ0_isLatin1_aae02 17 = .ok (.iconst 0, 1) := by decide +kernel
theorem dJ0_isLatin1_aae02_18 : decode cJ0_isLatin1_aae02 18 = .ok (.ireturn, 1) := by decide +kernel
set_option maxRecDepth 20000 in
theorem ggJ0_checkIndex_df160_J3_checkIndex_8e157 : GoodIn wsJ0_checkIndex_df160 wsJ3_checkIndex_8e157 := goodIn_r _ [5] (by decide +kernel) (by decide +kernel)
set_option maxRecDepth 20000 in
theorem gJ0_checkIndex_df160_J3_checkIndex_8e157 : GoodIn wsJ0_checkIndex_df160 (va_wsS RJ0 1059 yJ3_checkIndex_8e157 wsJ3_checkIndex_8e157) := goodIn_app (goodIn_of _ (by decide +kernel)) ggJ0_checkIndex_df160_J3_checkIndex_8e157
theorem dJ0_checkIndex_df160_0 : decode cJ0_checkIndex_df160 0 = .ok (.iload_n 0, 1) := by decide +kernel
theorem dJ0_checkIndex_df160_1 : decode cJ0_checkIndex_df160 1 = .ok (.iload_n 1, 1) := by decide +kernel
theorem dJ0_checkIndex_df160_2 : decode cJ0_checkIndex_df160 2 = .ok (.getstatic 1053, 3) := by decide +kernel
theorem dJ0_checkIndex_df160_5 : decode cJ0_checkIndex_df160 5 = .ok (.invokestatic 1059, 3) := by decide +kernel
theorem dJ0_checkIndex_df160_8 : decode cJ0_checkIndex_df160 8 = .ok (.pop, 1) := by decide +kernel
theorem dJ0_checkIndex_df160_9 : decode cJ0_checkIndex_df160 9 = .ok (.return_, 1) := by decide +kernel
set_option maxRecDepth 20000 in
theorem ggJ1_charAt_3b067_J0_checkIndex_df160 : GoodIn wsJ1_charAt_3b067 wsJ0_checkIndex_df160 := goodIn_r _ [4, 5, 6, 7, 8, 9] (by decide +kernel) (by decide +kernel)
set_option maxRecDepth 20000 in
theorem gJ1_charAt_3b067_J0_checkIndex_df160 : GoodIn wsJ1_charAt_3b067 (va_wsS RJ1 9 yJ0_checkIndex_df160 wsJ0_checkIndex_df160) := goodIn_app (goodIn_of _ (by decide +kernel)) ggJ1_charAt_3b067_J0_checkIndex_df160
theorem dJ1_charAt_3b067_0 : decode cJ1_charAt_3b067 0 = .ok (.iload_n 1, 1) := by decide +kernel
theorem dJ1_charAt_3b067_1 : decode cJ1_charAt_3b067 1 = .ok (.aload_n 0, 1) := by decide +kernel
theorem dJ1_charAt_3b067_2 : decode cJ1_charAt_3b067 2 = .ok (.arraylength, 1) := by decide +kernel
theorem dJ1_charAt_3b067_3 : decode cJ1_charAt_3b067 3 = .ok (.invokestatic 9, 3) := by decide +kernel
theorem dJ1_charAt_3b067_6 : decode cJ1_charAt_3b067 6 = .ok (.aload_n 0, 1) := by decide +kernel
theorem dJ1_charAt_3b067_7 : decode cJ1_charAt_3b067 7 = .ok (.iload_n 1, 1) := by decide +kernel
theorem dJ1_charAt_3b067_8 : decode cJ1_charAt_3b067 8 = .ok (.baload, 1) := by decide +kernel
theorem dJ1_charAt_3b067_9 : decode cJ1_charAt_3b067 9 = .ok (.sipush 255, 3) := by decide +kernel
theorem dJ1_charAt_3b067_12 : decode cJ1_charAt_3b067 12 = .ok (.iand, 1) := by decide +kernel
theorem dJ1_charAt_3b067_13 : decode cJ1_charAt_3b067 13 = .ok (.i2c, 1) := by decide +kernel
theorem dJ1_charAt_3b067_14 : decode cJ1_charAt_3b067 14 = .ok (.ireturn, 1) := by decide +kernel
set_option maxRecDepth 20000 in
theorem ggJ2_getChar_3b067_J2_length_9d52b : GoodIn wsJ2_getChar_3b067 wsJ2_length_9d52b := goodIn_r _ [7] (by decide +kernel) (by decide +kernel)
set_option maxRecDepth 20000 in
theorem gJ2_getChar_3b067_J2_length_9d52b : GoodIn wsJ2_getChar_3b067 (va_wsS RJ2 48 yJ2_length_9d52b wsJ2_length_9d52b) := goodIn_app (goodIn_of _ (by decide +kernel)) ggJ2_getChar_3b067_J2_length_9d52b
theorem dJ2_getChar_3b067_0 : decode cJ2_getChar_3b067 0 = .ok (.getstatic 44, 3) := by decide +kernel
theorem dJ2_getChar_3b067_3 : decode cJ2_getChar_3b067 3 = .ok (.ifCond .ne 25, 3) := by decide +kernel
theorem dJ2_getChar_3b067_6 : decode cJ2_getChar_3b067 6 = .ok (.iload_n 1, 1) := by decide +kernel
theorem dJ2_getChar_3b067_7 : decode cJ2_getChar_3b067 7 = .ok (.ifCond .lt 11, 3) := by decide +kernel
theorem dJ2_getChar_3b067_10 : decode cJ2_getChar_3b067 10 = .ok (.iload_n 1, 1) := by decide +kernel
theorem dJ2_getChar_3b067_11 : decode cJ2_getChar_3b067 11 = .ok (.aload_n 0, 1) := by decide +kernel
theorem dJ2_getChar_3b067_12 : decode cJ2_getChar_3b067 12 = .ok (.invokestatic 48, 3) := by decide +kernel
theorem dJ2_getChar_3b067_15 : decode cJ2_getChar_3b067 15 = .ok (.if_icmp .lt 13, 3) := by decide +kernel
theorem dJ2_getChar_3b067_18 : decode cJ2_getChar_3b067 18 = .ok (.new 52, 3) := by decide +kernel
theorem dJ2_getChar_3b067_21 : decode cJ2_getChar_3b067 21 = .ok (.dup, 1) := by decide +kernel
theorem dJ2_getChar_3b067_22 : decode cJ2_getChar_3b067 22 = .ok (.ldc 54, 2) := by decide +kernel
theorem dJ2_getChar_3b067_24 : decode cJ2_getChar_3b067 24 = .ok (.invokespecial 56, 3) := by decide +kernel
theorem dJ2_getChar_3b067_27 : decode cJ2_getChar_3b067 27 = .ok (.athrow, 1) := by decide +kernel
theorem dJ2_getChar_3b067_28 : decode cJ2_getChar_3b067 28 = .ok (.iload_n 1, 1) := by decide +kernel
theorem dJ2_getChar_3b067_29 : decode cJ2_getChar_3b067 29 = .ok (.iconst 1, 1) := by decide +kernel
theorem dJ2_getChar_3b067_30 : decode cJ2_getChar_3b067 30 = .ok (.ishl, 1) := by decide +kernel
theorem dJ2_getChar_3b067_31 : decode cJ2_getChar_3b067 31 = .ok (.istore_n 1, 1) := by decide +kernel
theorem dJ2_getChar_3b067_32 : decode cJ2_getChar_3b067 32 = .ok (.aload_n 0, 1) := by decide +kernel
theorem dJ2_getChar_3b067_33 : decode cJ2_getChar_3b067 33 = .ok (.iload_n 1, 1) := by decide +kernel
theorem dJ2_getChar_3b067_34 : decode cJ2_getChar_3b067 34 = .ok (.iinc 1 1, 3) := by decide +kernel
theorem dJ2_getChar_3b067_37 : decode cJ2_getChar_3b067 37 = .ok (.baload, 1) := by decide +kernel
theorem dJ2_getChar_3b067_38 : decode cJ2_getChar_3b067 38 = .ok (.sipush 255, 3) := by decide +kernel
theorem dJ2_getChar_3b067_41 : decode cJ2_getChar_3b067 41 = .ok (.iand, 1) := by decide +kernel
theorem dJ2_getChar_3b067_42 : decode cJ2_getChar_3b067 42 = .ok (.getstatic 59, 3) := by decide +kernel
theorem dJ2_getChar_3b067_45 : decode cJ2_getChar_3b067 45 = .ok (.ishl, 1) := by decide +kernel
theorem dJ2_getChar_3b067_46 : decode cJ2_getChar_3b067 46 = .ok (.aload_n 0, 1) := by decide +kernel
theorem dJ2_getChar_3b067_47 : decode cJ2_getChar_3b067 47 = .ok (.iload_n 1, 1) := by decide +kernel
theorem dJ2_getChar_3b067_48 : decode cJ2_getChar_3b067 48 = .ok (.baload, 1) := by decide +kernel
theorem dJ2_getChar_3b067_49 : decode cJ2_getChar_3b067 49 = .ok (.sipush 255, 3) := by decide +kernel
theorem dJ2_getChar_3b067_52 : decode cJ2_getChar_3b067 52 = .ok (.iand, 1) := by decide +kernel
theorem dJ2_getChar_3b067_53 : decode cJ2_getChar_3b067 53 = .ok (.getstatic 63, 3) := by decide +kernel
theorem dJ2_getChar_3b067_56 : decode cJ2_getChar_3b067 56 = .ok (.ishl, 1) := by decide +kernel
theorem dJ2_getChar_3b067_57 : decode cJ2_getChar_3b067 57 = .ok (.ior, 1) := by decide +kernel
theorem dJ2_getChar_3b067_58 : decode cJ2_getChar_3b067 58 = .ok (.i2c, 1) := by decide +kernel
theorem dJ2_getChar_3b067_59 : decode cJ2_getChar_3b067 59 = .ok (.ireturn, 1) := by decide +kernel
theorem dJ2_length_9d52b_0 : decode cJ2_length_9d52b 0 = .ok (.aload_n 0, 1) := by decide +kernel
theorem dJ2_length_9d52b_1 : decode cJ2_length_9d52b 1 = .ok (.arraylength, 1) := by decide +kernel
theorem dJ2_length_9d52b_2 : decode cJ2_length_9d52b 2 = .ok (.iconst 1, 1) := by decide +kernel
theorem dJ2_length_9d52b_3 : decode cJ2_length_9d52b 3 = .ok (.ishr, 1) := by decide +kernel
theorem dJ2_length_9d52b_4 : decode cJ2_length_9d52b 4 = .ok (.ireturn, 1) := by decide +kernel
set_option maxRecDepth 20000 in
theorem ggJ2_charAt_3b067_J2_checkIndex_2214a : GoodIn wsJ2_charAt_3b067 wsJ2_checkIndex_2214a := goodIn_r _ [4, 5, 6, 3, 7, 8, 9, 10, 11, 12, 13, 14, 15, 16] (by decide +kernel) (by decide +kernel)
set_option maxRecDepth 20000 in
theorem gJ2_charAt_3b067_J2_checkIndex_2214a : GoodIn wsJ2_charAt_3b067 (va_wsS RJ2 67 yJ2_checkIndex_2214a wsJ2_checkIndex_2214a) := goodIn_app (goodIn_of _ (by decide +kernel)) ggJ2_charAt_3b067_J2_checkIndex_2214a
set_option maxRecDepth 20000 in
theorem ggJ2_charAt_3b067_J2_getChar_3b067 : GoodIn wsJ2_charAt_3b067 wsJ2_getChar_3b067 := goodIn_r _ [19, 20, 21, 22, 5, 6, 3, 7] (by decide +kernel) (by decide +kernel)
set_option maxRecDepth 20000 in
theorem gJ2_charAt_3b067_J2_getChar_3b067 : GoodIn wsJ2_charAt_3b067 (va_wsS RJ2 71 yJ2_getChar_3b067 wsJ2_getChar_3b067) := goodIn_app (goodIn_of _ (by decide +kernel)) ggJ2_charAt_3b067_J2_getChar_3b067
theorem dJ2_charAt_3b067_0 : decode cJ2_charAt_3b067 0 = .ok (.iload_n 1, 1) := by decide +kernel
theorem dJ2_charAt_3b067_1 : decode cJ2_charAt_3b067 1 = .ok (.aload_n 0, 1) := by decide +kernel
theorem dJ2_charAt_3b067_2 : decode cJ2_charAt_3b067 2 = .ok (.invokestatic 67, 3) := by decide +kernel
theorem dJ2_charAt_3b067_5 : decode cJ2_charAt_3b067 5 = .ok (.aload_n 0, 1) := by decide +kernel
theorem dJ2_charAt_3b067_6 : decode cJ2_charAt_3b067 6 = .ok (.iload_n 1, 1) := by decide +kernel
theorem dJ2_charAt_3b067_7 : decode cJ2_charAt_3b067 7 = .ok (.invokestatic 71, 3) := by decide +kernel
theorem dJ2_charAt_3b067_10 : decode cJ2_charAt_3b067 10 = .ok (.ireturn, 1) := by decide +kernel
set_option maxRecDepth 20000 in
theorem ggJ2_checkIndex_2214a_J2_length_9d52b : GoodIn wsJ2_checkIndex_2214a wsJ2_length_9d52b := goodIn_r _ [4] (by decide +kernel) (by decide +kernel)
set_option maxRecDepth 20000 in
theorem gJ2_checkIndex_2214a_J2_length_9d52b : GoodIn wsJ2_checkIndex_2214a (va_wsS RJ2 48 yJ2_length_9d52b wsJ2_length_9d52b) := goodIn_app (goodIn_of _ (by decide +kernel)) ggJ2_checkIndex_2214a_J2_length_9d52b
set_option maxRecDepth 20000 in
theorem ggJ2_checkIndex_2214a_J0_checkIndex_df160 : GoodIn wsJ2_checkIndex_2214a wsJ0_checkIndex_df160 := goodIn_r _ [8, 9, 10, 11, 12, 13] (by decide +kernel) (by decide +kernel)
set_option maxRecDepth 20000 in
theorem gJ2_checkIndex_2214a_J0_checkIndex_df160 : GoodIn wsJ2_checkIndex_2214a (va_wsS RJ2 414 yJ0_checkIndex_df160 wsJ0_checkIndex_df160) := goodIn_app (goodIn_of _ (by decide +kernel)) ggJ2_checkIndex_2214a_J0_checkIndex_df160
theorem dJ2_checkIndex_2214a_0 : decode cJ2_checkIndex_2214a 0 = .ok (.iload_n 0, 1) := by decide +kernel
theorem dJ2_checkIndex_2214a_1 : decode cJ2_checkIndex_2214a 1 = .ok (.aload_n 1, 1) := by decide +kernel
theorem dJ2_checkIndex_2214a_2 : decode cJ2_checkIndex_2214a 2 = .ok (.invokestatic 48, 3) := by decide +kernel
theorem dJ2_checkIndex_2214a_5 : decode cJ2_checkIndex_2214a 5 = .ok (.invokestatic 414, 3) := by decide +kernel
theorem dJ2_checkIndex_2214a_8 : decode cJ2_checkIndex_2214a 8 = .ok (.return_, 1) := by decide +kernel
theorem dJ7_fill_53178_0 : decode cJ7_fill_53178 0 = .ok (.iconst 0, 1) := by decide +kernel
theorem dJ7_fill_53178_1 : decode cJ7_fill_53178 1 = .ok (.istore_n 2, 1) := by decide +kernel
theorem dJ7_fill_53178_2 : decode cJ7_fill_53178 2 = .ok (.aload_n 0, 1) := by decide +kernel
theorem dJ7_fill_53178_3 : decode cJ7_fill_53178 3 = .ok (.arraylength, 1) := by decide +kernel
theorem dJ7_fill_53178_4 : decode cJ7_fill_53178 4 = .ok (.istore_n 3, 1) := by decide +kernel
theorem dJ7_fill_53178_5 : decode cJ7_fill_53178 5 = .ok (.iload_n 2, 1) := by decide +kernel
theorem dJ7_fill_53178_6 : decode cJ7_fill_53178 6 = .ok (.iload_n 3, 1) := by decide +kernel
theorem dJ7_fill_53178_7 : decode cJ7_fill_53178 7 = .ok (.if_icmp .ge 13, 3) := by decide +kernel
theorem dJ7_fill_53178_10 : decode cJ7_fill_53178 10 = .ok (.aload_n 0, 1) := by decide +kernel
theorem dJ7_fill_53178_11 : decode cJ7_fill_53178 11 = .ok (.iload_n 2, 1) := by decide +kernel
theorem dJ7_fill_53178_12 : decode cJ7_fill_53178 12 = .ok (.iload_n 1, 1) := by decide +kernel
theorem dJ7_fill_53178_13 : decode cJ7_fill_53178 13 = .ok (.iastore, 1) := by decide +kernel
theorem dJ7_fill_53178_14 : decode cJ7_fill_53178 14 = .ok (.iinc 2 1, 3) := by decide +kernel
theorem dJ7_fill_53178_17 : decode cJ7_fill_53178 17 = .ok (.goto (-12), 3) := by decide +kernel
theorem dJ7_fill_53178_20 : decode cJ7_fill_53178 20 = .ok (.return_, 1) := by decide +kernel
theorem dJ3_checkIndex_8e157_0 : decode cJ3_checkIndex_8e157 0 = .ok (.iload_n 0, 1) := by decide +kernel
theorem dJ3_checkIndex_8e157_1 : decode cJ3_checkIndex_8e157 1 = .ok (.ifCond .lt 8, 3) := by decide +kernel
theorem dJ3_checkIndex_8e157_4 : decode cJ3_checkIndex_8e157 4 = .ok (.iload_n 0, 1) := by decide +kernel
theorem dJ3_checkIndex_8e157_5 : decode cJ3_checkIndex_8e157 5 = .ok (.iload_n 1, 1) := by decide +kernel
theorem dJ3_checkIndex_8e157_6 : decode cJ3_checkIndex_8e157 6 = .ok (.if_icmp .lt 10, 3) := by decide +kernel
theorem dJ3_checkIndex_8e157_9 : decode cJ3_checkIndex_8e157 9 = .ok (.aload_n 2, 1) := by decide +kernel
theorem dJ3_checkIndex_8e157_10 : decode cJ3_checkIndex_8e157 10 = .ok (.iload_n 0, 1) := by decide +kernel
theorem dJ3_checkIndex_8e157_11 : decode cJ3_checkIndex_8e157 11 = .ok (.iload_n 1, 1) := by decide +kernel
theorem dJ3_checkIndex_8e157_12 : decode cJ3_checkIndex_8e157 12 = .ok (.invokestatic 95, 3) := by decide +kernel
theorem dJ3_checkIndex_8e157_15 : decode cJ3_checkIndex_8e157 15 = .ok (.athrow, 1) := by decide +kernel
theorem dJ3_checkIndex_8e157_16 : decode cJ3_checkIndex_8e157 16 = .ok (.iload_n 0, 1) := by decide +kernel
theorem dJ3_checkIndex_8e157_17 : decode cJ3_checkIndex_8e157 17 = .ok (.ireturn, 1) := by decide +kernel

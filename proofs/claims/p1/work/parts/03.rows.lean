set_option maxRecDepth 20000 in
theorem ggX0_init_J7_fill_53178 : GoodIn wsX0_init wsJ7_fill_53178 := goodIn_r _ [18] (by decide +kernel) (by decide +kernel)
set_option maxRecDepth 20000 in
theorem gX0_init_J7_fill_53178 : GoodIn wsX0_init (va_wsS RX0 41 yJ7_fill_53178 wsJ7_fill_53178) := goodIn_app (goodIn_of _ (by decide +kernel)) ggX0_init_J7_fill_53178
theorem dX0_init_0 : decode cX0_init 0 = .ok (.aload_n 0, 1) := by decide +kernel
theorem dX0_init_1 : decode cX0_init 1 = .ok (.invokespecial 5, 3) := by decide +kernel
theorem dX0_init_4 : decode cX0_init 4 = .ok (.aload_n 0, 1) := by decide +kernel
theorem dX0_init_5 : decode cX0_init 5 = .ok (.sipush 1220, 3) := by decide +kernel
theorem dX0_init_8 : decode cX0_init 8 = .ok (.newarray .int, 2) := by decide +kernel
theorem dX0_init_10 : decode cX0_init 10 = .ok (.putfield 11, 3) := by decide +kernel
theorem dX0_init_13 : decode cX0_init 13 = .ok (.aload_n 0, 1) := by decide +kernel
theorem dX0_init_14 : decode cX0_init 14 = .ok (.sipush 1220, 3) := by decide +kernel
theorem dX0_init_17 : decode cX0_init 17 = .ok (.newarray .int, 2) := by decide +kernel
theorem dX0_init_19 : decode cX0_init 19 = .ok (.putfield 15, 3) := by decide +kernel
theorem dX0_init_22 : decode cX0_init 22 = .ok (.aload_n 0, 1) := by decide +kernel
theorem dX0_init_23 : decode cX0_init 23 = .ok (.sipush 1220, 3) := by decide +kernel
theorem dX0_init_26 : decode cX0_init 26 = .ok (.newarray .int, 2) := by decide +kernel
theorem dX0_init_28 : decode cX0_init 28 = .ok (.putfield 18, 3) := by decide +kernel
theorem dX0_init_31 : decode cX0_init 31 = .ok (.aload_n 0, 1) := by decide +kernel
theorem dX0_init_32 : decode cX0_init 32 = .ok (.sipush 1220, 3) := by decide +kernel
theorem dX0_init_35 : decode cX0_init 35 = .ok (.newarray .int, 2) := by decide +kernel
theorem dX0_init_37 : decode cX0_init 37 = .ok (.putfield 21, 3) := by decide +kernel
theorem dX0_init_40 : decode cX0_init 40 = .ok (.aload_n 0, 1) := by decide +kernel
theorem dX0_init_41 : decode cX0_init 41 = .ok (.sipush 1220, 3) := by decide +kernel
theorem dX0_init_44 : decode cX0_init 44 = .ok (.newarray .int, 2) := by decide +kernel
theorem dX0_init_46 : decode cX0_init 46 = .ok (.putfield 24, 3) := by decide +kernel
theorem dX0_init_49 : decode cX0_init 49 = .ok (.aload_n 0, 1) := by decide +kernel
theorem dX0_init_50 : decode cX0_init 50 = .ok (.sipush 1220, 3) := by decide +kernel
theorem dX0_init_53 : decode cX0_init 53 = .ok (.newarray .int, 2) := by decide +kernel
theorem dX0_init_55 : decode cX0_init 55 = .ok (.putfield 27, 3) := by decide +kernel
theorem dX0_init_58 : decode cX0_init 58 = .ok (.aload_n 0, 1) := by decide +kernel
theorem dX0_init_59 : decode cX0_init 59 = .ok (.bipush 20, 2) := by decide +kernel
theorem dX0_init_61 : decode cX0_init 61 = .ok (.newarray .int, 2) := by decide +kernel
theorem dX0_init_63 : decode cX0_init 63 = .ok (.putfield 30, 3) := by decide +kernel
theorem dX0_init_66 : decode cX0_init 66 = .ok (.aload_n 0, 1) := by decide +kernel
theorem dX0_init_67 : decode cX0_init 67 = .ok (.ldc 33, 2) := by decide +kernel
theorem dX0_init_69 : decode cX0_init 69 = .ok (.putfield 34, 3) := by decide +kernel
theorem dX0_init_72 : decode cX0_init 72 = .ok (.aload_n 0, 1) := by decide +kernel
theorem dX0_init_73 : decode cX0_init 73 = .ok (.ldc 33, 2) := by decide +kernel
theorem dX0_init_75 : decode cX0_init 75 = .ok (.putfield 38, 3) := by decide +kernel
theorem dX0_init_78 : decode cX0_init 78 = .ok (.aload_n 0, 1) := by decide +kernel
theorem dX0_init_79 : decode cX0_init 79 = .ok (.getfield 11, 3) := by decide +kernel
theorem dX0_init_82 : decode cX0_init 82 = .ok (.ldc 33, 2) := by decide +kernel
theorem dX0_init_84 : decode cX0_init 84 = .ok (.invokestatic 41, 3) := by decide +kernel
theorem dX0_init_87 : decode cX0_init 87 = .ok (.aload_n 0, 1) := by decide +kernel
theorem dX0_init_88 : decode cX0_init 88 = .ok (.getfield 15, 3) := by decide +kernel
theorem dX0_init_91 : decode cX0_init 91 = .ok (.ldc 33, 2) := by decide +kernel
theorem dX0_init_93 : decode cX0_init 93 = .ok (.invokestatic 41, 3) := by decide +kernel
theorem dX0_init_96 : decode cX0_init 96 = .ok (.aload_n 0, 1) := by decide +kernel
theorem dX0_init_97 : decode cX0_init 97 = .ok (.getfield 11, 3) := by decide +kernel
theorem dX0_init_100 : decode cX0_init 100 = .ok (.iconst 0, 1) := by decide +kernel
theorem dX0_init_101 : decode cX0_init 101 = .ok (.iconst 0, 1) := by decide +kernel
theorem dX0_init_102 : decode cX0_init 102 = .ok (.iastore, 1) := by decide +kernel
theorem dX0_init_103 : decode cX0_init 103 = .ok (.return_, 1) := by decide +kernel
theorem dX0_keep_0 : decode cX0_keep 0 = .ok (.iload_n 1, 1) := by decide +kernel
theorem dX0_keep_1 : decode cX0_keep 1 = .ok (.ifCond .lt 16, 3) := by decide +kernel
theorem dX0_keep_4 : decode cX0_keep 4 = .ok (.iload_n 1, 1) := by decide +kernel
theorem dX0_keep_5 : decode cX0_keep 5 = .ok (.aload_n 0, 1) := by decide +kernel
theorem dX0_keep_6 : decode cX0_keep 6 = .ok (.getfield 47, 3) := by decide +kernel
theorem dX0_keep_9 : decode cX0_keep 9 = .ok (.if_icmp .ge 8, 3) := by decide +kernel
theorem dX0_keep_17 : decode cX0_keep 17 = .ok (.return_, 1) := by decide +kernel
theorem dX0_isParted_0 : decode cX0_isParted 0 = .ok (.aload_n 0, 1) := by decide +kernel
theorem dX0_isParted_1 : decode cX0_isParted 1 = .ok (.getfield 34, 3) := by decide +kernel
theorem dX0_isParted_4 : decode cX0_isParted 4 = .ok (.ldc 33, 2) := by decide +kernel
theorem dX0_isParted_6 : decode cX0_isParted 6 = .ok (.if_icmp .ge 7, 3) := by decide +kernel
theorem dX0_isParted_13 : decode cX0_isParted 13 = .ok (.iconst 0, 1) := by decide +kernel
theorem dX0_isParted_14 : decode cX0_isParted 14 = .ok (.ireturn, 1) := by decide +kernel
theorem dX0_isPartedTwice_0 : decode cX0_isPartedTwice 0 = .ok (.aload_n 0, 1) := by decide +kernel
theorem dX0_isPartedTwice_1 : decode cX0_isPartedTwice 1 = .ok (.getfield 38, 3) := by decide +kernel
theorem dX0_isPartedTwice_4 : decode cX0_isPartedTwice 4 = .ok (.ldc 33, 2) := by decide +kernel
theorem dX0_isPartedTwice_6 : decode cX0_isPartedTwice 6 = .ok (.if_icmp .ge 7, 3) := by decide +kernel
theorem dX0_isPartedTwice_13 : decode cX0_isPartedTwice 13 = .ok (.iconst 0, 1) := by decide +kernel
theorem dX0_isPartedTwice_14 : decode cX0_isPartedTwice 14 = .ok (.ireturn, 1) := by decide +kernel
theorem dX0_cell_0 : decode cX0_cell 0 = .ok (.iload_n 0, 1) := by decide +kernel
theorem dX0_cell_1 : decode cX0_cell 1 = .ok (.ifCond .lt 23, 3) := by decide +kernel
theorem dX0_cell_4 : decode cX0_cell 4 = .ok (.iload_n 0, 1) := by decide +kernel
theorem dX0_cell_5 : decode cX0_cell 5 = .ok (.bipush 60, 2) := by decide +kernel
theorem dX0_cell_7 : decode cX0_cell 7 = .ok (.if_icmp .gt 17, 3) := by decide +kernel
theorem dX0_cell_10 : decode cX0_cell 10 = .ok (.iload_n 1, 1) := by decide +kernel
theorem dX0_cell_11 : decode cX0_cell 11 = .ok (.ifCond .lt 13, 3) := by decide +kernel
theorem dX0_cell_14 : decode cX0_cell 14 = .ok (.iload_n 1, 1) := by decide +kernel
theorem dX0_cell_15 : decode cX0_cell 15 = .ok (.bipush 20, 2) := by decide +kernel
theorem dX0_cell_17 : decode cX0_cell 17 = .ok (.if_icmp .ge 7, 3) := by decide +kernel
theorem dX0_cell_20 : decode cX0_cell 20 = .ok (.iconst 1, 1) := by decide +kernel
theorem dX0_cell_21 : decode cX0_cell 21 = .ok (.goto 4, 3) := by decide +kernel
theorem dX0_cell_25 : decode cX0_cell 25 = .ok (.istore_n 2, 1) := by decide +kernel
theorem dX0_cell_26 : decode cX0_cell 26 = .ok (.iload_n 2, 1) := by decide +kernel
theorem dX0_cell_27 : decode cX0_cell 27 = .ok (.ifCond .eq 12, 3) := by decide +kernel
theorem dX0_cell_30 : decode cX0_cell 30 = .ok (.iload_n 0, 1) := by decide +kernel
theorem dX0_cell_31 : decode cX0_cell 31 = .ok (.bipush 20, 2) := by decide +kernel
theorem dX0_cell_33 : decode cX0_cell 33 = .ok (.imul, 1) := by decide +kernel
theorem dX0_cell_34 : decode cX0_cell 34 = .ok (.iload_n 1, 1) := by decide +kernel
theorem dX0_cell_35 : decode cX0_cell 35 = .ok (.iadd, 1) := by decide +kernel
theorem dX0_cell_36 : decode cX0_cell 36 = .ok (.goto 4, 3) := by decide +kernel
theorem dX0_cell_40 : decode cX0_cell 40 = .ok (.ireturn, 1) := by decide +kernel
set_option maxRecDepth 20000 in
theorem ggX0_isReached_X0_cell : GoodIn wsX0_isReached wsX0_cell := goodIn_r _ [7] (by decide +kernel) (by decide +kernel)
set_option maxRecDepth 20000 in
theorem gX0_isReached_X0_cell : GoodIn wsX0_isReached (va_wsS RX0 50 yX0_cell wsX0_cell) := goodIn_app (goodIn_of _ (by decide +kernel)) ggX0_isReached_X0_cell
theorem dX0_isReached_0 : decode cX0_isReached 0 = .ok (.aload_n 0, 1) := by decide +kernel
theorem dX0_isReached_1 : decode cX0_isReached 1 = .ok (.getfield 11, 3) := by decide +kernel
theorem dX0_isReached_4 : decode cX0_isReached 4 = .ok (.aload_n 0, 1) := by decide +kernel
theorem dX0_isReached_5 : decode cX0_isReached 5 = .ok (.getfield 47, 3) := by decide +kernel
theorem dX0_isReached_8 : decode cX0_isReached 8 = .ok (.iload_n 1, 1) := by decide +kernel
theorem dX0_isReached_9 : decode cX0_isReached 9 = .ok (.invokestatic 50, 3) := by decide +kernel
theorem dX0_isReached_12 : decode cX0_isReached 12 = .ok (.iaload, 1) := by decide +kernel
theorem dX0_isReached_13 : decode cX0_isReached 13 = .ok (.ldc 33, 2) := by decide +kernel
theorem dX0_isReached_15 : decode cX0_isReached 15 = .ok (.if_icmp .ge 7, 3) := by decide +kernel
theorem dX0_isReached_18 : decode cX0_isReached 18 = .ok (.iconst 1, 1) := by decide +kernel
theorem dX0_isReached_19 : decode cX0_isReached 19 = .ok (.goto 4, 3) := by decide +kernel
theorem dX0_isReached_22 : decode cX0_isReached 22 = .ok (.iconst 0, 1) := by decide +kernel
theorem dX0_isReached_23 : decode cX0_isReached 23 = .ok (.ireturn, 1) := by decide +kernel
theorem dX0_finish_0 : decode cX0_finish 0 = .ok (.aload_n 0, 1) := by decide +kernel
theorem dX0_finish_1 : decode cX0_finish 1 = .ok (.ldc 33, 2) := by decide +kernel
theorem dX0_finish_3 : decode cX0_finish 3 = .ok (.putfield 34, 3) := by decide +kernel
theorem dX0_finish_6 : decode cX0_finish 6 = .ok (.aload_n 0, 1) := by decide +kernel
theorem dX0_finish_7 : decode cX0_finish 7 = .ok (.ldc 33, 2) := by decide +kernel
theorem dX0_finish_9 : decode cX0_finish 9 = .ok (.putfield 38, 3) := by decide +kernel
theorem dX0_finish_12 : decode cX0_finish 12 = .ok (.aload_n 0, 1) := by decide +kernel
theorem dX0_finish_13 : decode cX0_finish 13 = .ok (.iconst 0, 1) := by decide +kernel
theorem dX0_finish_14 : decode cX0_finish 14 = .ok (.putfield 113, 3) := by decide +kernel
theorem dX0_finish_17 : decode cX0_finish 17 = .ok (.aload_n 0, 1) := by decide +kernel
theorem dX0_finish_18 : decode cX0_finish 18 = .ok (.iconst (-1), 1) := by decide +kernel
theorem dX0_finish_19 : decode cX0_finish 19 = .ok (.putfield 116, 3) := by decide +kernel
theorem dX0_finish_22 : decode cX0_finish 22 = .ok (.aload_n 0, 1) := by decide +kernel
theorem dX0_finish_23 : decode cX0_finish 23 = .ok (.getfield 47, 3) := by decide +kernel
theorem dX0_finish_26 : decode cX0_finish 26 = .ok (.ifCond .gt 4, 3) := by decide +kernel
theorem dX0_finish_29 : decode cX0_finish 29 = .ok (.return_, 1) := by decide +kernel
set_option maxRecDepth 20000 in
theorem ggX0_sharedSteps_X0_isReached : GoodIn wsX0_sharedSteps wsX0_isReached := goodIn_r _ [10, 11, 1, 12, 13, 14, 9, 15, 27, 28, 29, 30, 31, 32, 33, 34, 35, 36, 37, 38] (by decide +kernel) (by decide +kernel)
set_option maxRecDepth 20000 in
theorem gX0_sharedSteps_X0_isReached : GoodIn wsX0_sharedSteps (wsV RX0 54 RX0 yX0_isReached wsX0_isReached) := goodIn_app (goodIn_of _ (by decide +kernel)) ggX0_sharedSteps_X0_isReached
set_option maxRecDepth 20000 in
theorem ggX0_sharedSteps_X1_isHopeful : GoodIn wsX0_sharedSteps wsX1_isHopeful := goodIn_r _ [20, 21, 39, 40, 41, 42, 43, 44, 45, 46, 47, 48, 49] (by decide +kernel) (by decide +kernel)
set_option maxRecDepth 20000 in
theorem gX0_sharedSteps_X1_isHopeful : GoodIn wsX0_sharedSteps (wsV RX0 129 RX1 yX1_isHopeful wsX1_isHopeful) := goodIn_app (goodIn_of _ (by decide +kernel)) ggX0_sharedSteps_X1_isHopeful
theorem dX0_sharedSteps_0 : decode cX0_sharedSteps 0 = .ok (.iconst (-1), 1) := by decide +kernel
theorem dX0_sharedSteps_1 : decode cX0_sharedSteps 1 = .ok (.istore_n 2, 1) := by decide +kernel
theorem dX0_sharedSteps_2 : decode cX0_sharedSteps 2 = .ok (.iconst 0, 1) := by decide +kernel
theorem dX0_sharedSteps_3 : decode cX0_sharedSteps 3 = .ok (.istore_n 3, 1) := by decide +kernel
theorem dX0_sharedSteps_4 : decode cX0_sharedSteps 4 = .ok (.iconst 0, 1) := by decide +kernel
theorem dX0_sharedSteps_5 : decode cX0_sharedSteps 5 = .ok (.istore 4, 2) := by decide +kernel
theorem dX0_sharedSteps_7 : decode cX0_sharedSteps 7 = .ok (.iload 4, 2) := by decide +kernel
theorem dX0_sharedSteps_9 : decode cX0_sharedSteps 9 = .ok (.bipush 20, 2) := by decide +kernel
theorem dX0_sharedSteps_11 : decode cX0_sharedSteps 11 = .ok (.if_icmp .ge 63, 3) := by decide +kernel
theorem dX0_sharedSteps_14 : decode cX0_sharedSteps 14 = .ok (.aload_n 0, 1) := by decide +kernel
theorem dX0_sharedSteps_15 : decode cX0_sharedSteps 15 = .ok (.iload 4, 2) := by decide +kernel
theorem dX0_sharedSteps_17 : decode cX0_sharedSteps 17 = .ok (.invokevirtual 54, 3) := by decide +kernel
theorem dX0_sharedSteps_20 : decode cX0_sharedSteps 20 = .ok (.ifCond .eq 48, 3) := by decide +kernel
theorem dX0_sharedSteps_23 : decode cX0_sharedSteps 23 = .ok (.aload_n 1, 1) := by decide +kernel
theorem dX0_sharedSteps_24 : decode cX0_sharedSteps 24 = .ok (.iload 4, 2) := by decide +kernel
theorem dX0_sharedSteps_26 : decode cX0_sharedSteps 26 = .ok (.invokevirtual 129, 3) := by decide +kernel
theorem dX0_sharedSteps_29 : decode cX0_sharedSteps 29 = .ok (.ifCond .eq 39, 3) := by decide +kernel
theorem dX0_sharedSteps_68 : decode cX0_sharedSteps 68 = .ok (.iinc 4 1, 3) := by decide +kernel
theorem dX0_sharedSteps_71 : decode cX0_sharedSteps 71 = .ok (.goto (-64), 3) := by decide +kernel
theorem dX0_sharedSteps_74 : decode cX0_sharedSteps 74 = .ok (.iload_n 3, 1) := by decide +kernel
theorem dX0_sharedSteps_75 : decode cX0_sharedSteps 75 = .ok (.ireturn, 1) := by decide +kernel
theorem dX1_init_0 : decode cX1_init 0 = .ok (.aload_n 0, 1) := by decide +kernel
theorem dX1_init_1 : decode cX1_init 1 = .ok (.invokespecial 3, 3) := by decide +kernel
theorem dX1_init_4 : decode cX1_init 4 = .ok (.aload_n 0, 1) := by decide +kernel
theorem dX1_init_5 : decode cX1_init 5 = .ok (.bipush 40, 2) := by decide +kernel
theorem dX1_init_7 : decode cX1_init 7 = .ok (.newarray .int, 2) := by decide +kernel
theorem dX1_init_9 : decode cX1_init 9 = .ok (.putfield 11, 3) := by decide +kernel
theorem dX1_init_12 : decode cX1_init 12 = .ok (.aload_n 0, 1) := by decide +kernel
theorem dX1_init_13 : decode cX1_init 13 = .ok (.bipush 40, 2) := by decide +kernel
theorem dX1_init_15 : decode cX1_init 15 = .ok (.newarray .int, 2) := by decide +kernel
theorem dX1_init_17 : decode cX1_init 17 = .ok (.putfield 15, 3) := by decide +kernel
theorem dX1_init_20 : decode cX1_init 20 = .ok (.aload_n 0, 1) := by decide +kernel
theorem dX1_init_21 : decode cX1_init 21 = .ok (.bipush 40, 2) := by decide +kernel
theorem dX1_init_23 : decode cX1_init 23 = .ok (.newarray .int, 2) := by decide +kernel
theorem dX1_init_25 : decode cX1_init 25 = .ok (.putfield 18, 3) := by decide +kernel
theorem dX1_init_28 : decode cX1_init 28 = .ok (.aload_n 0, 1) := by decide +kernel
theorem dX1_init_29 : decode cX1_init 29 = .ok (.bipush 40, 2) := by decide +kernel
theorem dX1_init_31 : decode cX1_init 31 = .ok (.newarray .int, 2) := by decide +kernel
theorem dX1_init_33 : decode cX1_init 33 = .ok (.putfield 21, 3) := by decide +kernel
theorem dX1_init_36 : decode cX1_init 36 = .ok (.aload_n 0, 1) := by decide +kernel
theorem dX1_init_37 : decode cX1_init 37 = .ok (.bipush 40, 2) := by decide +kernel
theorem dX1_init_39 : decode cX1_init 39 = .ok (.newarray .int, 2) := by decide +kernel
theorem dX1_init_41 : decode cX1_init 41 = .ok (.putfield 24, 3) := by decide +kernel
theorem dX1_init_44 : decode cX1_init 44 = .ok (.aload_n 0, 1) := by decide +kernel
theorem dX1_init_45 : decode cX1_init 45 = .ok (.bipush 10, 2) := by decide +kernel
theorem dX1_init_47 : decode cX1_init 47 = .ok (.newarray .int, 2) := by decide +kernel
theorem dX1_init_49 : decode cX1_init 49 = .ok (.putfield 27, 3) := by decide +kernel
theorem dX1_init_52 : decode cX1_init 52 = .ok (.aload_n 0, 1) := by decide +kernel
theorem dX1_init_53 : decode cX1_init 53 = .ok (.bipush 10, 2) := by decide +kernel
theorem dX1_init_55 : decode cX1_init 55 = .ok (.newarray .int, 2) := by decide +kernel
theorem dX1_init_57 : decode cX1_init 57 = .ok (.putfield 30, 3) := by decide +kernel
theorem dX1_init_60 : decode cX1_init 60 = .ok (.aload_n 0, 1) := by decide +kernel
theorem dX1_init_61 : decode cX1_init 61 = .ok (.bipush 10, 2) := by decide +kernel
theorem dX1_init_63 : decode cX1_init 63 = .ok (.newarray .int, 2) := by decide +kernel
theorem dX1_init_65 : decode cX1_init 65 = .ok (.putfield 33, 3) := by decide +kernel
theorem dX1_init_68 : decode cX1_init 68 = .ok (.aload_n 0, 1) := by decide +kernel
theorem dX1_init_69 : decode cX1_init 69 = .ok (.bipush 20, 2) := by decide +kernel
theorem dX1_init_71 : decode cX1_init 71 = .ok (.newarray .boolean, 2) := by decide +kernel
theorem dX1_init_73 : decode cX1_init 73 = .ok (.putfield 38, 3) := by decide +kernel
theorem dX1_init_76 : decode cX1_init 76 = .ok (.return_, 1) := by decide +kernel
theorem dX1_empty_0 : decode cX1_empty 0 = .ok (.aload_n 0, 1) := by decide +kernel
theorem dX1_empty_1 : decode cX1_empty 1 = .ok (.iconst 0, 1) := by decide +kernel
theorem dX1_empty_2 : decode cX1_empty 2 = .ok (.putfield 42, 3) := by decide +kernel
theorem dX1_empty_5 : decode cX1_empty 5 = .ok (.aload_n 0, 1) := by decide +kernel
theorem dX1_empty_6 : decode cX1_empty 6 = .ok (.iconst 0, 1) := by decide +kernel
theorem dX1_empty_7 : decode cX1_empty 7 = .ok (.putfield 46, 3) := by decide +kernel
theorem dX1_empty_10 : decode cX1_empty 10 = .ok (.return_, 1) := by decide +kernel
theorem dX1_hasGo_0 : decode cX1_hasGo 0 = .ok (.iload_n 1, 1) := by decide +kernel
theorem dX1_hasGo_1 : decode cX1_hasGo 1 = .ok (.ifCond .lt 21, 3) := by decide +kernel
theorem dX1_hasGo_4 : decode cX1_hasGo 4 = .ok (.iload_n 1, 1) := by decide +kernel
theorem dX1_hasGo_5 : decode cX1_hasGo 5 = .ok (.aload_n 0, 1) := by decide +kernel
theorem dX1_hasGo_6 : decode cX1_hasGo 6 = .ok (.getfield 42, 3) := by decide +kernel
theorem dX1_hasGo_9 : decode cX1_hasGo 9 = .ok (.if_icmp .ge 13, 3) := by decide +kernel
theorem dX1_hasGo_22 : decode cX1_hasGo 22 = .ok (.iconst 0, 1) := by decide +kernel
theorem dX1_hasGo_23 : decode cX1_hasGo 23 = .ok (.ireturn, 1) := by decide +kernel
theorem dX1_isHopeful_0 : decode cX1_isHopeful 0 = .ok (.iload_n 1, 1) := by decide +kernel
theorem dX1_isHopeful_1 : decode cX1_isHopeful 1 = .ok (.ifCond .lt 22, 3) := by decide +kernel
theorem dX1_isHopeful_4 : decode cX1_isHopeful 4 = .ok (.iload_n 1, 1) := by decide +kernel
theorem dX1_isHopeful_5 : decode cX1_isHopeful 5 = .ok (.bipush 20, 2) := by decide +kernel
theorem dX1_isHopeful_7 : decode cX1_isHopeful 7 = .ok (.if_icmp .ge 16, 3) := by decide +kernel
theorem dX1_isHopeful_10 : decode cX1_isHopeful 10 = .ok (.aload_n 0, 1) := by decide +kernel
theorem dX1_isHopeful_11 : decode cX1_isHopeful 11 = .ok (.getfield 38, 3) := by decide +kernel
theorem dX1_isHopeful_14 : decode cX1_isHopeful 14 = .ok (.iload_n 1, 1) := by decide +kernel
theorem dX1_isHopeful_15 : decode cX1_isHopeful 15 = .ok (.baload, 1) := by decide +kernel
theorem dX1_isHopeful_16 : decode cX1_isHopeful 16 = .ok (.ifCond .eq 7, 3) := by decide +kernel
theorem dX1_isHopeful_23 : decode cX1_isHopeful 23 = .ok (.iconst 0, 1) := by decide +kernel
theorem dX1_isHopeful_24 : decode cX1_isHopeful 24 = .ok (.ireturn, 1) := by decide +kernel
theorem dX1_findHopeful_0 : decode cX1_findHopeful 0 = .ok (.iconst 0, 1) := by decide +kernel
theorem dX1_findHopeful_1 : decode cX1_findHopeful 1 = .ok (.istore_n 1, 1) := by decide +kernel
theorem dX1_findHopeful_2 : decode cX1_findHopeful 2 = .ok (.iload_n 1, 1) := by decide +kernel
theorem dX1_findHopeful_3 : decode cX1_findHopeful 3 = .ok (.bipush 20, 2) := by decide +kernel
theorem dX1_findHopeful_5 : decode cX1_findHopeful 5 = .ok (.if_icmp .ge 16, 3) := by decide +kernel
theorem dX1_findHopeful_8 : decode cX1_findHopeful 8 = .ok (.aload_n 0, 1) := by decide +kernel
theorem dX1_findHopeful_9 : decode cX1_findHopeful 9 = .ok (.getfield 38, 3) := by decide +kernel
theorem dX1_findHopeful_12 : decode cX1_findHopeful 12 = .ok (.iload_n 1, 1) := by decide +kernel
theorem dX1_findHopeful_13 : decode cX1_findHopeful 13 = .ok (.iconst 0, 1) := by decide +kernel
theorem dX1_findHopeful_14 : decode cX1_findHopeful 14 = .ok (.bastore, 1) := by decide +kernel
theorem dX1_findHopeful_15 : decode cX1_findHopeful 15 = .ok (.iinc 1 1, 3) := by decide +kernel
theorem dX1_findHopeful_18 : decode cX1_findHopeful 18 = .ok (.goto (-16), 3) := by decide +kernel
theorem dX1_findHopeful_21 : decode cX1_findHopeful 21 = .ok (.iconst 0, 1) := by decide +kernel
theorem dX1_findHopeful_22 : decode cX1_findHopeful 22 = .ok (.istore_n 1, 1) := by decide +kernel
theorem dX1_findHopeful_23 : decode cX1_findHopeful 23 = .ok (.iload_n 1, 1) := by decide +kernel
theorem dX1_findHopeful_24 : decode cX1_findHopeful 24 = .ok (.aload_n 0, 1) := by decide +kernel
theorem dX1_findHopeful_25 : decode cX1_findHopeful 25 = .ok (.getfield 46, 3) := by decide +kernel
theorem dX1_findHopeful_28 : decode cX1_findHopeful 28 = .ok (.if_icmp .ge 35, 3) := by decide +kernel
theorem dX1_findHopeful_63 : decode cX1_findHopeful 63 = .ok (.iconst 0, 1) := by decide +kernel
theorem dX1_findHopeful_64 : decode cX1_findHopeful 64 = .ok (.istore_n 1, 1) := by decide +kernel
theorem dX1_findHopeful_65 : decode cX1_findHopeful 65 = .ok (.iload_n 1, 1) := by decide +kernel
theorem dX1_findHopeful_66 : decode cX1_findHopeful 66 = .ok (.bipush 20, 2) := by decide +kernel
theorem dX1_findHopeful_68 : decode cX1_findHopeful 68 = .ok (.if_icmp .ge 37, 3) := by decide +kernel
theorem dX1_findHopeful_71 : decode cX1_findHopeful 71 = .ok (.iconst 0, 1) := by decide +kernel
theorem dX1_findHopeful_72 : decode cX1_findHopeful 72 = .ok (.istore_n 2, 1) := by decide +kernel
theorem dX1_findHopeful_73 : decode cX1_findHopeful 73 = .ok (.iload_n 2, 1) := by decide +kernel
theorem dX1_findHopeful_74 : decode cX1_findHopeful 74 = .ok (.aload_n 0, 1) := by decide +kernel
theorem dX1_findHopeful_75 : decode cX1_findHopeful 75 = .ok (.getfield 42, 3) := by decide +kernel
theorem dX1_findHopeful_78 : decode cX1_findHopeful 78 = .ok (.if_icmp .ge 21, 3) := by decide +kernel
theorem dX1_findHopeful_99 : decode cX1_findHopeful 99 = .ok (.iinc 1 1, 3) := by decide +kernel
theorem dX1_findHopeful_102 : decode cX1_findHopeful 102 = .ok (.goto (-37), 3) := by decide +kernel
theorem dX1_findHopeful_105 : decode cX1_findHopeful 105 = .ok (.return_, 1) := by decide +kernel
theorem dX2_init_0 : decode cX2_init 0 = .ok (.aload_n 0, 1) := by decide +kernel
theorem dX2_init_1 : decode cX2_init 1 = .ok (.invokespecial 3, 3) := by decide +kernel
theorem dX2_init_4 : decode cX2_init 4 = .ok (.aload_n 0, 1) := by decide +kernel
theorem dX2_init_5 : decode cX2_init 5 = .ok (.aload_n 1, 1) := by decide +kernel
theorem dX2_init_6 : decode cX2_init 6 = .ok (.putfield 9, 3) := by decide +kernel
theorem dX2_init_9 : decode cX2_init 9 = .ok (.return_, 1) := by decide +kernel
set_option maxRecDepth 20000 in
theorem ggX2_read_X1_empty : GoodIn wsX2_read wsX1_empty := goodIn_r _ [8, 9, 10, 138, 139, 140, 141, 142, 143, 144, 145, 146, 147, 148] (by decide +kernel) (by decide +kernel)
set_option maxRecDepth 20000 in
theorem gX2_read_X1_empty : GoodIn wsX2_read (wsV RX2 15 RX1 yX1_empty wsX1_empty) := goodIn_app (goodIn_of _ (by decide +kernel)) ggX2_read_X1_empty
set_option maxRecDepth 20000 in
theorem ggX2_read_X2_advance : GoodIn wsX2_read wsX2_advance := goodIn_r _ [15, 2, 16, 17, 3, 18, 19, 20, 14, 21, 22, 23, 24, 25, 26, 27, 28, 29, 30, 31, 133, 134, 135, 136, 137, 149, 150] (by decide +kernel) (by decide +kernel)
set_option maxRecDepth 20000 in
theorem gX2_read_X2_advance : GoodIn wsX2_read (wsV RX2 27 RX2 yX2_advance wsX2_advance) := goodIn_app (goodIn_of _ (by decide +kernel)) ggX2_read_X2_advance
theorem dX2_read_0 : decode cX2_read 0 = .ok (.aload_n 1, 1) := by decide +kernel
theorem dX2_read_1 : decode cX2_read 1 = .ok (.invokevirtual 15, 3) := by decide +kernel
theorem dX2_read_4 : decode cX2_read 4 = .ok (.aload_n 0, 1) := by decide +kernel
theorem dX2_read_5 : decode cX2_read 5 = .ok (.iconst 0, 1) := by decide +kernel
theorem dX2_read_6 : decode cX2_read 6 = .ok (.putfield 20, 3) := by decide +kernel
theorem dX2_read_9 : decode cX2_read 9 = .ok (.aload_n 0, 1) := by decide +kernel
theorem dX2_read_10 : decode cX2_read 10 = .ok (.iconst 0, 1) := by decide +kernel
theorem dX2_read_11 : decode cX2_read 11 = .ok (.putfield 24, 3) := by decide +kernel
theorem dX2_read_14 : decode cX2_read 14 = .ok (.aload_n 0, 1) := by decide +kernel
theorem dX2_read_15 : decode cX2_read 15 = .ok (.invokevirtual 27, 3) := by decide +kernel
theorem dX2_read_18 : decode cX2_read 18 = .ok (.iconst 0, 1) := by decide +kernel
theorem dX2_read_19 : decode cX2_read 19 = .ok (.istore_n 2, 1) := by decide +kernel
theorem dX2_read_20 : decode cX2_read 20 = .ok (.iload_n 2, 1) := by decide +kernel
theorem dX2_read_21 : decode cX2_read 21 = .ok (.sipush 1600, 3) := by decide +kernel
theorem dX2_read_24 : decode cX2_read 24 = .ok (.if_icmp .ge 62, 3) := by decide +kernel
theorem dX2_read_27 : decode cX2_read 27 = .ok (.aload_n 0, 1) := by decide +kernel
theorem dX2_read_28 : decode cX2_read 28 = .ok (.getfield 20, 3) := by decide +kernel
theorem dX2_read_31 : decode cX2_read 31 = .ok (.ifCond .ne 55, 3) := by decide +kernel
theorem dX2_read_34 : decode cX2_read 34 = .ok (.aload_n 0, 1) := by decide +kernel
theorem dX2_read_35 : decode cX2_read 35 = .ok (.getfield 32, 3) := by decide +kernel
theorem dX2_read_38 : decode cX2_read 38 = .ok (.ifCond .eq 48, 3) := by decide +kernel
theorem dX2_read_86 : decode cX2_read 86 = .ok (.aload_n 0, 1) := by decide +kernel
theorem dX2_read_87 : decode cX2_read 87 = .ok (.getfield 20, 3) := by decide +kernel
theorem dX2_read_90 : decode cX2_read 90 = .ok (.ireturn, 1) := by decide +kernel
set_option maxRecDepth 20000 in
theorem ggX2_advance_X2_runEnd : GoodIn wsX2_advance wsX2_runEnd := goodIn_r _ [9, 3, 10, 11, 12, 13, 14, 15, 16, 17, 18, 8, 19, 20, 21, 22, 23, 24, 25, 26] (by decide +kernel) (by decide +kernel)
set_option maxRecDepth 20000 in
theorem gX2_advance_X2_runEnd : GoodIn wsX2_advance (wsV RX2 109 RX2 yX2_runEnd wsX2_runEnd) := goodIn_app (goodIn_of _ (by decide +kernel)) ggX2_advance_X2_runEnd
set_option maxRecDepth 20000 in
theorem ggX2_advance_X3_signAt : GoodIn wsX2_advance wsX3_signAt := goodIn_r _ [14, 15, 16, 25, 26] (by decide +kernel) (by decide +kernel)
set_option maxRecDepth 20000 in
theorem gX2_advance_X3_signAt : GoodIn wsX2_advance (wsV RX2 113 RX3 yX3_signAt wsX3_signAt) := goodIn_app (goodIn_of _ (by decide +kernel)) ggX2_advance_X3_signAt
set_option maxRecDepth 20000 in
theorem ggX2_advance_X2_sortOf : GoodIn wsX2_advance wsX2_sortOf := goodIn_r _ [19] (by decide +kernel) (by decide +kernel)
set_option maxRecDepth 20000 in
theorem gX2_advance_X2_sortOf : GoodIn wsX2_advance (va_wsS RX2 116 yX2_sortOf wsX2_sortOf) := goodIn_app (goodIn_of _ (by decide +kernel)) ggX2_advance_X2_sortOf
theorem dX2_advance_0 : decode cX2_advance 0 = .ok (.aload_n 0, 1) := by decide +kernel
theorem dX2_advance_1 : decode cX2_advance 1 = .ok (.aload_n 0, 1) := by decide +kernel
theorem dX2_advance_2 : decode cX2_advance 2 = .ok (.aload_n 0, 1) := by decide +kernel
theorem dX2_advance_3 : decode cX2_advance 3 = .ok (.getfield 24, 3) := by decide +kernel
theorem dX2_advance_6 : decode cX2_advance 6 = .ok (.iconst 1, 1) := by decide +kernel
theorem dX2_advance_7 : decode cX2_advance 7 = .ok (.invokevirtual 109, 3) := by decide +kernel
theorem dX2_advance_10 : decode cX2_advance 10 = .ok (.putfield 106, 3) := by decide +kernel
theorem dX2_advance_13 : decode cX2_advance 13 = .ok (.aload_n 0, 1) := by decide +kernel
theorem dX2_advance_14 : decode cX2_advance 14 = .ok (.aload_n 0, 1) := by decide +kernel
theorem dX2_advance_15 : decode cX2_advance 15 = .ok (.getfield 9, 3) := by decide +kernel
theorem dX2_advance_18 : decode cX2_advance 18 = .ok (.aload_n 0, 1) := by decide +kernel
theorem dX2_advance_19 : decode cX2_advance 19 = .ok (.getfield 106, 3) := by decide +kernel
theorem dX2_advance_22 : decode cX2_advance 22 = .ok (.invokevirtual 113, 3) := by decide +kernel
theorem dX2_advance_25 : decode cX2_advance 25 = .ok (.invokestatic 116, 3) := by decide +kernel
theorem dX2_advance_28 : decode cX2_advance 28 = .ok (.putfield 32, 3) := by decide +kernel
theorem dX2_advance_31 : decode cX2_advance 31 = .ok (.aload_n 0, 1) := by decide +kernel
theorem dX2_advance_32 : decode cX2_advance 32 = .ok (.getfield 32, 3) := by decide +kernel
theorem dX2_advance_35 : decode cX2_advance 35 = .ok (.iconst 2, 1) := by decide +kernel
theorem dX2_advance_36 : decode cX2_advance 36 = .ok (.if_icmp .eq 11, 3) := by decide +kernel
theorem dX2_advance_39 : decode cX2_advance 39 = .ok (.aload_n 0, 1) := by decide +kernel
theorem dX2_advance_40 : decode cX2_advance 40 = .ok (.getfield 32, 3) := by decide +kernel
theorem dX2_advance_43 : decode cX2_advance 43 = .ok (.iconst 3, 1) := by decide +kernel
theorem dX2_advance_44 : decode cX2_advance 44 = .ok (.if_icmp .ne 55, 3) := by decide +kernel
theorem dX2_advance_99 : decode cX2_advance 99 = .ok (.aload_n 0, 1) := by decide +kernel
theorem dX2_advance_100 : decode cX2_advance 100 = .ok (.aload_n 0, 1) := by decide +kernel
theorem dX2_advance_101 : decode cX2_advance 101 = .ok (.getfield 32, 3) := by decide +kernel
theorem dX2_advance_104 : decode cX2_advance 104 = .ok (.ifCond .ne 10, 3) := by decide +kernel
theorem dX2_advance_107 : decode cX2_advance 107 = .ok (.aload_n 0, 1) := by decide +kernel
theorem dX2_advance_108 : decode cX2_advance 108 = .ok (.getfield 106, 3) := by decide +kernel
theorem dX2_advance_111 : decode cX2_advance 111 = .ok (.goto 9, 3) := by decide +kernel
theorem dX2_advance_120 : decode cX2_advance 120 = .ok (.putfield 24, 3) := by decide +kernel
theorem dX2_advance_123 : decode cX2_advance 123 = .ok (.return_, 1) := by decide +kernel
theorem dX2_runEnd_0 : decode cX2_runEnd 0 = .ok (.iload_n 1, 1) := by decide +kernel
theorem dX2_runEnd_1 : decode cX2_runEnd 1 = .ok (.istore_n 3, 1) := by decide +kernel
theorem dX2_runEnd_2 : decode cX2_runEnd 2 = .ok (.iload_n 3, 1) := by decide +kernel
theorem dX2_runEnd_3 : decode cX2_runEnd 3 = .ok (.aload_n 0, 1) := by decide +kernel
theorem dX2_runEnd_4 : decode cX2_runEnd 4 = .ok (.getfield 9, 3) := by decide +kernel
theorem dX2_runEnd_7 : decode cX2_runEnd 7 = .ok (.getfield 119, 3) := by decide +kernel
theorem dX2_runEnd_10 : decode cX2_runEnd 10 = .ok (.if_icmp .ge 26, 3) := by decide +kernel
theorem dX2_runEnd_36 : decode cX2_runEnd 36 = .ok (.aload_n 0, 1) := by decide +kernel
theorem dX2_runEnd_37 : decode cX2_runEnd 37 = .ok (.getfield 9, 3) := by decide +kernel
theorem dX2_runEnd_40 : decode cX2_runEnd 40 = .ok (.getfield 119, 3) := by decide +kernel
theorem dX2_runEnd_43 : decode cX2_runEnd 43 = .ok (.ireturn, 1) := by decide +kernel
theorem dX2_sortOf_0 : decode cX2_sortOf 0 = .ok (.iload_n 0, 1) := by decide +kernel
theorem dX2_sortOf_1 : decode cX2_sortOf 1 = .ok (.iconst (-1), 1) := by decide +kernel
theorem dX2_sortOf_2 : decode cX2_sortOf 2 = .ok (.if_icmp .ne 5, 3) := by decide +kernel
theorem dX2_sortOf_5 : decode cX2_sortOf 5 = .ok (.iconst 0, 1) := by decide +kernel
theorem dX2_sortOf_6 : decode cX2_sortOf 6 = .ok (.ireturn, 1) := by decide +kernel
theorem dX3_init_0 : decode cX3_init 0 = .ok (.aload_n 0, 1) := by decide +kernel
theorem dX3_init_1 : decode cX3_init 1 = .ok (.invokespecial 1, 3) := by decide +kernel
theorem dX3_init_4 : decode cX3_init 4 = .ok (.aload_n 0, 1) := by decide +kernel
theorem dX3_init_5 : decode cX3_init 5 = .ok (.sipush 1600, 3) := by decide +kernel
theorem dX3_init_8 : decode cX3_init 8 = .ok (.newarray .char, 2) := by decide +kernel
theorem dX3_init_10 : decode cX3_init 10 = .ok (.putfield 9, 3) := by decide +kernel
theorem dX3_init_13 : decode cX3_init 13 = .ok (.return_, 1) := by decide +kernel
set_option maxRecDepth 20000 in
theorem ggX3_addBytes_X3_addSign : GoodIn wsX3_addBytes wsX3_addSign := goodIn_r _ [5, 6, 7, 8, 9] (by decide +kernel) (by decide +kernel)
set_option maxRecDepth 20000 in
theorem gX3_addBytes_X3_addSign : GoodIn wsX3_addBytes (wsV RX3 13 RX3 yX3_addSign wsX3_addSign) := goodIn_app (goodIn_of _ (by decide +kernel)) ggX3_addBytes_X3_addSign
theorem dX3_addBytes_0 : decode cX3_addBytes 0 = .ok (.bipush 56, 2) := by decide +kernel
theorem dX3_addBytes_2 : decode cX3_addBytes 2 = .ok (.istore_n 3, 1) := by decide +kernel
theorem dX3_addBytes_3 : decode cX3_addBytes 3 = .ok (.iload_n 3, 1) := by decide +kernel
theorem dX3_addBytes_4 : decode cX3_addBytes 4 = .ok (.ifCond .lt 21, 3) := by decide +kernel
theorem dX3_addBytes_7 : decode cX3_addBytes 7 = .ok (.aload_n 0, 1) := by decide +kernel
theorem dX3_addBytes_8 : decode cX3_addBytes 8 = .ok (.lload_n 1, 1) := by decide +kernel
theorem dX3_addBytes_9 : decode cX3_addBytes 9 = .ok (.iload_n 3, 1) := by decide +kernel
theorem dX3_addBytes_10 : decode cX3_addBytes 10 = .ok (.lushr, 1) := by decide +kernel
theorem dX3_addBytes_11 : decode cX3_addBytes 11 = .ok (.l2i, 1) := by decide +kernel
theorem dX3_addBytes_12 : decode cX3_addBytes 12 = .ok (.sipush 255, 3) := by decide +kernel
theorem dX3_addBytes_15 : decode cX3_addBytes 15 = .ok (.iand, 1) := by decide +kernel
theorem dX3_addBytes_16 : decode cX3_addBytes 16 = .ok (.invokevirtual 13, 3) := by decide +kernel
theorem dX3_addBytes_19 : decode cX3_addBytes 19 = .ok (.iinc 3 (-8), 3) := by decide +kernel
theorem dX3_addBytes_22 : decode cX3_addBytes 22 = .ok (.goto (-19), 3) := by decide +kernel
theorem dX3_addBytes_25 : decode cX3_addBytes 25 = .ok (.return_, 1) := by decide +kernel
theorem dX3_addSign_0 : decode cX3_addSign 0 = .ok (.iload_n 1, 1) := by decide +kernel
theorem dX3_addSign_1 : decode cX3_addSign 1 = .ok (.bipush 10, 2) := by decide +kernel
theorem dX3_addSign_3 : decode cX3_addSign 3 = .ok (.if_icmp .eq 15, 3) := by decide +kernel
theorem dX3_addSign_6 : decode cX3_addSign 6 = .ok (.iload_n 1, 1) := by decide +kernel
theorem dX3_addSign_7 : decode cX3_addSign 7 = .ok (.bipush 32, 2) := by decide +kernel
theorem dX3_addSign_9 : decode cX3_addSign 9 = .ok (.if_icmp .lt 13, 3) := by decide +kernel
theorem dX3_addSign_12 : decode cX3_addSign 12 = .ok (.iload_n 1, 1) := by decide +kernel
theorem dX3_addSign_13 : decode cX3_addSign 13 = .ok (.bipush 126, 2) := by decide +kernel
theorem dX3_addSign_15 : decode cX3_addSign 15 = .ok (.if_icmp .gt 7, 3) := by decide +kernel
theorem dX3_addSign_18 : decode cX3_addSign 18 = .ok (.iconst 1, 1) := by decide +kernel
theorem dX3_addSign_19 : decode cX3_addSign 19 = .ok (.goto 4, 3) := by decide +kernel
theorem dX3_addSign_22 : decode cX3_addSign 22 = .ok (.iconst 0, 1) := by decide +kernel
theorem dX3_addSign_23 : decode cX3_addSign 23 = .ok (.istore_n 2, 1) := by decide +kernel
theorem dX3_addSign_24 : decode cX3_addSign 24 = .ok (.iload_n 2, 1) := by decide +kernel
theorem dX3_addSign_25 : decode cX3_addSign 25 = .ok (.ifCond .eq 41, 3) := by decide +kernel
theorem dX3_addSign_28 : decode cX3_addSign 28 = .ok (.aload_n 0, 1) := by decide +kernel
theorem dX3_addSign_29 : decode cX3_addSign 29 = .ok (.getfield 17, 3) := by decide +kernel
theorem dX3_addSign_32 : decode cX3_addSign 32 = .ok (.ifCond .lt 34, 3) := by decide +kernel
theorem dX3_addSign_35 : decode cX3_addSign 35 = .ok (.aload_n 0, 1) := by decide +kernel
theorem dX3_addSign_36 : decode cX3_addSign 36 = .ok (.getfield 17, 3) := by decide +kernel
theorem dX3_addSign_39 : decode cX3_addSign 39 = .ok (.sipush 1600, 3) := by decide +kernel
theorem dX3_addSign_42 : decode cX3_addSign 42 = .ok (.if_icmp .ge 24, 3) := by decide +kernel
theorem dX3_addSign_45 : decode cX3_addSign 45 = .ok (.aload_n 0, 1) := by decide +kernel
theorem dX3_addSign_46 : decode cX3_addSign 46 = .ok (.getfield 9, 3) := by decide +kernel
theorem dX3_addSign_49 : decode cX3_addSign 49 = .ok (.aload_n 0, 1) := by decide +kernel
theorem dX3_addSign_50 : decode cX3_addSign 50 = .ok (.getfield 17, 3) := by decide +kernel
theorem dX3_addSign_53 : decode cX3_addSign 53 = .ok (.iload_n 1, 1) := by decide +kernel
theorem dX3_addSign_54 : decode cX3_addSign 54 = .ok (.i2c, 1) := by decide +kernel
theorem dX3_addSign_55 : decode cX3_addSign 55 = .ok (.castore, 1) := by decide +kernel
theorem dX3_addSign_56 : decode cX3_addSign 56 = .ok (.aload_n 0, 1) := by decide +kernel
theorem dX3_addSign_57 : decode cX3_addSign 57 = .ok (.dup, 1) := by decide +kernel
theorem dX3_addSign_58 : decode cX3_addSign 58 = .ok (.getfield 17, 3) := by decide +kernel
theorem dX3_addSign_61 : decode cX3_addSign 61 = .ok (.iconst 1, 1) := by decide +kernel
theorem dX3_addSign_62 : decode cX3_addSign 62 = .ok (.iadd, 1) := by decide +kernel
theorem dX3_addSign_63 : decode cX3_addSign 63 = .ok (.putfield 17, 3) := by decide +kernel
theorem dX3_addSign_66 : decode cX3_addSign 66 = .ok (.return_, 1) := by decide +kernel
theorem dX3_signAt_0 : decode cX3_signAt 0 = .ok (.iload_n 1, 1) := by decide +kernel
theorem dX3_signAt_1 : decode cX3_signAt 1 = .ok (.ifCond .lt 27, 3) := by decide +kernel
theorem dX3_signAt_4 : decode cX3_signAt 4 = .ok (.iload_n 1, 1) := by decide +kernel
theorem dX3_signAt_5 : decode cX3_signAt 5 = .ok (.aload_n 0, 1) := by decide +kernel
theorem dX3_signAt_6 : decode cX3_signAt 6 = .ok (.getfield 17, 3) := by decide +kernel
theorem dX3_signAt_9 : decode cX3_signAt 9 = .ok (.if_icmp .ge 19, 3) := by decide +kernel
theorem dX3_signAt_28 : decode cX3_signAt 28 = .ok (.iconst (-1), 1) := by decide +kernel
theorem dX3_signAt_29 : decode cX3_signAt 29 = .ok (.ireturn, 1) := by decide +kernel
theorem dX3_empty_0 : decode cX3_empty 0 = .ok (.aload_n 0, 1) := by decide +kernel
theorem dX3_empty_1 : decode cX3_empty 1 = .ok (.iconst 0, 1) := by decide +kernel
theorem dX3_empty_2 : decode cX3_empty 2 = .ok (.putfield 17, 3) := by decide +kernel
theorem dX3_empty_5 : decode cX3_empty 5 = .ok (.return_, 1) := by decide +kernel
set_option maxRecDepth 20000 in
theorem ggX4_init_X3_init : GoodIn wsX4_init wsX3_init := goodIn_r _ [28, 29, 2, 3, 30, 31, 78, 79] (by decide +kernel) (by decide +kernel)
set_option maxRecDepth 20000 in
theorem gX4_init_X3_init_n25 : GoodIn wsX4_init (wsX3_init) := ggX4_init_X3_init
set_option maxRecDepth 20000 in
theorem ggX4_init_X2_init : GoodIn wsX4_init wsX2_init := goodIn_r _ [34, 35, 2, 3, 36, 80, 81, 82, 83, 84] (by decide +kernel) (by decide +kernel)
set_option maxRecDepth 20000 in
theorem gX4_init_X2_init : GoodIn wsX4_init (wsX2_init) := ggX4_init_X2_init
set_option maxRecDepth 20000 in
theorem ggX4_init_X1_init : GoodIn wsX4_init wsX1_init := goodIn_r _ [38, 39, 2, 3, 4, 40, 41, 42, 43, 44, 45, 46, 47, 6, 48, 85, 86, 87, 88, 89, 90, 91, 92, 93, 94, 95] (by decide +kernel) (by decide +kernel)
set_option maxRecDepth 20000 in
theorem gX4_init_X1_init_n41 : GoodIn wsX4_init (wsX1_init) := ggX4_init_X1_init
set_option maxRecDepth 20000 in
theorem ggX4_init_X0_init : GoodIn wsX4_init wsX0_init := goodIn_r _ [51, 52, 2, 3, 4, 53, 54, 55, 56, 57, 58, 59, 60, 61, 62, 63, 64, 65, 66, 96, 97, 98, 99, 100, 101, 102, 103, 104, 105, 106, 107] (by decide +kernel) (by decide +kernel)
set_option maxRecDepth 20000 in
theorem gX4_init_X0_init : GoodIn wsX4_init (wsX0_init) := ggX4_init_X0_init
set_option maxRecDepth 20000 in
theorem ggX4_init_J7_fill_53178 : GoodIn wsX4_init wsJ7_fill_53178 := goodIn_r _ [66] (by decide +kernel) (by decide +kernel)
set_option maxRecDepth 20000 in
theorem gX4_init_J7_fill_53178 : GoodIn wsX4_init (va_wsS RX4 56 yJ7_fill_53178 wsJ7_fill_53178) := goodIn_app (goodIn_of _ (by decide +kernel)) ggX4_init_J7_fill_53178
theorem dX4_init_0 : decode cX4_init 0 = .ok (.aload_n 0, 1) := by decide +kernel
theorem dX4_init_1 : decode cX4_init 1 = .ok (.invokespecial 1, 3) := by decide +kernel
theorem dX4_init_4 : decode cX4_init 4 = .ok (.aload_n 0, 1) := by decide +kernel
theorem dX4_init_5 : decode cX4_init 5 = .ok (.bipush 100, 2) := by decide +kernel
theorem dX4_init_7 : decode cX4_init 7 = .ok (.newarray .int, 2) := by decide +kernel
theorem dX4_init_9 : decode cX4_init 9 = .ok (.putfield 9, 3) := by decide +kernel
theorem dX4_init_12 : decode cX4_init 12 = .ok (.aload_n 0, 1) := by decide +kernel
theorem dX4_init_13 : decode cX4_init 13 = .ok (.bipush 100, 2) := by decide +kernel
theorem dX4_init_15 : decode cX4_init 15 = .ok (.newarray .boolean, 2) := by decide +kernel
theorem dX4_init_17 : decode cX4_init 17 = .ok (.putfield 13, 3) := by decide +kernel
theorem dX4_init_20 : decode cX4_init 20 = .ok (.aload_n 0, 1) := by decide +kernel
theorem dX4_init_21 : decode cX4_init 21 = .ok (.bipush 60, 2) := by decide +kernel
theorem dX4_init_23 : decode cX4_init 23 = .ok (.newarray .int, 2) := by decide +kernel
theorem dX4_init_25 : decode cX4_init 25 = .ok (.putfield 17, 3) := by decide +kernel
theorem dX4_init_28 : decode cX4_init 28 = .ok (.aload_n 0, 1) := by decide +kernel
theorem dX4_init_29 : decode cX4_init 29 = .ok (.bipush 60, 2) := by decide +kernel
theorem dX4_init_31 : decode cX4_init 31 = .ok (.newarray .int, 2) := by decide +kernel
theorem dX4_init_33 : decode cX4_init 33 = .ok (.putfield 20, 3) := by decide +kernel
theorem dX4_init_36 : decode cX4_init 36 = .ok (.aload_n 0, 1) := by decide +kernel
theorem dX4_init_37 : decode cX4_init 37 = .ok (.new 23, 3) := by decide +kernel
theorem dX4_init_40 : decode cX4_init 40 = .ok (.dup, 1) := by decide +kernel
theorem dX4_init_41 : decode cX4_init 41 = .ok (.invokespecial 25, 3) := by decide +kernel
theorem dX4_init_44 : decode cX4_init 44 = .ok (.putfield 26, 3) := by decide +kernel
theorem dX4_init_47 : decode cX4_init 47 = .ok (.aload_n 0, 1) := by decide +kernel
theorem dX4_init_48 : decode cX4_init 48 = .ok (.new 30, 3) := by decide +kernel
theorem dX4_init_51 : decode cX4_init 51 = .ok (.dup, 1) := by decide +kernel
theorem dX4_init_52 : decode cX4_init 52 = .ok (.aload_n 0, 1) := by decide +kernel
theorem dX4_init_53 : decode cX4_init 53 = .ok (.getfield 26, 3) := by decide +kernel
theorem dX4_init_56 : decode cX4_init 56 = .ok (.invokespecial 32, 3) := by decide +kernel
theorem dX4_init_59 : decode cX4_init 59 = .ok (.putfield 35, 3) := by decide +kernel
theorem dX4_init_62 : decode cX4_init 62 = .ok (.aload_n 0, 1) := by decide +kernel
theorem dX4_init_63 : decode cX4_init 63 = .ok (.new 39, 3) := by decide +kernel
theorem dX4_init_66 : decode cX4_init 66 = .ok (.dup, 1) := by decide +kernel
theorem dX4_init_67 : decode cX4_init 67 = .ok (.invokespecial 41, 3) := by decide +kernel
theorem dX4_init_70 : decode cX4_init 70 = .ok (.putfield 42, 3) := by decide +kernel
theorem dX4_init_73 : decode cX4_init 73 = .ok (.aload_n 0, 1) := by decide +kernel
theorem dX4_init_74 : decode cX4_init 74 = .ok (.new 39, 3) := by decide +kernel
theorem dX4_init_77 : decode cX4_init 77 = .ok (.dup, 1) := by decide +kernel
theorem dX4_init_78 : decode cX4_init 78 = .ok (.invokespecial 41, 3) := by decide +kernel
theorem dX4_init_81 : decode cX4_init 81 = .ok (.putfield 46, 3) := by decide +kernel
theorem dX4_init_84 : decode cX4_init 84 = .ok (.aload_n 0, 1) := by decide +kernel
theorem dX4_init_85 : decode cX4_init 85 = .ok (.new 49, 3) := by decide +kernel
theorem dX4_init_88 : decode cX4_init 88 = .ok (.dup, 1) := by decide +kernel
theorem dX4_init_89 : decode cX4_init 89 = .ok (.invokespecial 51, 3) := by decide +kernel
theorem dX4_init_92 : decode cX4_init 92 = .ok (.putfield 52, 3) := by decide +kernel
theorem dX4_init_95 : decode cX4_init 95 = .ok (.aload_n 0, 1) := by decide +kernel
theorem dX4_init_96 : decode cX4_init 96 = .ok (.getfield 9, 3) := by decide +kernel
theorem dX4_init_99 : decode cX4_init 99 = .ok (.iconst 1, 1) := by decide +kernel
theorem dX4_init_100 : decode cX4_init 100 = .ok (.invokestatic 56, 3) := by decide +kernel
theorem dX4_init_103 : decode cX4_init 103 = .ok (.return_, 1) := by decide +kernel
set_option maxRecDepth 20000 in
theorem ggX4_kinds_X4_isWord : GoodIn wsX4_kinds wsX4_isWord := goodIn_r _ [6] (by decide +kernel) (by decide +kernel)
set_option maxRecDepth 20000 in
theorem gX4_kinds_X4_isWord : GoodIn wsX4_kinds (va_wsS RX4 62 yX4_isWord wsX4_isWord) := goodIn_app (goodIn_of _ (by decide +kernel)) ggX4_kinds_X4_isWord
set_option maxRecDepth 20000 in
theorem ggX4_kinds_X4_firstPlaceOf : GoodIn wsX4_kinds wsX4_firstPlaceOf := goodIn_r _ [10, 11, 12, 13, 14, 5, 15, 16, 17, 18, 19, 20, 27, 28, 29, 30, 31, 32, 33, 34, 35, 36] (by decide +kernel) (by decide +kernel)
set_option maxRecDepth 20000 in
theorem gX4_kinds_X4_firstPlaceOf : GoodIn wsX4_kinds (wsV RX4 66 RX4 yX4_firstPlaceOf wsX4_firstPlaceOf) := goodIn_app (goodIn_of _ (by decide +kernel)) ggX4_kinds_X4_firstPlaceOf
set_option maxRecDepth 20000 in
theorem ggX4_kinds_X0_keep : GoodIn wsX4_kinds wsX0_keep := goodIn_r _ [25, 26, 37, 38, 39, 40, 41, 42, 43, 44, 45, 46, 47, 48] (by decide +kernel) (by decide +kernel)
set_option maxRecDepth 20000 in
theorem gX4_kinds_X0_keep : GoodIn wsX4_kinds (wsV RX4 70 RX0 yX0_keep wsX0_keep) := goodIn_app (goodIn_of _ (by decide +kernel)) ggX4_kinds_X0_keep
theorem dX4_kinds_0 : decode cX4_kinds 0 = .ok (.iload_n 1, 1) := by decide +kernel
theorem dX4_kinds_1 : decode cX4_kinds 1 = .ok (.invokestatic 62, 3) := by decide +kernel
theorem dX4_kinds_4 : decode cX4_kinds 4 = .ok (.ifCond .eq 15, 3) := by decide +kernel
theorem dX4_kinds_7 : decode cX4_kinds 7 = .ok (.iload_n 2, 1) := by decide +kernel
theorem dX4_kinds_8 : decode cX4_kinds 8 = .ok (.iconst 1, 1) := by decide +kernel
theorem dX4_kinds_9 : decode cX4_kinds 9 = .ok (.if_icmp .lt 10, 3) := by decide +kernel
theorem dX4_kinds_12 : decode cX4_kinds 12 = .ok (.iload_n 2, 1) := by decide +kernel
theorem dX4_kinds_13 : decode cX4_kinds 13 = .ok (.sipush 255, 3) := by decide +kernel
theorem dX4_kinds_16 : decode cX4_kinds 16 = .ok (.if_icmp .le 5, 3) := by decide +kernel
theorem dX4_kinds_19 : decode cX4_kinds 19 = .ok (.iconst 0, 1) := by decide +kernel
theorem dX4_kinds_20 : decode cX4_kinds 20 = .ok (.ireturn, 1) := by decide +kernel
theorem dX4_kinds_21 : decode cX4_kinds 21 = .ok (.aload_n 0, 1) := by decide +kernel
theorem dX4_kinds_22 : decode cX4_kinds 22 = .ok (.getfield 9, 3) := by decide +kernel
theorem dX4_kinds_25 : decode cX4_kinds 25 = .ok (.iload_n 1, 1) := by decide +kernel
theorem dX4_kinds_26 : decode cX4_kinds 26 = .ok (.iload_n 2, 1) := by decide +kernel
theorem dX4_kinds_27 : decode cX4_kinds 27 = .ok (.iastore, 1) := by decide +kernel
theorem dX4_kinds_28 : decode cX4_kinds 28 = .ok (.aload_n 0, 1) := by decide +kernel
theorem dX4_kinds_29 : decode cX4_kinds 29 = .ok (.getfield 52, 3) := by decide +kernel
theorem dX4_kinds_32 : decode cX4_kinds 32 = .ok (.aload_n 0, 1) := by decide +kernel
theorem dX4_kinds_33 : decode cX4_kinds 33 = .ok (.iload_n 1, 1) := by decide +kernel
theorem dX4_kinds_34 : decode cX4_kinds 34 = .ok (.invokevirtual 66, 3) := by decide +kernel
theorem dX4_kinds_37 : decode cX4_kinds 37 = .ok (.invokevirtual 70, 3) := by decide +kernel
theorem dX4_kinds_40 : decode cX4_kinds 40 = .ok (.iconst 1, 1) := by decide +kernel
theorem dX4_kinds_41 : decode cX4_kinds 41 = .ok (.ireturn, 1) := by decide +kernel
set_option maxRecDepth 20000 in
theorem ggX4_name_X4_isWord : GoodIn wsX4_name wsX4_isWord := goodIn_r _ [5] (by decide +kernel) (by decide +kernel)
set_option maxRecDepth 20000 in
theorem gX4_name_X4_isWord : GoodIn wsX4_name (va_wsS RX4 62 yX4_isWord wsX4_isWord) := goodIn_app (goodIn_of _ (by decide +kernel)) ggX4_name_X4_isWord
theorem dX4_name_0 : decode cX4_name 0 = .ok (.iload_n 1, 1) := by decide +kernel
theorem dX4_name_1 : decode cX4_name 1 = .ok (.invokestatic 62, 3) := by decide +kernel
theorem dX4_name_4 : decode cX4_name 4 = .ok (.ifCond .ne 5, 3) := by decide +kernel
theorem dX4_name_7 : decode cX4_name 7 = .ok (.iconst 0, 1) := by decide +kernel
theorem dX4_name_8 : decode cX4_name 8 = .ok (.ireturn, 1) := by decide +kernel
theorem dX4_name_9 : decode cX4_name 9 = .ok (.aload_n 0, 1) := by decide +kernel
theorem dX4_name_10 : decode cX4_name 10 = .ok (.getfield 13, 3) := by decide +kernel
theorem dX4_name_13 : decode cX4_name 13 = .ok (.iload_n 1, 1) := by decide +kernel
theorem dX4_name_14 : decode cX4_name 14 = .ok (.iload_n 2, 1) := by decide +kernel
theorem dX4_name_15 : decode cX4_name 15 = .ok (.bastore, 1) := by decide +kernel
theorem dX4_name_16 : decode cX4_name 16 = .ok (.iconst 1, 1) := by decide +kernel
theorem dX4_name_17 : decode cX4_name 17 = .ok (.ireturn, 1) := by decide +kernel
set_option maxRecDepth 20000 in
theorem ggX4_word_X4_isWord : GoodIn wsX4_word wsX4_isWord := goodIn_r _ [7] (by decide +kernel) (by decide +kernel)
set_option maxRecDepth 20000 in
theorem gX4_word_X4_isWord : GoodIn wsX4_word (va_wsS RX4 62 yX4_isWord wsX4_isWord) := goodIn_app (goodIn_of _ (by decide +kernel)) ggX4_word_X4_isWord
theorem dX4_word_0 : decode cX4_word 0 = .ok (.iload_n 1, 1) := by decide +kernel
theorem dX4_word_1 : decode cX4_word 1 = .ok (.invokestatic 62, 3) := by decide +kernel
theorem dX4_word_4 : decode cX4_word 4 = .ok (.ifCond .eq 19, 3) := by decide +kernel
theorem dX4_word_7 : decode cX4_word 7 = .ok (.aload_n 0, 1) := by decide +kernel
theorem dX4_word_8 : decode cX4_word 8 = .ok (.getfield 74, 3) := by decide +kernel
theorem dX4_word_11 : decode cX4_word 11 = .ok (.ifCond .lt 12, 3) := by decide +kernel
theorem dX4_word_14 : decode cX4_word 14 = .ok (.aload_n 0, 1) := by decide +kernel
theorem dX4_word_15 : decode cX4_word 15 = .ok (.getfield 74, 3) := by decide +kernel
theorem dX4_word_18 : decode cX4_word 18 = .ok (.bipush 60, 2) := by decide +kernel
theorem dX4_word_20 : decode cX4_word 20 = .ok (.if_icmp .lt 5, 3) := by decide +kernel
theorem dX4_word_23 : decode cX4_word 23 = .ok (.iconst (-1), 1) := by decide +kernel
theorem dX4_word_24 : decode cX4_word 24 = .ok (.ireturn, 1) := by decide +kernel
theorem dX4_word_25 : decode cX4_word 25 = .ok (.aload_n 0, 1) := by decide +kernel
theorem dX4_word_26 : decode cX4_word 26 = .ok (.getfield 17, 3) := by decide +kernel
theorem dX4_word_29 : decode cX4_word 29 = .ok (.aload_n 0, 1) := by decide +kernel
theorem dX4_word_30 : decode cX4_word 30 = .ok (.getfield 74, 3) := by decide +kernel
theorem dX4_word_33 : decode cX4_word 33 = .ok (.iload_n 1, 1) := by decide +kernel
theorem dX4_word_34 : decode cX4_word 34 = .ok (.iastore, 1) := by decide +kernel
theorem dX4_word_35 : decode cX4_word 35 = .ok (.aload_n 0, 1) := by decide +kernel
theorem dX4_word_36 : decode cX4_word 36 = .ok (.getfield 20, 3) := by decide +kernel
theorem dX4_word_39 : decode cX4_word 39 = .ok (.aload_n 0, 1) := by decide +kernel
theorem dX4_word_40 : decode cX4_word 40 = .ok (.getfield 74, 3) := by decide +kernel
theorem dX4_word_43 : decode cX4_word 43 = .ok (.iconst (-1), 1) := by decide +kernel
theorem dX4_word_44 : decode cX4_word 44 = .ok (.iastore, 1) := by decide +kernel
theorem dX4_word_45 : decode cX4_word 45 = .ok (.aload_n 0, 1) := by decide +kernel
theorem dX4_word_46 : decode cX4_word 46 = .ok (.dup, 1) := by decide +kernel
theorem dX4_word_47 : decode cX4_word 47 = .ok (.getfield 74, 3) := by decide +kernel
theorem dX4_word_50 : decode cX4_word 50 = .ok (.iconst 1, 1) := by decide +kernel
theorem dX4_word_51 : decode cX4_word 51 = .ok (.iadd, 1) := by decide +kernel
theorem dX4_word_52 : decode cX4_word 52 = .ok (.putfield 74, 3) := by decide +kernel
theorem dX4_word_55 : decode cX4_word 55 = .ok (.aload_n 0, 1) := by decide +kernel
theorem dX4_word_56 : decode cX4_word 56 = .ok (.getfield 74, 3) := by decide +kernel
theorem dX4_word_59 : decode cX4_word 59 = .ok (.ireturn, 1) := by decide +kernel
theorem dX4_drop_0 : decode cX4_drop 0 = .ok (.aload_n 0, 1) := by decide +kernel
theorem dX4_drop_1 : decode cX4_drop 1 = .ok (.getfield 74, 3) := by decide +kernel
theorem dX4_drop_4 : decode cX4_drop 4 = .ok (.ifCond .gt 5, 3) := by decide +kernel
theorem dX4_drop_7 : decode cX4_drop 7 = .ok (.iconst (-1), 1) := by decide +kernel
theorem dX4_drop_8 : decode cX4_drop 8 = .ok (.ireturn, 1) := by decide +kernel
set_option maxRecDepth 20000 in
theorem ggX4_hand_X4_hasPlace : GoodIn wsX4_hand wsX4_hasPlace := goodIn_r _ [7, 8, 15, 16, 17, 18, 19, 20, 21, 22, 23, 24] (by decide +kernel) (by decide +kernel)
set_option maxRecDepth 20000 in
theorem gX4_hand_X4_hasPlace : GoodIn wsX4_hand (wsV RX4 78 RX4 yX4_hasPlace wsX4_hasPlace) := goodIn_app (goodIn_of _ (by decide +kernel)) ggX4_hand_X4_hasPlace
theorem dX4_hand_0 : decode cX4_hand 0 = .ok (.aload_n 0, 1) := by decide +kernel
theorem dX4_hand_1 : decode cX4_hand 1 = .ok (.iload_n 1, 1) := by decide +kernel
theorem dX4_hand_2 : decode cX4_hand 2 = .ok (.invokevirtual 78, 3) := by decide +kernel
theorem dX4_hand_5 : decode cX4_hand 5 = .ok (.ifCond .eq 23, 3) := by decide +kernel
theorem dX4_hand_28 : decode cX4_hand 28 = .ok (.iconst 0, 1) := by decide +kernel
theorem dX4_hand_29 : decode cX4_hand 29 = .ok (.ireturn, 1) := by decide +kernel
set_option maxRecDepth 20000 in
theorem ggX4_feed_X3_addBytes : GoodIn wsX4_feed wsX3_addBytes := goodIn_r _ [6, 7, 8, 9, 5, 10, 11, 12, 23, 24] (by decide +kernel) (by decide +kernel)
set_option maxRecDepth 20000 in
theorem gX4_feed_X3_addBytes : GoodIn wsX4_feed (wsV RX4 81 RX3 yX3_addBytes wsX3_addBytes) := goodIn_app (goodIn_of _ (by decide +kernel)) ggX4_feed_X3_addBytes
theorem dX4_feed_0 : decode cX4_feed 0 = .ok (.aload_n 0, 1) := by decide +kernel
theorem dX4_feed_1 : decode cX4_feed 1 = .ok (.getfield 26, 3) := by decide +kernel
theorem dX4_feed_4 : decode cX4_feed 4 = .ok (.lload_n 1, 1) := by decide +kernel
theorem dX4_feed_5 : decode cX4_feed 5 = .ok (.invokevirtual 81, 3) := by decide +kernel
theorem dX4_feed_8 : decode cX4_feed 8 = .ok (.aload_n 0, 1) := by decide +kernel
theorem dX4_feed_9 : decode cX4_feed 9 = .ok (.getfield 26, 3) := by decide +kernel
theorem dX4_feed_12 : decode cX4_feed 12 = .ok (.lload_n 3, 1) := by decide +kernel
theorem dX4_feed_13 : decode cX4_feed 13 = .ok (.invokevirtual 81, 3) := by decide +kernel
theorem dX4_feed_16 : decode cX4_feed 16 = .ok (.aload_n 0, 1) := by decide +kernel
theorem dX4_feed_17 : decode cX4_feed 17 = .ok (.getfield 26, 3) := by decide +kernel
theorem dX4_feed_20 : decode cX4_feed 20 = .ok (.lload 5, 2) := by decide +kernel
theorem dX4_feed_22 : decode cX4_feed 22 = .ok (.invokevirtual 81, 3) := by decide +kernel
theorem dX4_feed_25 : decode cX4_feed 25 = .ok (.aload_n 0, 1) := by decide +kernel
theorem dX4_feed_26 : decode cX4_feed 26 = .ok (.getfield 26, 3) := by decide +kernel
theorem dX4_feed_29 : decode cX4_feed 29 = .ok (.getfield 85, 3) := by decide +kernel
theorem dX4_feed_32 : decode cX4_feed 32 = .ok (.ireturn, 1) := by decide +kernel
set_option maxRecDepth 20000 in
theorem ggX4_grammar_X2_read : GoodIn wsX4_grammar wsX2_read := goodIn_r _ [10, 11, 12, 13, 14, 15, 16, 17, 18, 19, 20, 21, 22, 23, 9, 24, 25, 26, 27, 28, 29, 30, 31, 32, 33, 34, 35, 36, 37, 38, 39, 40, 41, 42, 43, 44, 45, 46, 47, 48, 49, 50, 51, 52, 53, 54, 55, 56, 57, 58, 59, 60, 61, 62, 63, 64, 65, 66, 67, 68, 69, 70, 71, 72, 73, 74, 75, 76, 77, 78, 79, 80, 81, 82, 83, 84, 85, 86, 87, 88, 89, 90, 91, 92, 93, 94, 95, 96, 97, 98, 99, 100, 101, 102, 103, 104, 105, 106, 107, 108, 109, 110, 111, 112, 113, 114, 115, 116, 117, 118, 119, 120, 121, 122, 123, 124, 125, 126, 127, 128, 129, 130, 131, 132, 133, 134, 135, 136, 137, 138, 139, 140, 141, 194, 195, 196, 197, 198, 199, 200, 201, 202, 203, 204, 205, 206, 207, 208, 209, 210, 211] (by decide +kernel) (by decide +kernel)
set_option maxRecDepth 20000 in
theorem gX4_grammar_X2_read : GoodIn wsX4_grammar (wsV RX4 88 RX2 yX2_read wsX2_read) := goodIn_app (goodIn_of _ (by decide +kernel)) ggX4_grammar_X2_read
set_option maxRecDepth 20000 in
theorem ggX4_grammar_X3_empty : GoodIn wsX4_grammar wsX3_empty := goodIn_r _ [145, 36, 210, 211] (by decide +kernel) (by decide +kernel)
set_option maxRecDepth 20000 in
theorem gX4_grammar_X3_empty : GoodIn wsX4_grammar (wsV RX4 92 RX3 yX3_empty wsX3_empty) := goodIn_app (goodIn_of _ (by decide +kernel)) ggX4_grammar_X3_empty
set_option maxRecDepth 20000 in
theorem ggX4_grammar_X1_findHopeful : GoodIn wsX4_grammar wsX1_findHopeful := goodIn_r _ [149, 150, 20, 139, 19, 151, 152, 153, 17, 154, 155, 156, 157, 158, 159, 160, 161, 162, 163, 164, 165, 122, 166, 167, 168, 169, 170, 171, 172, 173, 126, 124, 174, 175, 176, 177, 199, 200, 201, 202, 203, 204, 205, 206, 207, 208, 209] (by decide +kernel) (by decide +kernel)
set_option maxRecDepth 20000 in
theorem gX4_grammar_X1_findHopeful : GoodIn wsX4_grammar (wsV RX4 95 RX1 yX1_findHopeful wsX1_findHopeful) := goodIn_app (goodIn_of _ (by decide +kernel)) ggX4_grammar_X1_findHopeful
set_option maxRecDepth 20000 in
theorem ggX4_grammar_X0_keep : GoodIn wsX4_grammar wsX0_keep := goodIn_r _ [182, 183, 212, 213, 214, 215, 216, 217, 218, 219, 220, 221, 222, 223] (by decide +kernel) (by decide +kernel)
set_option maxRecDepth 20000 in
theorem gX4_grammar_X0_keep : GoodIn wsX4_grammar (wsV RX4 70 RX0 yX0_keep wsX0_keep) := goodIn_app (goodIn_of _ (by decide +kernel)) ggX4_grammar_X0_keep
theorem dX4_grammar_0 : decode cX4_grammar 0 = .ok (.aload_n 0, 1) := by decide +kernel
theorem dX4_grammar_1 : decode cX4_grammar 1 = .ok (.getfield 35, 3) := by decide +kernel
theorem dX4_grammar_4 : decode cX4_grammar 4 = .ok (.aload_n 0, 1) := by decide +kernel
theorem dX4_grammar_5 : decode cX4_grammar 5 = .ok (.getfield 46, 3) := by decide +kernel
theorem dX4_grammar_8 : decode cX4_grammar 8 = .ok (.invokevirtual 88, 3) := by decide +kernel
theorem dX4_grammar_11 : decode cX4_grammar 11 = .ok (.istore_n 1, 1) := by decide +kernel
theorem dX4_grammar_12 : decode cX4_grammar 12 = .ok (.aload_n 0, 1) := by decide +kernel
theorem dX4_grammar_13 : decode cX4_grammar 13 = .ok (.getfield 26, 3) := by decide +kernel
theorem dX4_grammar_16 : decode cX4_grammar 16 = .ok (.invokevirtual 92, 3) := by decide +kernel
theorem dX4_grammar_19 : decode cX4_grammar 19 = .ok (.iload_n 1, 1) := by decide +kernel
theorem dX4_grammar_20 : decode cX4_grammar 20 = .ok (.ifCond .ne 36, 3) := by decide +kernel
theorem dX4_grammar_23 : decode cX4_grammar 23 = .ok (.aload_n 0, 1) := by decide +kernel
theorem dX4_grammar_24 : decode cX4_grammar 24 = .ok (.getfield 42, 3) := by decide +kernel
theorem dX4_grammar_27 : decode cX4_grammar 27 = .ok (.astore_n 2, 1) := by decide +kernel
theorem dX4_grammar_28 : decode cX4_grammar 28 = .ok (.aload_n 0, 1) := by decide +kernel
theorem dX4_grammar_29 : decode cX4_grammar 29 = .ok (.aload_n 0, 1) := by decide +kernel
theorem dX4_grammar_30 : decode cX4_grammar 30 = .ok (.getfield 46, 3) := by decide +kernel
theorem dX4_grammar_33 : decode cX4_grammar 33 = .ok (.putfield 42, 3) := by decide +kernel
theorem dX4_grammar_36 : decode cX4_grammar 36 = .ok (.aload_n 0, 1) := by decide +kernel
theorem dX4_grammar_37 : decode cX4_grammar 37 = .ok (.aload_n 2, 1) := by decide +kernel
theorem dX4_grammar_38 : decode cX4_grammar 38 = .ok (.putfield 46, 3) := by decide +kernel
theorem dX4_grammar_41 : decode cX4_grammar 41 = .ok (.aload_n 0, 1) := by decide +kernel
theorem dX4_grammar_42 : decode cX4_grammar 42 = .ok (.getfield 42, 3) := by decide +kernel
theorem dX4_grammar_45 : decode cX4_grammar 45 = .ok (.invokevirtual 95, 3) := by decide +kernel
theorem dX4_grammar_48 : decode cX4_grammar 48 = .ok (.aload_n 0, 1) := by decide +kernel
theorem dX4_grammar_49 : decode cX4_grammar 49 = .ok (.getfield 52, 3) := by decide +kernel
theorem dX4_grammar_52 : decode cX4_grammar 52 = .ok (.iconst 0, 1) := by decide +kernel
theorem dX4_grammar_53 : decode cX4_grammar 53 = .ok (.invokevirtual 70, 3) := by decide +kernel
theorem dX4_grammar_56 : decode cX4_grammar 56 = .ok (.iload_n 1, 1) := by decide +kernel
theorem dX4_grammar_57 : decode cX4_grammar 57 = .ok (.ireturn, 1) := by decide +kernel
set_option maxRecDepth 20000 in
theorem ggX4_cost_X4_solve : GoodIn wsX4_cost wsX4_solve := goodIn_r _ [6, 1, 7, 8, 9, 10, 11, 12, 13, 5, 14, 15, 16, 17, 18, 19, 20, 21, 22, 23, 24, 25, 26, 27, 28, 29, 30, 31, 32, 33, 34, 35, 36, 37, 38, 39, 40, 41, 42, 43, 44, 45, 46, 47, 48, 49, 50, 51, 52, 53, 54, 55, 56, 57, 58, 59, 60, 61, 62, 63, 64, 65, 66, 67, 68, 69, 70, 71, 72, 73, 74, 75, 76, 77, 78, 79, 80, 81, 82, 83, 84, 85, 86, 87, 88, 89, 90, 91, 92, 93, 94, 95, 96, 97, 98, 99, 100, 101, 102, 103, 104, 105, 106, 107, 108, 109, 110, 111, 112, 113, 114, 115, 116, 117, 118, 119, 124, 125, 126, 127, 128, 129, 130, 131, 132, 133, 134, 135, 136, 137, 138, 139, 140, 141, 142, 143, 144, 145, 146, 147, 148, 149, 150, 151, 152, 153, 154, 155, 156] (by decide +kernel) (by decide +kernel)
set_option maxRecDepth 20000 in
theorem gX4_cost_X4_solve : GoodIn wsX4_cost (wsV RX4 98 RX4 yX4_solve wsX4_solve) := goodIn_app (goodIn_of _ (by decide +kernel)) ggX4_cost_X4_solve
set_option maxRecDepth 20000 in
theorem ggX4_cost_X0_isParted : GoodIn wsX4_cost wsX0_isParted := goodIn_r _ [123, 112, 30, 134, 135, 136, 137, 138, 139, 140, 141, 142, 143, 144, 145] (by decide +kernel) (by decide +kernel)
set_option maxRecDepth 20000 in
theorem gX4_cost_X0_isParted : GoodIn wsX4_cost (wsV RX4 101 RX0 yX0_isParted wsX0_isParted) := goodIn_app (goodIn_of _ (by decide +kernel)) ggX4_cost_X0_isParted
theorem dX4_cost_0 : decode cX4_cost 0 = .ok (.aload_n 0, 1) := by decide +kernel
theorem dX4_cost_1 : decode cX4_cost 1 = .ok (.invokevirtual 98, 3) := by decide +kernel
theorem dX4_cost_4 : decode cX4_cost 4 = .ok (.aload_n 0, 1) := by decide +kernel
theorem dX4_cost_5 : decode cX4_cost 5 = .ok (.getfield 52, 3) := by decide +kernel
theorem dX4_cost_8 : decode cX4_cost 8 = .ok (.invokevirtual 101, 3) := by decide +kernel
theorem dX4_cost_11 : decode cX4_cost 11 = .ok (.ifCond .eq 13, 3) := by decide +kernel
theorem dX4_cost_24 : decode cX4_cost 24 = .ok (.iconst (-1), 1) := by decide +kernel
theorem dX4_cost_25 : decode cX4_cost 25 = .ok (.ireturn, 1) := by decide +kernel
set_option maxRecDepth 20000 in
theorem ggX4_second_X4_solve : GoodIn wsX4_second wsX4_solve := goodIn_r _ [6, 1, 7, 8, 9, 10, 11, 12, 13, 5, 14, 15, 16, 17, 18, 19, 20, 21, 22, 23, 24, 25, 26, 27, 28, 29, 30, 31, 32, 33, 34, 35, 36, 37, 38, 39, 40, 41, 42, 43, 44, 45, 46, 47, 48, 49, 50, 51, 52, 53, 54, 55, 56, 57, 58, 59, 60, 61, 62, 63, 64, 65, 66, 67, 68, 69, 70, 71, 72, 73, 74, 75, 76, 77, 78, 79, 80, 81, 82, 83, 84, 85, 86, 87, 88, 89, 90, 91, 92, 93, 94, 95, 96, 97, 98, 99, 100, 101, 102, 103, 104, 105, 106, 107, 108, 109, 110, 111, 112, 113, 114, 115, 116, 117, 118, 119, 124, 125, 126, 127, 128, 129, 130, 131, 132, 133, 134, 135, 136, 137, 138, 139, 140, 141, 142, 143, 144, 145, 146, 147, 148, 149, 150, 151, 152, 153, 154, 155, 156] (by decide +kernel) (by decide +kernel)
set_option maxRecDepth 20000 in
theorem gX4_second_X4_solve : GoodIn wsX4_second (wsV RX4 98 RX4 yX4_solve wsX4_solve) := goodIn_app (goodIn_of _ (by decide +kernel)) ggX4_second_X4_solve
set_option maxRecDepth 20000 in
theorem ggX4_second_X0_isPartedTwice : GoodIn wsX4_second wsX0_isPartedTwice := goodIn_r _ [123, 113, 30, 134, 135, 136, 137, 138, 139, 140, 141, 142, 143, 144, 145] (by decide +kernel) (by decide +kernel)
set_option maxRecDepth 20000 in
theorem gX4_second_X0_isPartedTwice : GoodIn wsX4_second (wsV RX4 108 RX0 yX0_isPartedTwice wsX0_isPartedTwice) := goodIn_app (goodIn_of _ (by decide +kernel)) ggX4_second_X0_isPartedTwice
theorem dX4_second_0 : decode cX4_second 0 = .ok (.aload_n 0, 1) := by decide +kernel
theorem dX4_second_1 : decode cX4_second 1 = .ok (.invokevirtual 98, 3) := by decide +kernel
theorem dX4_second_4 : decode cX4_second 4 = .ok (.aload_n 0, 1) := by decide +kernel
theorem dX4_second_5 : decode cX4_second 5 = .ok (.getfield 52, 3) := by decide +kernel
theorem dX4_second_8 : decode cX4_second 8 = .ok (.invokevirtual 108, 3) := by decide +kernel
theorem dX4_second_11 : decode cX4_second 11 = .ok (.ifCond .eq 13, 3) := by decide +kernel
theorem dX4_second_24 : decode cX4_second 24 = .ok (.iconst (-1), 1) := by decide +kernel
theorem dX4_second_25 : decode cX4_second 25 = .ok (.ireturn, 1) := by decide +kernel
set_option maxRecDepth 20000 in
theorem ggX4_look_X4_solve : GoodIn wsX4_look wsX4_solve := goodIn_r _ [9, 3, 10, 4, 11, 12, 13, 14, 15, 8, 16, 17, 18, 19, 20, 21, 22, 23, 24, 25, 26, 27, 28, 29, 30, 31, 32, 33, 34, 35, 36, 37, 38, 39, 40, 41, 42, 43, 44, 45, 46, 47, 48, 49, 50, 51, 52, 53, 54, 55, 56, 57, 58, 59, 60, 61, 62, 63, 64, 65, 66, 67, 68, 69, 70, 71, 72, 73, 74, 75, 76, 77, 78, 79, 80, 81, 82, 83, 84, 85, 86, 87, 88, 89, 90, 91, 92, 93, 94, 95, 96, 97, 98, 99, 100, 101, 102, 103, 104, 105, 106, 107, 108, 109, 110, 111, 112, 113, 114, 115, 116, 117, 118, 119, 120, 121, 153, 154, 155, 156, 157, 158, 159, 160, 161, 162, 163, 164, 165, 166, 167, 168, 169, 170, 171, 172, 173, 174, 175, 176, 177, 178, 179, 180, 181, 182, 183, 184, 185] (by decide +kernel) (by decide +kernel)
set_option maxRecDepth 20000 in
theorem gX4_look_X4_solve : GoodIn wsX4_look (wsV RX4 98 RX4 yX4_solve wsX4_solve) := goodIn_app (goodIn_of _ (by decide +kernel)) ggX4_look_X4_solve
set_option maxRecDepth 20000 in
theorem ggX4_look_X4_hasPlace : GoodIn wsX4_look wsX4_hasPlace := goodIn_r _ [21, 10, 153, 154, 155, 156, 157, 158, 159, 160, 161, 162] (by decide +kernel) (by decide +kernel)
set_option maxRecDepth 20000 in
theorem gX4_look_X4_hasPlace : GoodIn wsX4_look (wsV RX4 78 RX4 yX4_hasPlace wsX4_hasPlace) := goodIn_app (goodIn_of _ (by decide +kernel)) ggX4_look_X4_hasPlace
theorem dX4_look_0 : decode cX4_look 0 = .ok (.aload_n 0, 1) := by decide +kernel
theorem dX4_look_1 : decode cX4_look 1 = .ok (.invokevirtual 98, 3) := by decide +kernel
theorem dX4_look_4 : decode cX4_look 4 = .ok (.aload_n 0, 1) := by decide +kernel
theorem dX4_look_5 : decode cX4_look 5 = .ok (.iload_n 1, 1) := by decide +kernel
theorem dX4_look_6 : decode cX4_look 6 = .ok (.invokevirtual 78, 3) := by decide +kernel
theorem dX4_look_9 : decode cX4_look 9 = .ok (.ifCond .eq 13, 3) := by decide +kernel
theorem dX4_look_22 : decode cX4_look 22 = .ok (.new 114, 3) := by decide +kernel
theorem dX4_look_25 : decode cX4_look 25 = .ok (.dup, 1) := by decide +kernel
theorem dX4_look_26 : decode cX4_look 26 = .ok (.invokespecial 116, 3) := by decide +kernel
theorem dX4_look_29 : decode cX4_look 29 = .ok (.athrow, 1) := by decide +kernel
set_option maxRecDepth 20000 in
theorem ggX4_last_X4_solve : GoodIn wsX4_last wsX4_solve := goodIn_r _ [6, 1, 7, 8, 9, 10, 11, 12, 13, 5, 14, 15, 16, 17, 18, 19, 20, 21, 22, 23, 24, 25, 26, 27, 28, 29, 30, 31, 32, 33, 34, 35, 36, 37, 38, 39, 40, 41, 42, 43, 44, 45, 46, 47, 48, 49, 50, 51, 52, 53, 54, 55, 56, 57, 58, 59, 60, 61, 62, 63, 64, 65, 66, 67, 68, 69, 70, 71, 72, 73, 74, 75, 76, 77, 78, 79, 80, 81, 82, 83, 84, 85, 86, 87, 88, 89, 90, 91, 92, 93, 94, 95, 96, 97, 98, 99, 100, 101, 102, 103, 104, 105, 106, 107, 108, 109, 110, 111, 112, 113, 114, 115, 116, 117, 118, 119, 124, 125, 126, 127, 128, 129, 130, 131, 132, 133, 134, 135, 136, 137, 138, 139, 140, 141, 142, 143, 144, 145, 146, 147, 148, 149, 150, 151, 152, 153, 154, 155, 156] (by decide +kernel) (by decide +kernel)
set_option maxRecDepth 20000 in
theorem gX4_last_X4_solve : GoodIn wsX4_last (wsV RX4 98 RX4 yX4_solve wsX4_solve) := goodIn_app (goodIn_of _ (by decide +kernel)) ggX4_last_X4_solve
set_option maxRecDepth 20000 in
theorem ggX4_last_X0_isParted : GoodIn wsX4_last wsX0_isParted := goodIn_r _ [123, 112, 30, 134, 135, 136, 137, 138, 139, 140, 141, 142, 143, 144, 145] (by decide +kernel) (by decide +kernel)
set_option maxRecDepth 20000 in
theorem gX4_last_X0_isParted : GoodIn wsX4_last (wsV RX4 101 RX0 yX0_isParted wsX0_isParted) := goodIn_app (goodIn_of _ (by decide +kernel)) ggX4_last_X0_isParted
theorem dX4_last_0 : decode cX4_last 0 = .ok (.aload_n 0, 1) := by decide +kernel
theorem dX4_last_1 : decode cX4_last 1 = .ok (.invokevirtual 98, 3) := by decide +kernel
theorem dX4_last_4 : decode cX4_last 4 = .ok (.aload_n 0, 1) := by decide +kernel
theorem dX4_last_5 : decode cX4_last 5 = .ok (.getfield 52, 3) := by decide +kernel
theorem dX4_last_8 : decode cX4_last 8 = .ok (.invokevirtual 101, 3) := by decide +kernel
theorem dX4_last_11 : decode cX4_last 11 = .ok (.ifCond .eq 13, 3) := by decide +kernel
theorem dX4_last_24 : decode cX4_last 24 = .ok (.iconst (-1), 1) := by decide +kernel
theorem dX4_last_25 : decode cX4_last 25 = .ok (.ireturn, 1) := by decide +kernel
set_option maxRecDepth 20000 in
theorem ggX4_sentences_X4_solve : GoodIn wsX4_sentences wsX4_solve := goodIn_r _ [6, 1, 7, 8, 9, 10, 11, 12, 13, 5, 14, 15, 16, 17, 18, 19, 20, 21, 22, 23, 24, 25, 26, 27, 28, 29, 30, 31, 32, 33, 34, 35, 36, 37, 38, 39, 40, 41, 42, 43, 44, 45, 46, 47, 48, 49, 50, 51, 52, 53, 54, 55, 56, 57, 58, 59, 60, 61, 62, 63, 64, 65, 66, 67, 68, 69, 70, 71, 72, 73, 74, 75, 76, 77, 78, 79, 80, 81, 82, 83, 84, 85, 86, 87, 88, 89, 90, 91, 92, 93, 94, 95, 96, 97, 98, 99, 100, 101, 102, 103, 104, 105, 106, 107, 108, 109, 110, 111, 112, 113, 114, 115, 116, 117, 118, 119, 132, 133, 134, 135, 136, 137, 138, 139, 140, 141, 142, 143, 144, 145, 146, 147, 148, 149, 150, 151, 152, 153, 154, 155, 156, 157, 158, 159, 160, 161, 162, 163, 164] (by decide +kernel) (by decide +kernel)
set_option maxRecDepth 20000 in
theorem gX4_sentences_X4_solve : GoodIn wsX4_sentences (wsV RX4 98 RX4 yX4_solve wsX4_solve) := goodIn_app (goodIn_of _ (by decide +kernel)) ggX4_sentences_X4_solve
set_option maxRecDepth 20000 in
theorem ggX4_sentences_X0_isParted : GoodIn wsX4_sentences wsX0_isParted := goodIn_r _ [123, 112, 30, 142, 143, 144, 145, 146, 147, 148, 149, 150, 151, 152, 153] (by decide +kernel) (by decide +kernel)
set_option maxRecDepth 20000 in
theorem gX4_sentences_X0_isParted : GoodIn wsX4_sentences (wsV RX4 101 RX0 yX0_isParted wsX0_isParted) := goodIn_app (goodIn_of _ (by decide +kernel)) ggX4_sentences_X0_isParted
theorem dX4_sentences_0 : decode cX4_sentences 0 = .ok (.aload_n 0, 1) := by decide +kernel
theorem dX4_sentences_1 : decode cX4_sentences 1 = .ok (.invokevirtual 98, 3) := by decide +kernel
theorem dX4_sentences_4 : decode cX4_sentences 4 = .ok (.aload_n 0, 1) := by decide +kernel
theorem dX4_sentences_5 : decode cX4_sentences 5 = .ok (.getfield 52, 3) := by decide +kernel
theorem dX4_sentences_8 : decode cX4_sentences 8 = .ok (.invokevirtual 101, 3) := by decide +kernel
theorem dX4_sentences_11 : decode cX4_sentences 11 = .ok (.ifCond .eq 15, 3) := by decide +kernel
theorem dX4_sentences_26 : decode cX4_sentences 26 = .ok (.iconst (-1), 1) := by decide +kernel
theorem dX4_sentences_27 : decode cX4_sentences 27 = .ok (.ireturn, 1) := by decide +kernel
set_option maxRecDepth 20000 in
theorem ggX4_settled_X4_solve : GoodIn wsX4_settled wsX4_solve := goodIn_r _ [7, 1, 8, 2, 9, 10, 11, 12, 13, 6, 14, 15, 16, 17, 18, 19, 20, 21, 22, 23, 24, 25, 26, 27, 28, 29, 30, 31, 32, 33, 34, 35, 36, 37, 38, 39, 40, 41, 42, 43, 44, 45, 46, 47, 48, 49, 50, 51, 52, 53, 54, 55, 56, 57, 58, 59, 60, 61, 62, 63, 64, 65, 66, 67, 68, 69, 70, 71, 72, 73, 74, 75, 76, 77, 78, 79, 80, 81, 82, 83, 84, 85, 86, 87, 88, 89, 90, 91, 92, 93, 94, 95, 96, 97, 98, 99, 100, 101, 102, 103, 104, 105, 106, 107, 108, 109, 110, 111, 112, 113, 114, 115, 116, 117, 118, 119, 133, 134, 135, 136, 137, 138, 139, 140, 141, 142, 143, 144, 145, 146, 147, 148, 149, 150, 151, 152, 153, 154, 155, 156, 157, 158, 159, 160, 161, 162, 163, 164, 165] (by decide +kernel) (by decide +kernel)
set_option maxRecDepth 20000 in
theorem gX4_settled_X4_solve : GoodIn wsX4_settled (wsV RX4 98 RX4 yX4_solve wsX4_solve) := goodIn_app (goodIn_of _ (by decide +kernel)) ggX4_settled_X4_solve
set_option maxRecDepth 20000 in
theorem ggX4_settled_X0_sharedSteps : GoodIn wsX4_settled wsX0_sharedSteps := goodIn_r _ [123, 28, 90, 91, 92, 93, 35, 36, 37, 26, 38, 29, 30, 32, 33, 34, 124, 125, 126, 52, 127, 128, 129, 130, 131, 132, 87, 143, 144, 145, 146, 147, 148, 149, 150, 151, 152, 153, 154, 155, 156, 157, 158, 159, 160, 161, 162, 163, 164, 165] (by decide +kernel) (by decide +kernel)
set_option maxRecDepth 20000 in
theorem gX4_settled_X0_sharedSteps : GoodIn wsX4_settled (wsV RX4 150 RX0 yX0_sharedSteps wsX0_sharedSteps) := goodIn_app (goodIn_of _ (by decide +kernel)) ggX4_settled_X0_sharedSteps
theorem dX4_settled_0 : decode cX4_settled 0 = .ok (.aload_n 0, 1) := by decide +kernel
theorem dX4_settled_1 : decode cX4_settled 1 = .ok (.invokevirtual 98, 3) := by decide +kernel
theorem dX4_settled_4 : decode cX4_settled 4 = .ok (.aload_n 0, 1) := by decide +kernel
theorem dX4_settled_5 : decode cX4_settled 5 = .ok (.getfield 52, 3) := by decide +kernel
theorem dX4_settled_8 : decode cX4_settled 8 = .ok (.aload_n 0, 1) := by decide +kernel
theorem dX4_settled_9 : decode cX4_settled 9 = .ok (.getfield 42, 3) := by decide +kernel
theorem dX4_settled_12 : decode cX4_settled 12 = .ok (.invokevirtual 150, 3) := by decide +kernel
theorem dX4_settled_15 : decode cX4_settled 15 = .ok (.ireturn, 1) := by decide +kernel
set_option maxRecDepth 20000 in
theorem ggX4_go_X1_hasGo : GoodIn wsX4_go wsX1_hasGo := goodIn_r _ [6, 7, 18, 19, 20, 21, 22, 23, 24, 25, 26, 27, 28] (by decide +kernel) (by decide +kernel)
set_option maxRecDepth 20000 in
theorem gX4_go_X1_hasGo : GoodIn wsX4_go (wsV RX4 153 RX1 yX1_hasGo wsX1_hasGo) := goodIn_app (goodIn_of _ (by decide +kernel)) ggX4_go_X1_hasGo
theorem dX4_go_0 : decode cX4_go 0 = .ok (.aload_n 0, 1) := by decide +kernel
theorem dX4_go_1 : decode cX4_go 1 = .ok (.getfield 42, 3) := by decide +kernel
theorem dX4_go_4 : decode cX4_go 4 = .ok (.iload_n 1, 1) := by decide +kernel
theorem dX4_go_5 : decode cX4_go 5 = .ok (.invokevirtual 153, 3) := by decide +kernel
theorem dX4_go_8 : decode cX4_go 8 = .ok (.ifCond .ne 5, 3) := by decide +kernel
theorem dX4_go_11 : decode cX4_go 11 = .ok (.iconst (-1), 1) := by decide +kernel
theorem dX4_go_12 : decode cX4_go 12 = .ok (.ireturn, 1) := by decide +kernel
set_option maxRecDepth 20000 in
theorem ggX4_count_X4_handMarks : GoodIn wsX4_count wsX4_handMarks := goodIn_r _ [8, 1, 9, 10, 11, 12, 13, 14, 15, 16, 17, 18, 19] (by decide +kernel) (by decide +kernel)
set_option maxRecDepth 20000 in
theorem gX4_count_X4_handMarks : GoodIn wsX4_count (wsV RX4 177 RX4 yX4_handMarks wsX4_handMarks) := goodIn_app (goodIn_of _ (by decide +kernel)) ggX4_count_X4_handMarks
theorem dX4_count_0 : decode cX4_count 0 = .ok (.iload_n 1, 1) := by decide +kernel
theorem dX4_count_1 : decode cX4_count 1 = .ok (.tableswitch 69 0 4 #[35, 40, 48, 56, 64], 35) := by decide +kernel
theorem dX4_count_36 : decode cX4_count 36 = .ok (.aload_n 0, 1) := by decide +kernel
theorem dX4_count_37 : decode cX4_count 37 = .ok (.getfield 74, 3) := by decide +kernel
theorem dX4_count_40 : decode cX4_count 40 = .ok (.ireturn, 1) := by decide +kernel
theorem dX4_count_41 : decode cX4_count 41 = .ok (.aload_n 0, 1) := by decide +kernel
theorem dX4_count_42 : decode cX4_count 42 = .ok (.getfield 42, 3) := by decide +kernel
theorem dX4_count_45 : decode cX4_count 45 = .ok (.getfield 171, 3) := by decide +kernel
theorem dX4_count_48 : decode cX4_count 48 = .ok (.ireturn, 1) := by decide +kernel
theorem dX4_count_49 : decode cX4_count 49 = .ok (.aload_n 0, 1) := by decide +kernel
theorem dX4_count_50 : decode cX4_count 50 = .ok (.getfield 42, 3) := by decide +kernel
theorem dX4_count_53 : decode cX4_count 53 = .ok (.getfield 174, 3) := by decide +kernel
theorem dX4_count_56 : decode cX4_count 56 = .ok (.ireturn, 1) := by decide +kernel
theorem dX4_count_57 : decode cX4_count 57 = .ok (.aload_n 0, 1) := by decide +kernel
theorem dX4_count_58 : decode cX4_count 58 = .ok (.getfield 26, 3) := by decide +kernel
theorem dX4_count_61 : decode cX4_count 61 = .ok (.getfield 85, 3) := by decide +kernel
theorem dX4_count_64 : decode cX4_count 64 = .ok (.ireturn, 1) := by decide +kernel
theorem dX4_count_65 : decode cX4_count 65 = .ok (.aload_n 0, 1) := by decide +kernel
theorem dX4_count_66 : decode cX4_count 66 = .ok (.invokevirtual 177, 3) := by decide +kernel
theorem dX4_count_69 : decode cX4_count 69 = .ok (.ireturn, 1) := by decide +kernel
theorem dX4_count_70 : decode cX4_count 70 = .ok (.iconst (-1), 1) := by decide +kernel
theorem dX4_count_71 : decode cX4_count 71 = .ok (.ireturn, 1) := by decide +kernel
theorem dX4_isWord_0 : decode cX4_isWord 0 = .ok (.iload_n 0, 1) := by decide +kernel
theorem dX4_isWord_1 : decode cX4_isWord 1 = .ok (.iconst 1, 1) := by decide +kernel
theorem dX4_isWord_2 : decode cX4_isWord 2 = .ok (.if_icmp .lt 13, 3) := by decide +kernel
theorem dX4_isWord_5 : decode cX4_isWord 5 = .ok (.iload_n 0, 1) := by decide +kernel
theorem dX4_isWord_6 : decode cX4_isWord 6 = .ok (.bipush 99, 2) := by decide +kernel
theorem dX4_isWord_8 : decode cX4_isWord 8 = .ok (.if_icmp .gt 7, 3) := by decide +kernel
theorem dX4_isWord_11 : decode cX4_isWord 11 = .ok (.iconst 1, 1) := by decide +kernel
theorem dX4_isWord_12 : decode cX4_isWord 12 = .ok (.goto 4, 3) := by decide +kernel
theorem dX4_isWord_15 : decode cX4_isWord 15 = .ok (.iconst 0, 1) := by decide +kernel
theorem dX4_isWord_16 : decode cX4_isWord 16 = .ok (.ireturn, 1) := by decide +kernel
theorem dX4_hasPlace_0 : decode cX4_hasPlace 0 = .ok (.iload_n 1, 1) := by decide +kernel
theorem dX4_hasPlace_1 : decode cX4_hasPlace 1 = .ok (.ifCond .lt 21, 3) := by decide +kernel
theorem dX4_hasPlace_4 : decode cX4_hasPlace 4 = .ok (.iload_n 1, 1) := by decide +kernel
theorem dX4_hasPlace_5 : decode cX4_hasPlace 5 = .ok (.aload_n 0, 1) := by decide +kernel
theorem dX4_hasPlace_6 : decode cX4_hasPlace 6 = .ok (.getfield 74, 3) := by decide +kernel
theorem dX4_hasPlace_9 : decode cX4_hasPlace 9 = .ok (.if_icmp .ge 13, 3) := by decide +kernel
theorem dX4_hasPlace_22 : decode cX4_hasPlace 22 = .ok (.iconst 0, 1) := by decide +kernel
theorem dX4_hasPlace_23 : decode cX4_hasPlace 23 = .ok (.ireturn, 1) := by decide +kernel
theorem dX4_firstPlaceOf_0 : decode cX4_firstPlaceOf 0 = .ok (.iconst 0, 1) := by decide +kernel
theorem dX4_firstPlaceOf_1 : decode cX4_firstPlaceOf 1 = .ok (.istore_n 2, 1) := by decide +kernel
theorem dX4_firstPlaceOf_2 : decode cX4_firstPlaceOf 2 = .ok (.iload_n 2, 1) := by decide +kernel
theorem dX4_firstPlaceOf_3 : decode cX4_firstPlaceOf 3 = .ok (.aload_n 0, 1) := by decide +kernel
theorem dX4_firstPlaceOf_4 : decode cX4_firstPlaceOf 4 = .ok (.getfield 74, 3) := by decide +kernel
theorem dX4_firstPlaceOf_7 : decode cX4_firstPlaceOf 7 = .ok (.if_icmp .ge 20, 3) := by decide +kernel
theorem dX4_firstPlaceOf_27 : decode cX4_firstPlaceOf 27 = .ok (.aload_n 0, 1) := by decide +kernel
theorem dX4_firstPlaceOf_28 : decode cX4_firstPlaceOf 28 = .ok (.getfield 74, 3) := by decide +kernel
theorem dX4_firstPlaceOf_31 : decode cX4_firstPlaceOf 31 = .ok (.ireturn, 1) := by decide +kernel
theorem dX4_handMarks_0 : decode cX4_handMarks 0 = .ok (.iconst 0, 1) := by decide +kernel
theorem dX4_handMarks_1 : decode cX4_handMarks 1 = .ok (.istore_n 1, 1) := by decide +kernel
theorem dX4_handMarks_2 : decode cX4_handMarks 2 = .ok (.iconst 0, 1) := by decide +kernel
theorem dX4_handMarks_3 : decode cX4_handMarks 3 = .ok (.istore_n 2, 1) := by decide +kernel
theorem dX4_handMarks_4 : decode cX4_handMarks 4 = .ok (.iload_n 2, 1) := by decide +kernel
theorem dX4_handMarks_5 : decode cX4_handMarks 5 = .ok (.aload_n 0, 1) := by decide +kernel
theorem dX4_handMarks_6 : decode cX4_handMarks 6 = .ok (.getfield 74, 3) := by decide +kernel
theorem dX4_handMarks_9 : decode cX4_handMarks 9 = .ok (.if_icmp .ge 28, 3) := by decide +kernel
theorem dX4_handMarks_37 : decode cX4_handMarks 37 = .ok (.iload_n 1, 1) := by decide +kernel
theorem dX4_handMarks_38 : decode cX4_handMarks 38 = .ok (.ireturn, 1) := by decide +kernel
set_option maxRecDepth 20000 in
theorem ggX4_solve_X0_finish : GoodIn wsX4_solve wsX0_finish := goodIn_r _ [107, 26, 108, 109, 110, 111, 24, 65, 9, 66, 31, 32, 33, 22, 34, 25, 28, 29, 30, 90, 91, 92, 48, 93, 94, 95, 72, 73, 74, 75, 76, 67, 68, 69, 70, 71, 112, 113, 114, 115, 81, 86, 87, 88, 89, 27, 126, 127, 128, 129, 130, 131, 132, 133, 134, 135, 136, 137, 138, 139, 140, 141, 142, 143, 144, 145, 146, 147, 148] (by decide +kernel) (by decide +kernel)
set_option maxRecDepth 20000 in
theorem gX4_solve_X0_finish : GoodIn wsX4_solve (wsV RX4 190 RX0 yX0_finish wsX0_finish) := goodIn_app (goodIn_of _ (by decide +kernel)) ggX4_solve_X0_finish
theorem dX4_solve_0 : decode cX4_solve 0 = .ok (.aload_n 0, 1) := by decide +kernel
theorem dX4_solve_1 : decode cX4_solve 1 = .ok (.getfield 52, 3) := by decide +kernel
theorem dX4_solve_4 : decode cX4_solve 4 = .ok (.getfield 183, 3) := by decide +kernel
theorem dX4_solve_7 : decode cX4_solve 7 = .ok (.istore_n 1, 1) := by decide +kernel
theorem dX4_solve_8 : decode cX4_solve 8 = .ok (.iload_n 1, 1) := by decide +kernel
theorem dX4_solve_9 : decode cX4_solve 9 = .ok (.aload_n 0, 1) := by decide +kernel
theorem dX4_solve_10 : decode cX4_solve 10 = .ok (.getfield 74, 3) := by decide +kernel
theorem dX4_solve_13 : decode cX4_solve 13 = .ok (.if_icmp .ge 55, 3) := by decide +kernel
theorem dX4_solve_68 : decode cX4_solve 68 = .ok (.aload_n 0, 1) := by decide +kernel
theorem dX4_solve_69 : decode cX4_solve 69 = .ok (.getfield 52, 3) := by decide +kernel
theorem dX4_solve_72 : decode cX4_solve 72 = .ok (.aload_n 0, 1) := by decide +kernel
theorem dX4_solve_73 : decode cX4_solve 73 = .ok (.getfield 42, 3) := by decide +kernel
theorem dX4_solve_76 : decode cX4_solve 76 = .ok (.invokevirtual 190, 3) := by decide +kernel
theorem dX4_solve_79 : decode cX4_solve 79 = .ok (.return_, 1) := by decide +kernel
theorem dX5_thrown_0 : decode cX5_thrown 0 = .ok (.aload_n 0, 1) := by decide +kernel
theorem dX5_thrown_1 : decode cX5_thrown 1 = .ok (.getfield 1, 3) := by decide +kernel
theorem dX5_thrown_4 : decode cX5_thrown 4 = .ok (.ireturn, 1) := by decide +kernel
set_option maxRecDepth 20000 in
theorem ggX5_feed_X5_lay : GoodIn wsX5_feed wsX5_lay := goodIn_r _ [7, 2, 8, 9, 10, 11, 12, 13, 14, 15, 16, 17, 18, 19, 20, 21, 22, 23, 24, 25, 26, 27, 28, 29, 30, 31, 32, 33, 34, 35, 36, 37, 38] (by decide +kernel) (by decide +kernel)
set_option maxRecDepth 20000 in
theorem gX5_feed_X5_lay : GoodIn wsX5_feed (wsV RX5 7 RX5 yX5_lay wsX5_lay) := goodIn_app (goodIn_of _ (by decide +kernel)) ggX5_feed_X5_lay
theorem dX5_feed_0 : decode cX5_feed 0 = .ok (.aload_n 0, 1) := by decide +kernel
theorem dX5_feed_1 : decode cX5_feed 1 = .ok (.iconst 0, 1) := by decide +kernel
theorem dX5_feed_2 : decode cX5_feed 2 = .ok (.putfield 1, 3) := by decide +kernel
theorem dX5_feed_5 : decode cX5_feed 5 = .ok (.aload_n 0, 1) := by decide +kernel
theorem dX5_feed_6 : decode cX5_feed 6 = .ok (.lload_n 1, 1) := by decide +kernel
theorem dX5_feed_7 : decode cX5_feed 7 = .ok (.invokevirtual 7, 3) := by decide +kernel
theorem dX5_feed_10 : decode cX5_feed 10 = .ok (.aload_n 0, 1) := by decide +kernel
theorem dX5_feed_11 : decode cX5_feed 11 = .ok (.lload_n 3, 1) := by decide +kernel
theorem dX5_feed_12 : decode cX5_feed 12 = .ok (.invokevirtual 7, 3) := by decide +kernel
theorem dX5_feed_15 : decode cX5_feed 15 = .ok (.aload_n 0, 1) := by decide +kernel
theorem dX5_feed_16 : decode cX5_feed 16 = .ok (.lload 5, 2) := by decide +kernel
theorem dX5_feed_18 : decode cX5_feed 18 = .ok (.invokevirtual 7, 3) := by decide +kernel
theorem dX5_feed_21 : decode cX5_feed 21 = .ok (.aload_n 0, 1) := by decide +kernel
theorem dX5_feed_22 : decode cX5_feed 22 = .ok (.getfield 11, 3) := by decide +kernel
theorem dX5_feed_25 : decode cX5_feed 25 = .ok (.ireturn, 1) := by decide +kernel
theorem dX5_lay_0 : decode cX5_lay 0 = .ok (.bipush 56, 2) := by decide +kernel
theorem dX5_lay_2 : decode cX5_lay 2 = .ok (.istore_n 3, 1) := by decide +kernel
theorem dX5_lay_3 : decode cX5_lay 3 = .ok (.iload_n 3, 1) := by decide +kernel
theorem dX5_lay_4 : decode cX5_lay 4 = .ok (.ifCond .lt 71, 3) := by decide +kernel
theorem dX5_lay_7 : decode cX5_lay 7 = .ok (.lload_n 1, 1) := by decide +kernel
theorem dX5_lay_8 : decode cX5_lay 8 = .ok (.iload_n 3, 1) := by decide +kernel
theorem dX5_lay_9 : decode cX5_lay 9 = .ok (.lshr, 1) := by decide +kernel
theorem dX5_lay_10 : decode cX5_lay 10 = .ok (.l2i, 1) := by decide +kernel
theorem dX5_lay_11 : decode cX5_lay 11 = .ok (.sipush 255, 3) := by decide +kernel
theorem dX5_lay_14 : decode cX5_lay 14 = .ok (.iand, 1) := by decide +kernel
theorem dX5_lay_15 : decode cX5_lay 15 = .ok (.istore 4, 2) := by decide +kernel
theorem dX5_lay_17 : decode cX5_lay 17 = .ok (.iload 4, 2) := by decide +kernel
theorem dX5_lay_19 : decode cX5_lay 19 = .ok (.bipush 10, 2) := by decide +kernel
theorem dX5_lay_21 : decode cX5_lay 21 = .ok (.if_icmp .eq 17, 3) := by decide +kernel
theorem dX5_lay_24 : decode cX5_lay 24 = .ok (.iload 4, 2) := by decide +kernel
theorem dX5_lay_26 : decode cX5_lay 26 = .ok (.bipush 32, 2) := by decide +kernel
theorem dX5_lay_28 : decode cX5_lay 28 = .ok (.if_icmp .lt 41, 3) := by decide +kernel
theorem dX5_lay_31 : decode cX5_lay 31 = .ok (.iload 4, 2) := by decide +kernel
theorem dX5_lay_33 : decode cX5_lay 33 = .ok (.bipush 126, 2) := by decide +kernel
theorem dX5_lay_35 : decode cX5_lay 35 = .ok (.if_icmp .gt 34, 3) := by decide +kernel
theorem dX5_lay_38 : decode cX5_lay 38 = .ok (.aload_n 0, 1) := by decide +kernel
theorem dX5_lay_39 : decode cX5_lay 39 = .ok (.getfield 11, 3) := by decide +kernel
theorem dX5_lay_42 : decode cX5_lay 42 = .ok (.sipush 1600, 3) := by decide +kernel
theorem dX5_lay_45 : decode cX5_lay 45 = .ok (.if_icmp .ge 24, 3) := by decide +kernel
theorem dX5_lay_48 : decode cX5_lay 48 = .ok (.aload_n 0, 1) := by decide +kernel
theorem dX5_lay_49 : decode cX5_lay 49 = .ok (.getfield 14, 3) := by decide +kernel
theorem dX5_lay_52 : decode cX5_lay 52 = .ok (.aload_n 0, 1) := by decide +kernel
theorem dX5_lay_53 : decode cX5_lay 53 = .ok (.getfield 11, 3) := by decide +kernel
theorem dX5_lay_56 : decode cX5_lay 56 = .ok (.iload 4, 2) := by decide +kernel
theorem dX5_lay_58 : decode cX5_lay 58 = .ok (.iastore, 1) := by decide +kernel
theorem dX5_lay_59 : decode cX5_lay 59 = .ok (.aload_n 0, 1) := by decide +kernel
theorem dX5_lay_60 : decode cX5_lay 60 = .ok (.dup, 1) := by decide +kernel
theorem dX5_lay_61 : decode cX5_lay 61 = .ok (.getfield 11, 3) := by decide +kernel
theorem dX5_lay_64 : decode cX5_lay 64 = .ok (.iconst 1, 1) := by decide +kernel
theorem dX5_lay_65 : decode cX5_lay 65 = .ok (.iadd, 1) := by decide +kernel
theorem dX5_lay_66 : decode cX5_lay 66 = .ok (.putfield 11, 3) := by decide +kernel
theorem dX5_lay_69 : decode cX5_lay 69 = .ok (.iinc 3 (-8), 3) := by decide +kernel
theorem dX5_lay_72 : decode cX5_lay 72 = .ok (.goto (-69), 3) := by decide +kernel
theorem dX5_lay_75 : decode cX5_lay 75 = .ok (.return_, 1) := by decide +kernel
theorem dX5_init_0 : decode cX5_init 0 = .ok (.aload_n 0, 1) := by decide +kernel
theorem dX5_init_1 : decode cX5_init 1 = .ok (.invokespecial 18, 3) := by decide +kernel
theorem dX5_init_4 : decode cX5_init 4 = .ok (.aload_n 0, 1) := by decide +kernel
theorem dX5_init_5 : decode cX5_init 5 = .ok (.sipush 1600, 3) := by decide +kernel
theorem dX5_init_8 : decode cX5_init 8 = .ok (.newarray .int, 2) := by decide +kernel
theorem dX5_init_10 : decode cX5_init 10 = .ok (.putfield 14, 3) := by decide +kernel
theorem dX5_init_13 : decode cX5_init 13 = .ok (.aload_n 0, 1) := by decide +kernel
theorem dX5_init_14 : decode cX5_init 14 = .ok (.sipush 1602, 3) := by decide +kernel
theorem dX5_init_17 : decode cX5_init 17 = .ok (.newarray .int, 2) := by decide +kernel
theorem dX5_init_19 : decode cX5_init 19 = .ok (.putfield 24, 3) := by decide +kernel
theorem dX5_init_22 : decode cX5_init 22 = .ok (.aload_n 0, 1) := by decide +kernel
theorem dX5_init_23 : decode cX5_init 23 = .ok (.sipush 1602, 3) := by decide +kernel
theorem dX5_init_26 : decode cX5_init 26 = .ok (.newarray .int, 2) := by decide +kernel
theorem dX5_init_28 : decode cX5_init 28 = .ok (.putfield 27, 3) := by decide +kernel
theorem dX5_init_31 : decode cX5_init 31 = .ok (.aload_n 0, 1) := by decide +kernel
theorem dX5_init_32 : decode cX5_init 32 = .ok (.sipush 1602, 3) := by decide +kernel
theorem dX5_init_35 : decode cX5_init 35 = .ok (.newarray .long, 2) := by decide +kernel
theorem dX5_init_37 : decode cX5_init 37 = .ok (.putfield 30, 3) := by decide +kernel
theorem dX5_init_40 : decode cX5_init 40 = .ok (.aload_n 0, 1) := by decide +kernel
theorem dX5_init_41 : decode cX5_init 41 = .ok (.bipush 12, 2) := by decide +kernel
theorem dX5_init_43 : decode cX5_init 43 = .ok (.newarray .long, 2) := by decide +kernel
theorem dX5_init_45 : decode cX5_init 45 = .ok (.dup, 1) := by decide +kernel
theorem dX5_init_46 : decode cX5_init 46 = .ok (.iconst 0, 1) := by decide +kernel
theorem dX5_init_47 : decode cX5_init 47 = .ok (.ldc2_w 34, 3) := by decide +kernel
theorem dX5_init_50 : decode cX5_init 50 = .ok (.lastore, 1) := by decide +kernel
theorem dX5_init_51 : decode cX5_init 51 = .ok (.dup, 1) := by decide +kernel
theorem dX5_init_52 : decode cX5_init 52 = .ok (.iconst 1, 1) := by decide +kernel
theorem dX5_init_53 : decode cX5_init 53 = .ok (.ldc2_w 36, 3) := by decide +kernel
theorem dX5_init_56 : decode cX5_init 56 = .ok (.lastore, 1) := by decide +kernel
theorem dX5_init_57 : decode cX5_init 57 = .ok (.dup, 1) := by decide +kernel
theorem dX5_init_58 : decode cX5_init 58 = .ok (.iconst 2, 1) := by decide +kernel
theorem dX5_init_59 : decode cX5_init 59 = .ok (.ldc2_w 38, 3) := by decide +kernel
theorem dX5_init_62 : decode cX5_init 62 = .ok (.lastore, 1) := by decide +kernel
theorem dX5_init_63 : decode cX5_init 63 = .ok (.dup, 1) := by decide +kernel
theorem dX5_init_64 : decode cX5_init 64 = .ok (.iconst 3, 1) := by decide +kernel
theorem dX5_init_65 : decode cX5_init 65 = .ok (.ldc2_w 40, 3) := by decide +kernel
theorem dX5_init_68 : decode cX5_init 68 = .ok (.lastore, 1) := by decide +kernel
theorem dX5_init_69 : decode cX5_init 69 = .ok (.dup, 1) := by decide +kernel
theorem dX5_init_70 : decode cX5_init 70 = .ok (.iconst 4, 1) := by decide +kernel
theorem dX5_init_71 : decode cX5_init 71 = .ok (.ldc2_w 42, 3) := by decide +kernel
theorem dX5_init_74 : decode cX5_init 74 = .ok (.lastore, 1) := by decide +kernel
theorem dX5_init_75 : decode cX5_init 75 = .ok (.dup, 1) := by decide +kernel
theorem dX5_init_76 : decode cX5_init 76 = .ok (.iconst 5, 1) := by decide +kernel
theorem dX5_init_77 : decode cX5_init 77 = .ok (.ldc2_w 44, 3) := by decide +kernel
theorem dX5_init_80 : decode cX5_init 80 = .ok (.lastore, 1) := by decide +kernel
theorem dX5_init_81 : decode cX5_init 81 = .ok (.dup, 1) := by decide +kernel
theorem dX5_init_82 : decode cX5_init 82 = .ok (.bipush 6, 2) := by decide +kernel
theorem dX5_init_84 : decode cX5_init 84 = .ok (.ldc2_w 46, 3) := by decide +kernel
theorem dX5_init_87 : decode cX5_init 87 = .ok (.lastore, 1) := by decide +kernel
theorem dX5_init_88 : decode cX5_init 88 = .ok (.dup, 1) := by decide +kernel
theorem dX5_init_89 : decode cX5_init 89 = .ok (.bipush 7, 2) := by decide +kernel
theorem dX5_init_91 : decode cX5_init 91 = .ok (.ldc2_w 48, 3) := by decide +kernel
theorem dX5_init_94 : decode cX5_init 94 = .ok (.lastore, 1) := by decide +kernel
theorem dX5_init_95 : decode cX5_init 95 = .ok (.dup, 1) := by decide +kernel
theorem dX5_init_96 : decode cX5_init 96 = .ok (.bipush 8, 2) := by decide +kernel
theorem dX5_init_98 : decode cX5_init 98 = .ok (.ldc2_w 50, 3) := by decide +kernel
theorem dX5_init_101 : decode cX5_init 101 = .ok (.lastore, 1) := by decide +kernel
theorem dX5_init_102 : decode cX5_init 102 = .ok (.dup, 1) := by decide +kernel
theorem dX5_init_103 : decode cX5_init 103 = .ok (.bipush 9, 2) := by decide +kernel
theorem dX5_init_105 : decode cX5_init 105 = .ok (.ldc2_w 52, 3) := by decide +kernel
theorem dX5_init_108 : decode cX5_init 108 = .ok (.lastore, 1) := by decide +kernel
theorem dX5_init_109 : decode cX5_init 109 = .ok (.dup, 1) := by decide +kernel
theorem dX5_init_110 : decode cX5_init 110 = .ok (.bipush 10, 2) := by decide +kernel
theorem dX5_init_112 : decode cX5_init 112 = .ok (.ldc2_w 54, 3) := by decide +kernel
theorem dX5_init_115 : decode cX5_init 115 = .ok (.lastore, 1) := by decide +kernel
theorem dX5_init_116 : decode cX5_init 116 = .ok (.dup, 1) := by decide +kernel

set_option maxRecDepth 20000 in
theorem ggX0_init_J7_fill_53178 : GoodIn wsX0_init wsJ7_fill_53178 := goodIn_r _ [18] (by decide +kernel) (by decide +kernel)
set_option maxRecDepth 20000 in
theorem gX0_init_J7_fill_53178 : GoodIn wsX0_init (va_wsS RX0 41 yJ7_fill_53178 wsJ7_fill_53178) := goodIn_app (goodIn_of _ (by decide +kernel)) ggX0_init_J7_fill_53178
theorem dX0_init_0 : decode cX0_init 0 = .ok (.aload_n 0, 1) := by decide +kernel
theorem dX0_init_1 : decode cX0_init 1 = .ok (.invokespecial 5, 3) := by decide +kernel
theorem dX0_init_4 : decode cX0_init 4 = .ok (.aload_n 0, 1) := by decide +kernel
theorem dX0_init_5 : decode cX0_init 5 = .ok (.sipush 1220, 3) := by decide +kernel
theorem dX0_init_8 : decode cX0_init 8 = .ok (.newarray .int, 2) := by decide +kernel
theorem dX0_init_10 : decode cX0_init 10 = .ok (.putfield 11, 3) := by decide +kernel
theorem dX0_init_13 : decode cX0_init 13 = .ok (.aload_n 0, 1) := by decide +kernel
theorem dX0_init_14 : decode cX0_init 14 = .ok (.sipush 1220, 3) := by decide +kernel
theorem dX0_init_17 : decode cX0_init 17 = .ok (.newarray .int, 2) := by decide +kernel
theorem dX0_init_19 : decode cX0_init 19 = .ok (.putfield 15, 3) := by decide +kernel
theorem dX0_init_22 : decode cX0_init 22 = .ok (.aload_n 0, 1) := by decide +kernel
theorem dX0_init_23 : decode cX0_init 23 = .ok (.sipush 1220, 3) := by decide +kernel
theorem dX0_init_26 : decode cX0_init 26 = .ok (.newarray .int, 2) := by decide +kernel
theorem dX0_init_28 : decode cX0_init 28 = .ok (.putfield 18, 3) := by decide +kernel
theorem dX0_init_31 : decode cX0_init 31 = .ok (.aload_n 0, 1) := by decide +kernel
theorem dX0_init_32 : decode cX0_init 32 = .ok (.sipush 1220, 3) := by decide +kernel
theorem dX0_init_35 : decode cX0_init 35 = .ok (.newarray .int, 2) := by decide +kernel
theorem dX0_init_37 : decode cX0_init 37 = .ok (.putfield 21, 3) := by decide +kernel
theorem dX0_init_40 : decode cX0_init 40 = .ok (.aload_n 0, 1) := by decide +kernel
theorem dX0_init_41 : decode cX0_init 41 = .ok (.sipush 1220, 3) := by decide +kernel
theorem dX0_init_44 : decode cX0_init 44 = .ok (.newarray .int, 2) := by decide +kernel
theorem dX0_init_46 : decode cX0_init 46 = .ok (.putfield 24, 3) := by decide +kernel
theorem dX0_init_49 : decode cX0_init 49 = .ok (.aload_n 0, 1) := by decide +kernel
theorem dX0_init_50 : decode cX0_init 50 = .ok (.sipush 1220, 3) := by decide +kernel
theorem dX0_init_53 : decode cX0_init 53 = .ok (.newarray .int, 2) := by decide +kernel
theorem dX0_init_55 : decode cX0_init 55 = .ok (.putfield 27, 3) := by decide +kernel
theorem dX0_init_58 : decode cX0_init 58 = .ok (.aload_n 0, 1) := by decide +kernel
theorem dX0_init_59 : decode cX0_init 59 = .ok (.bipush 20, 2) := by decide +kernel
theorem dX0_init_61 : decode cX0_init 61 = .ok (.newarray .int, 2) := by decide +kernel
theorem dX0_init_63 : decode cX0_init 63 = .ok (.putfield 30, 3) := by decide +kernel
theorem dX0_init_66 : decode cX0_init 66 = .ok (.aload_n 0, 1) := by decide +kernel
theorem dX0_init_67 : decode cX0_init 67 = .ok (.ldc 33, 2) := by decide +kernel
theorem dX0_init_69 : decode cX0_init 69 = .ok (.putfield 34, 3) := by decide +kernel
theorem dX0_init_72 : decode cX0_init 72 = .ok (.aload_n 0, 1) := by decide +kernel
theorem dX0_init_73 : decode cX0_init 73 = .ok (.ldc 33, 2) := by decide +kernel
theorem dX0_init_75 : decode cX0_init 75 = .ok (.putfield 38, 3) := by decide +kernel
theorem dX0_init_78 : decode cX0_init 78 = .ok (.aload_n 0, 1) := by decide +kernel
theorem dX0_init_79 : decode cX0_init 79 = .ok (.getfield 11, 3) := by decide +kernel
theorem dX0_init_82 : decode cX0_init 82 = .ok (.ldc 33, 2) := by decide +kernel
theorem dX0_init_84 : decode cX0_init 84 = .ok (.invokestatic 41, 3) := by decide +kernel
theorem dX0_init_87 : decode cX0_init 87 = .ok (.aload_n 0, 1) := by decide +kernel
theorem dX0_init_88 : decode cX0_init 88 = .ok (.getfield 15, 3) := by decide +kernel
theorem dX0_init_91 : decode cX0_init 91 = .ok (.ldc 33, 2) := by decide +kernel
theorem dX0_init_93 : decode cX0_init 93 = .ok (.invokestatic 41, 3) := by decide +kernel
theorem dX0_init_96 : decode cX0_init 96 = .ok (.aload_n 0, 1) := by decide +kernel
theorem dX0_init_97 : decode cX0_init 97 = .ok (.getfield 11, 3) := by decide +kernel
theorem dX0_init_100 : decode cX0_init 100 = .ok (.iconst 0, 1) := by decide +kernel
theorem dX0_init_101 : decode cX0_init 101 = .ok (.iconst 0, 1) := by decide +kernel
theorem dX0_init_102 : decode cX0_init 102 = .ok (.iastore, 1) := by decide +kernel
theorem dX0_init_103 : decode cX0_init 103 = .ok (.return_, 1) := by decide +kernel
theorem dX0_keep_0 : decode cX0_keep 0 = .ok (.iload_n 1, 1) := by decide +kernel
theorem dX0_keep_1 : decode cX0_keep 1 = .ok (.ifCond .lt 16, 3) := by decide +kernel
theorem dX0_keep_4 : decode cX0_keep 4 = .ok (.iload_n 1, 1) := by decide +kernel
theorem dX0_keep_5 : decode cX0_keep 5 = .ok (.aload_n 0, 1) := by decide +kernel
theorem dX0_keep_6 : decode cX0_keep 6 = .ok (.getfield 47, 3) := by decide +kernel
theorem dX0_keep_9 : decode cX0_keep 9 = .ok (.if_icmp .ge 8, 3) := by decide +kernel
theorem dX0_keep_12 : decode cX0_keep 12 = .ok (.aload_n 0, 1) := by decide +kernel
theorem dX0_keep_13 : decode cX0_keep 13 = .ok (.iload_n 1, 1) := by decide +kernel
theorem dX0_keep_14 : decode cX0_keep 14 = .ok (.putfield 47, 3) := by decide +kernel
theorem dX0_keep_17 : decode cX0_keep 17 = .ok (.return_, 1) := by decide +kernel
theorem dX0_isParted_0 : decode cX0_isParted 0 = .ok (.aload_n 0, 1) := by decide +kernel
theorem dX0_isParted_1 : decode cX0_isParted 1 = .ok (.getfield 34, 3) := by decide +kernel
theorem dX0_isParted_4 : decode cX0_isParted 4 = .ok (.ldc 33, 2) := by decide +kernel
theorem dX0_isParted_6 : decode cX0_isParted 6 = .ok (.if_icmp .ge 7, 3) := by decide +kernel
theorem dX0_isParted_9 : decode cX0_isParted 9 = .ok (.iconst 1, 1) := by decide +kernel
theorem dX0_isParted_10 : decode cX0_isParted 10 = .ok (.goto 4, 3) := by decide +kernel
theorem dX0_isParted_13 : decode cX0_isParted 13 = .ok (.iconst 0, 1) := by decide +kernel
theorem dX0_isParted_14 : decode cX0_isParted 14 = .ok (.ireturn, 1) := by decide +kernel
theorem dX0_isPartedTwice_0 : decode cX0_isPartedTwice 0 = .ok (.aload_n 0, 1) := by decide +kernel
theorem dX0_isPartedTwice_1 : decode cX0_isPartedTwice 1 = .ok (.getfield 38, 3) := by decide +kernel
theorem dX0_isPartedTwice_4 : decode cX0_isPartedTwice 4 = .ok (.ldc 33, 2) := by decide +kernel
theorem dX0_isPartedTwice_6 : decode cX0_isPartedTwice 6 = .ok (.if_icmp .ge 7, 3) := by decide +kernel
theorem dX0_isPartedTwice_9 : decode cX0_isPartedTwice 9 = .ok (.iconst 1, 1) := by decide +kernel
theorem dX0_isPartedTwice_10 : decode cX0_isPartedTwice 10 = .ok (.goto 4, 3) := by decide +kernel
theorem dX0_isPartedTwice_13 : decode cX0_isPartedTwice 13 = .ok (.iconst 0, 1) := by decide +kernel
theorem dX0_isPartedTwice_14 : decode cX0_isPartedTwice 14 = .ok (.ireturn, 1) := by decide +kernel
theorem dX0_cell_0 : decode cX0_cell 0 = .ok (.iload_n 0, 1) := by decide +kernel
theorem dX0_cell_1 : decode cX0_cell 1 = .ok (.ifCond .lt 23, 3) := by decide +kernel
theorem dX0_cell_4 : decode cX0_cell 4 = .ok (.iload_n 0, 1) := by decide +kernel
theorem dX0_cell_5 : decode cX0_cell 5 = .ok (.bipush 60, 2) := by decide +kernel
theorem dX0_cell_7 : decode cX0_cell 7 = .ok (.if_icmp .gt 17, 3) := by decide +kernel
theorem dX0_cell_10 : decode cX0_cell 10 = .ok (.iload_n 1, 1) := by decide +kernel
theorem dX0_cell_11 : decode cX0_cell 11 = .ok (.ifCond .lt 13, 3) := by decide +kernel
theorem dX0_cell_14 : decode cX0_cell 14 = .ok (.iload_n 1, 1) := by decide +kernel
theorem dX0_cell_15 : decode cX0_cell 15 = .ok (.bipush 20, 2) := by decide +kernel
theorem dX0_cell_17 : decode cX0_cell 17 = .ok (.if_icmp .ge 7, 3) := by decide +kernel
theorem dX0_cell_20 : decode cX0_cell 20 = .ok (.iconst 1, 1) := by decide +kernel
theorem dX0_cell_21 : decode cX0_cell 21 = .ok (.goto 4, 3) := by decide +kernel
theorem dX0_cell_24 : decode cX0_cell 24 = .ok (.iconst 0, 1) := by decide +kernel
theorem dX0_cell_25 : decode cX0_cell 25 = .ok (.istore_n 2, 1) := by decide +kernel
theorem dX0_cell_26 : decode cX0_cell 26 = .ok (.iload_n 2, 1) := by decide +kernel
theorem dX0_cell_27 : decode cX0_cell 27 = .ok (.ifCond .eq 12, 3) := by decide +kernel
theorem dX0_cell_30 : decode cX0_cell 30 = .ok (.iload_n 0, 1) := by decide +kernel
theorem dX0_cell_31 : decode cX0_cell 31 = .ok (.bipush 20, 2) := by decide +kernel
theorem dX0_cell_33 : decode cX0_cell 33 = .ok (.imul, 1) := by decide +kernel
theorem dX0_cell_34 : decode cX0_cell 34 = .ok (.iload_n 1, 1) := by decide +kernel
theorem dX0_cell_35 : decode cX0_cell 35 = .ok (.iadd, 1) := by decide +kernel
theorem dX0_cell_36 : decode cX0_cell 36 = .ok (.goto 4, 3) := by decide +kernel
theorem dX0_cell_39 : decode cX0_cell 39 = .ok (.iconst 0, 1) := by decide +kernel
theorem dX0_cell_40 : decode cX0_cell 40 = .ok (.ireturn, 1) := by decide +kernel
set_option maxRecDepth 20000 in
theorem ggX0_extend_X0_cell : GoodIn wsX0_extend wsX0_cell := goodIn_r _ [8] (by decide +kernel) (by decide +kernel)
set_option maxRecDepth 20000 in
theorem gX0_extend_X0_cell : GoodIn wsX0_extend (va_wsS RX0 50 yX0_cell wsX0_cell) := goodIn_app (goodIn_of _ (by decide +kernel)) ggX0_extend_X0_cell
set_option maxRecDepth 20000 in
theorem ggX0_extend_X0_isReached : GoodIn wsX0_extend wsX0_isReached := goodIn_r _ [12, 2, 1, 3, 5, 6, 7, 8, 83, 84, 85, 86, 87, 88, 89, 90, 91, 92, 93, 94] (by decide +kernel) (by decide +kernel)
set_option maxRecDepth 20000 in
theorem gX0_extend_X0_isReached : GoodIn wsX0_extend (wsV RX0 54 RX0 yX0_isReached wsX0_isReached) := goodIn_app (goodIn_of _ (by decide +kernel)) ggX0_extend_X0_isReached
set_option maxRecDepth 20000 in
theorem ggX0_extend_X0_stepFrom : GoodIn wsX0_extend wsX0_stepFrom := goodIn_r _ [16, 1, 17, 18, 19, 7, 20, 21, 22, 23, 24, 25, 26, 27, 28, 29, 30, 31, 32, 33, 34, 35, 36, 37, 38, 39, 40, 41, 42, 43, 44, 45, 46, 47, 48, 49, 50, 51, 52, 53, 54, 55, 56, 57, 58, 59, 2, 60, 61, 4, 62, 63, 64, 65, 66, 67, 68, 3, 5, 6, 8, 69, 70, 71, 72, 73, 74, 83, 84, 85, 86, 87, 88, 89, 90, 91, 92, 93, 94, 95, 96, 97, 98, 99, 100, 101, 102, 103, 104, 105] (by decide +kernel) (by decide +kernel)
set_option maxRecDepth 20000 in
theorem gX0_extend_X0_stepFrom : GoodIn wsX0_extend (wsV RX0 58 RX0 yX0_stepFrom wsX0_stepFrom) := goodIn_app (goodIn_of _ (by decide +kernel)) ggX0_extend_X0_stepFrom
set_option maxRecDepth 20000 in
theorem ggX0_extend_X0_rankLevel : GoodIn wsX0_extend wsX0_rankLevel := goodIn_r _ [78, 60, 1, 9, 10, 11, 7, 12, 2, 3, 5, 6, 8, 79, 80, 81, 82, 61, 83, 84, 85, 86, 87, 88, 89, 90, 91, 92, 93, 94] (by decide +kernel) (by decide +kernel)
set_option maxRecDepth 20000 in
theorem gX0_extend_X0_rankLevel : GoodIn wsX0_extend (wsV RX0 62 RX0 yX0_rankLevel wsX0_rankLevel) := goodIn_app (goodIn_of _ (by decide +kernel)) ggX0_extend_X0_rankLevel
theorem dX0_extend_0 : decode cX0_extend 0 = .ok (.aload_n 0, 1) := by decide +kernel
theorem dX0_extend_1 : decode cX0_extend 1 = .ok (.getfield 47, 3) := by decide +kernel
theorem dX0_extend_4 : decode cX0_extend 4 = .ok (.ifCond .lt 12, 3) := by decide +kernel
theorem dX0_extend_7 : decode cX0_extend 7 = .ok (.aload_n 0, 1) := by decide +kernel
theorem dX0_extend_8 : decode cX0_extend 8 = .ok (.getfield 47, 3) := by decide +kernel
theorem dX0_extend_11 : decode cX0_extend 11 = .ok (.bipush 60, 2) := by decide +kernel
theorem dX0_extend_13 : decode cX0_extend 13 = .ok (.if_icmp .lt 4, 3) := by decide +kernel
theorem dX0_extend_16 : decode cX0_extend 16 = .ok (.return_, 1) := by decide +kernel
theorem dX0_extend_17 : decode cX0_extend 17 = .ok (.iconst 0, 1) := by decide +kernel
theorem dX0_extend_18 : decode cX0_extend 18 = .ok (.istore 4, 2) := by decide +kernel
theorem dX0_extend_20 : decode cX0_extend 20 = .ok (.iload 4, 2) := by decide +kernel
theorem dX0_extend_22 : decode cX0_extend 22 = .ok (.bipush 20, 2) := by decide +kernel
theorem dX0_extend_24 : decode cX0_extend 24 = .ok (.if_icmp .ge 45, 3) := by decide +kernel
theorem dX0_extend_27 : decode cX0_extend 27 = .ok (.aload_n 0, 1) := by decide +kernel
theorem dX0_extend_28 : decode cX0_extend 28 = .ok (.getfield 11, 3) := by decide +kernel
theorem dX0_extend_31 : decode cX0_extend 31 = .ok (.aload_n 0, 1) := by decide +kernel
theorem dX0_extend_32 : decode cX0_extend 32 = .ok (.getfield 47, 3) := by decide +kernel
theorem dX0_extend_35 : decode cX0_extend 35 = .ok (.iconst 1, 1) := by decide +kernel
theorem dX0_extend_36 : decode cX0_extend 36 = .ok (.iadd, 1) := by decide +kernel
theorem dX0_extend_37 : decode cX0_extend 37 = .ok (.iload 4, 2) := by decide +kernel
theorem dX0_extend_39 : decode cX0_extend 39 = .ok (.invokestatic 50, 3) := by decide +kernel
theorem dX0_extend_42 : decode cX0_extend 42 = .ok (.ldc 33, 2) := by decide +kernel
theorem dX0_extend_44 : decode cX0_extend 44 = .ok (.iastore, 1) := by decide +kernel
theorem dX0_extend_45 : decode cX0_extend 45 = .ok (.aload_n 0, 1) := by decide +kernel
theorem dX0_extend_46 : decode cX0_extend 46 = .ok (.getfield 15, 3) := by decide +kernel
theorem dX0_extend_49 : decode cX0_extend 49 = .ok (.aload_n 0, 1) := by decide +kernel
theorem dX0_extend_50 : decode cX0_extend 50 = .ok (.getfield 47, 3) := by decide +kernel
theorem dX0_extend_53 : decode cX0_extend 53 = .ok (.iconst 1, 1) := by decide +kernel
theorem dX0_extend_54 : decode cX0_extend 54 = .ok (.iadd, 1) := by decide +kernel
theorem dX0_extend_55 : decode cX0_extend 55 = .ok (.iload 4, 2) := by decide +kernel
theorem dX0_extend_57 : decode cX0_extend 57 = .ok (.invokestatic 50, 3) := by decide +kernel
theorem dX0_extend_60 : decode cX0_extend 60 = .ok (.ldc 33, 2) := by decide +kernel
theorem dX0_extend_62 : decode cX0_extend 62 = .ok (.iastore, 1) := by decide +kernel
theorem dX0_extend_63 : decode cX0_extend 63 = .ok (.iinc 4 1, 3) := by decide +kernel
theorem dX0_extend_66 : decode cX0_extend 66 = .ok (.goto (-46), 3) := by decide +kernel
theorem dX0_extend_69 : decode cX0_extend 69 = .ok (.iconst 0, 1) := by decide +kernel
theorem dX0_extend_70 : decode cX0_extend 70 = .ok (.istore 4, 2) := by decide +kernel
theorem dX0_extend_72 : decode cX0_extend 72 = .ok (.iload 4, 2) := by decide +kernel
theorem dX0_extend_74 : decode cX0_extend 74 = .ok (.bipush 20, 2) := by decide +kernel
theorem dX0_extend_76 : decode cX0_extend 76 = .ok (.if_icmp .ge 27, 3) := by decide +kernel
theorem dX0_extend_79 : decode cX0_extend 79 = .ok (.aload_n 0, 1) := by decide +kernel
theorem dX0_extend_80 : decode cX0_extend 80 = .ok (.iload 4, 2) := by decide +kernel
theorem dX0_extend_82 : decode cX0_extend 82 = .ok (.invokevirtual 54, 3) := by decide +kernel
theorem dX0_extend_85 : decode cX0_extend 85 = .ok (.ifCond .eq 12, 3) := by decide +kernel
theorem dX0_extend_88 : decode cX0_extend 88 = .ok (.aload_n 0, 1) := by decide +kernel
theorem dX0_extend_89 : decode cX0_extend 89 = .ok (.iload 4, 2) := by decide +kernel
theorem dX0_extend_91 : decode cX0_extend 91 = .ok (.aload_n 1, 1) := by decide +kernel
theorem dX0_extend_92 : decode cX0_extend 92 = .ok (.iload_n 2, 1) := by decide +kernel
theorem dX0_extend_93 : decode cX0_extend 93 = .ok (.iload_n 3, 1) := by decide +kernel
theorem dX0_extend_94 : decode cX0_extend 94 = .ok (.invokevirtual 58, 3) := by decide +kernel
theorem dX0_extend_97 : decode cX0_extend 97 = .ok (.iinc 4 1, 3) := by decide +kernel
theorem dX0_extend_100 : decode cX0_extend 100 = .ok (.goto (-28), 3) := by decide +kernel
theorem dX0_extend_103 : decode cX0_extend 103 = .ok (.aload_n 0, 1) := by decide +kernel
theorem dX0_extend_104 : decode cX0_extend 104 = .ok (.dup, 1) := by decide +kernel
theorem dX0_extend_105 : decode cX0_extend 105 = .ok (.getfield 47, 3) := by decide +kernel
theorem dX0_extend_108 : decode cX0_extend 108 = .ok (.iconst 1, 1) := by decide +kernel
theorem dX0_extend_109 : decode cX0_extend 109 = .ok (.iadd, 1) := by decide +kernel
theorem dX0_extend_110 : decode cX0_extend 110 = .ok (.putfield 47, 3) := by decide +kernel
theorem dX0_extend_113 : decode cX0_extend 113 = .ok (.aload_n 0, 1) := by decide +kernel
theorem dX0_extend_114 : decode cX0_extend 114 = .ok (.invokevirtual 62, 3) := by decide +kernel
theorem dX0_extend_117 : decode cX0_extend 117 = .ok (.return_, 1) := by decide +kernel
set_option maxRecDepth 20000 in
theorem ggX0_stepFrom_X0_goFrom : GoodIn wsX0_stepFrom wsX0_goFrom := goodIn_r _ [6, 7, 8, 9, 10, 11, 12, 13, 14, 15, 16, 17, 18, 19, 20, 21, 22, 23, 24, 25, 26, 27, 28, 29, 30, 31, 32, 33, 34, 35, 36, 37, 38, 39, 40, 41, 42, 43, 44, 5, 45, 1, 46, 47, 48, 49, 50, 51, 52, 53, 54, 55, 56, 57, 58, 59, 60, 79, 80, 81, 82, 83, 84, 85, 86, 87, 88, 89, 67, 68, 69, 70, 71, 72, 73, 74, 75, 76, 77, 78] (by decide +kernel) (by decide +kernel)
set_option maxRecDepth 20000 in
theorem gX0_stepFrom_X0_goFrom : GoodIn wsX0_stepFrom (wsV RX0 65 RX0 yX0_goFrom wsX0_goFrom) := goodIn_app (goodIn_of _ (by decide +kernel)) ggX0_stepFrom_X0_goFrom
set_option maxRecDepth 20000 in
theorem ggX0_stepFrom_X4_quotesOf : GoodIn wsX0_stepFrom wsX4_quotesOf := goodIn_r _ [24] (by decide +kernel) (by decide +kernel)
set_option maxRecDepth 20000 in
theorem gX0_stepFrom_X4_quotesOf_n69 : GoodIn wsX0_stepFrom (wsX4_quotesOf) := ggX0_stepFrom_X4_quotesOf
set_option maxRecDepth 20000 in
theorem ggX0_stepFrom_X4_stateOf : GoodIn wsX0_stepFrom wsX4_stateOf := goodIn_r _ [9] (by decide +kernel) (by decide +kernel)
set_option maxRecDepth 20000 in
theorem gX0_stepFrom_X4_stateOf_n78 : GoodIn wsX0_stepFrom (wsX4_stateOf) := ggX0_stepFrom_X4_stateOf
set_option maxRecDepth 20000 in
theorem ggX0_stepFrom_X1_canEnd : GoodIn wsX0_stepFrom wsX1_canEnd := goodIn_r _ [64, 65, 66, 37, 38, 39, 13, 40, 41, 79, 80, 81, 82, 83, 84, 85, 86, 87, 88, 89] (by decide +kernel) (by decide +kernel)
set_option maxRecDepth 20000 in
theorem gX0_stepFrom_X1_canEnd : GoodIn wsX0_stepFrom (wsV RX0 81 RX1 yX1_canEnd wsX1_canEnd) := goodIn_app (goodIn_of _ (by decide +kernel)) ggX0_stepFrom_X1_canEnd
theorem dX0_stepFrom_0 : decode cX0_stepFrom 0 = .ok (.iload 4, 2) := by decide +kernel
theorem dX0_stepFrom_2 : decode cX0_stepFrom 2 = .ok (.iconst 4, 1) := by decide +kernel
theorem dX0_stepFrom_3 : decode cX0_stepFrom 3 = .ok (.if_icmp .ge 13, 3) := by decide +kernel
theorem dX0_stepFrom_6 : decode cX0_stepFrom 6 = .ok (.aload_n 0, 1) := by decide +kernel
theorem dX0_stepFrom_7 : decode cX0_stepFrom 7 = .ok (.iload_n 1, 1) := by decide +kernel
theorem dX0_stepFrom_8 : decode cX0_stepFrom 8 = .ok (.iconst (-1), 1) := by decide +kernel
theorem dX0_stepFrom_9 : decode cX0_stepFrom 9 = .ok (.aload_n 2, 1) := by decide +kernel
theorem dX0_stepFrom_10 : decode cX0_stepFrom 10 = .ok (.iload_n 3, 1) := by decide +kernel
theorem dX0_stepFrom_11 : decode cX0_stepFrom 11 = .ok (.iload 4, 2) := by decide +kernel
theorem dX0_stepFrom_13 : decode cX0_stepFrom 13 = .ok (.invokevirtual 65, 3) := by decide +kernel
theorem dX0_stepFrom_16 : decode cX0_stepFrom 16 = .ok (.iload 4, 2) := by decide +kernel
theorem dX0_stepFrom_18 : decode cX0_stepFrom 18 = .ok (.iconst (-1), 1) := by decide +kernel
theorem dX0_stepFrom_19 : decode cX0_stepFrom 19 = .ok (.if_icmp .eq 9, 3) := by decide +kernel
theorem dX0_stepFrom_22 : decode cX0_stepFrom 22 = .ok (.iload 4, 2) := by decide +kernel
theorem dX0_stepFrom_24 : decode cX0_stepFrom 24 = .ok (.iconst 4, 1) := by decide +kernel
theorem dX0_stepFrom_25 : decode cX0_stepFrom 25 = .ok (.if_icmp .lt 7, 3) := by decide +kernel
theorem dX0_stepFrom_28 : decode cX0_stepFrom 28 = .ok (.iconst 1, 1) := by decide +kernel
theorem dX0_stepFrom_29 : decode cX0_stepFrom 29 = .ok (.goto 4, 3) := by decide +kernel
theorem dX0_stepFrom_32 : decode cX0_stepFrom 32 = .ok (.iconst 0, 1) := by decide +kernel
theorem dX0_stepFrom_33 : decode cX0_stepFrom 33 = .ok (.istore 5, 2) := by decide +kernel
theorem dX0_stepFrom_35 : decode cX0_stepFrom 35 = .ok (.aload_n 0, 1) := by decide +kernel
theorem dX0_stepFrom_36 : decode cX0_stepFrom 36 = .ok (.getfield 47, 3) := by decide +kernel
theorem dX0_stepFrom_39 : decode cX0_stepFrom 39 = .ok (.ifCond .eq 16, 3) := by decide +kernel
theorem dX0_stepFrom_42 : decode cX0_stepFrom 42 = .ok (.iload_n 1, 1) := by decide +kernel
theorem dX0_stepFrom_43 : decode cX0_stepFrom 43 = .ok (.invokestatic 69, 3) := by decide +kernel
theorem dX0_stepFrom_46 : decode cX0_stepFrom 46 = .ok (.iconst 1, 1) := by decide +kernel
theorem dX0_stepFrom_47 : decode cX0_stepFrom 47 = .ok (.if_icmp .eq 8, 3) := by decide +kernel
theorem dX0_stepFrom_50 : decode cX0_stepFrom 50 = .ok (.iload 5, 2) := by decide +kernel
theorem dX0_stepFrom_52 : decode cX0_stepFrom 52 = .ok (.ifCond .ne 4, 3) := by decide +kernel
theorem dX0_stepFrom_55 : decode cX0_stepFrom 55 = .ok (.return_, 1) := by decide +kernel
theorem dX0_stepFrom_56 : decode cX0_stepFrom 56 = .ok (.iconst 0, 1) := by decide +kernel
theorem dX0_stepFrom_57 : decode cX0_stepFrom 57 = .ok (.istore 6, 2) := by decide +kernel
theorem dX0_stepFrom_59 : decode cX0_stepFrom 59 = .ok (.iload 6, 2) := by decide +kernel
theorem dX0_stepFrom_61 : decode cX0_stepFrom 61 = .ok (.aload_n 2, 1) := by decide +kernel
theorem dX0_stepFrom_62 : decode cX0_stepFrom 62 = .ok (.getfield 73, 3) := by decide +kernel
theorem dX0_stepFrom_65 : decode cX0_stepFrom 65 = .ok (.if_icmp .ge 34, 3) := by decide +kernel
theorem dX0_stepFrom_68 : decode cX0_stepFrom 68 = .ok (.aload_n 2, 1) := by decide +kernel
theorem dX0_stepFrom_69 : decode cX0_stepFrom 69 = .ok (.iload 6, 2) := by decide +kernel
theorem dX0_stepFrom_71 : decode cX0_stepFrom 71 = .ok (.iload_n 1, 1) := by decide +kernel
theorem dX0_stepFrom_72 : decode cX0_stepFrom 72 = .ok (.invokestatic 78, 3) := by decide +kernel
theorem dX0_stepFrom_75 : decode cX0_stepFrom 75 = .ok (.iload 4, 2) := by decide +kernel
theorem dX0_stepFrom_77 : decode cX0_stepFrom 77 = .ok (.invokevirtual 81, 3) := by decide +kernel
theorem dX0_stepFrom_80 : decode cX0_stepFrom 80 = .ok (.ifCond .eq 13, 3) := by decide +kernel
theorem dX0_stepFrom_83 : decode cX0_stepFrom 83 = .ok (.aload_n 0, 1) := by decide +kernel
theorem dX0_stepFrom_84 : decode cX0_stepFrom 84 = .ok (.iload_n 1, 1) := by decide +kernel
theorem dX0_stepFrom_85 : decode cX0_stepFrom 85 = .ok (.iload 6, 2) := by decide +kernel
theorem dX0_stepFrom_87 : decode cX0_stepFrom 87 = .ok (.aload_n 2, 1) := by decide +kernel
theorem dX0_stepFrom_88 : decode cX0_stepFrom 88 = .ok (.iload_n 3, 1) := by decide +kernel
theorem dX0_stepFrom_89 : decode cX0_stepFrom 89 = .ok (.iconst (-1), 1) := by decide +kernel
theorem dX0_stepFrom_90 : decode cX0_stepFrom 90 = .ok (.invokevirtual 65, 3) := by decide +kernel
theorem dX0_stepFrom_93 : decode cX0_stepFrom 93 = .ok (.iinc 6 1, 3) := by decide +kernel
theorem dX0_stepFrom_96 : decode cX0_stepFrom 96 = .ok (.goto (-37), 3) := by decide +kernel
theorem dX0_stepFrom_99 : decode cX0_stepFrom 99 = .ok (.return_, 1) := by decide +kernel
set_option maxRecDepth 20000 in
theorem ggX0_goFrom_X4_stateOf : GoodIn wsX0_goFrom wsX4_stateOf := goodIn_r _ [3] (by decide +kernel) (by decide +kernel)
set_option maxRecDepth 20000 in
theorem gX0_goFrom_X4_stateOf_n78 : GoodIn wsX0_goFrom (wsX4_stateOf) := ggX0_goFrom_X4_stateOf
set_option maxRecDepth 20000 in
theorem ggX0_goFrom_X1_canGo : GoodIn wsX0_goFrom wsX1_canGo := goodIn_r _ [8, 9, 10, 11, 12, 13, 14, 7, 15, 16, 57, 58, 59, 60, 61, 62, 63, 64, 65, 66, 67] (by decide +kernel) (by decide +kernel)
set_option maxRecDepth 20000 in
theorem gX0_goFrom_X1_canGo : GoodIn wsX0_goFrom (wsV RX0 88 RX1 yX1_canGo wsX1_canGo) := goodIn_app (goodIn_of _ (by decide +kernel)) ggX0_goFrom_X1_canGo
set_option maxRecDepth 20000 in
theorem ggX0_goFrom_X4_quotesOf : GoodIn wsX0_goFrom wsX4_quotesOf := goodIn_r _ [18] (by decide +kernel) (by decide +kernel)
set_option maxRecDepth 20000 in
theorem gX0_goFrom_X4_quotesOf_n69 : GoodIn wsX0_goFrom (wsX4_quotesOf) := ggX0_goFrom_X4_quotesOf
set_option maxRecDepth 20000 in
theorem ggX0_goFrom_X1_nodeBehind : GoodIn wsX0_goFrom wsX1_nodeBehind := goodIn_r _ [22, 11, 23, 12, 13, 14, 7, 15, 16, 24, 2, 25, 57, 58, 59, 60, 61, 62, 63, 64, 65, 66, 67] (by decide +kernel) (by decide +kernel)
set_option maxRecDepth 20000 in
theorem gX0_goFrom_X1_nodeBehind : GoodIn wsX0_goFrom (wsV RX0 92 RX1 yX1_nodeBehind wsX1_nodeBehind) := goodIn_app (goodIn_of _ (by decide +kernel)) ggX0_goFrom_X1_nodeBehind
set_option maxRecDepth 20000 in
theorem ggX0_goFrom_X1_costOfEnd : GoodIn wsX0_goFrom wsX1_costOfEnd := goodIn_r _ [29, 30, 31, 32, 33, 7, 34, 35, 57, 58, 59, 60, 61, 62, 63, 64, 65, 66, 67] (by decide +kernel) (by decide +kernel)
set_option maxRecDepth 20000 in
theorem gX0_goFrom_X1_costOfEnd : GoodIn wsX0_goFrom (wsV RX0 95 RX1 yX1_costOfEnd wsX1_costOfEnd) := goodIn_app (goodIn_of _ (by decide +kernel)) ggX0_goFrom_X1_costOfEnd
set_option maxRecDepth 20000 in
theorem ggX0_goFrom_X0_offer : GoodIn wsX0_goFrom wsX0_offer := goodIn_r _ [40, 41, 42, 43, 44, 45, 46, 47, 48, 49, 50, 51, 52, 53, 54, 55, 39, 56, 68, 69, 70, 71, 72, 73, 74, 75, 76, 77, 78, 79] (by decide +kernel) (by decide +kernel)
set_option maxRecDepth 20000 in
theorem gX0_goFrom_X0_offer : GoodIn wsX0_goFrom (wsV RX0 101 RX0 yX0_offer wsX0_offer) := goodIn_app (goodIn_of _ (by decide +kernel)) ggX0_goFrom_X0_offer
theorem dX0_goFrom_0 : decode cX0_goFrom 0 = .ok (.iload_n 2, 1) := by decide +kernel
theorem dX0_goFrom_1 : decode cX0_goFrom 1 = .ok (.iconst (-1), 1) := by decide +kernel
theorem dX0_goFrom_2 : decode cX0_goFrom 2 = .ok (.if_icmp .ne 10, 3) := by decide +kernel
theorem dX0_goFrom_5 : decode cX0_goFrom 5 = .ok (.iload_n 1, 1) := by decide +kernel
theorem dX0_goFrom_6 : decode cX0_goFrom 6 = .ok (.invokestatic 78, 3) := by decide +kernel
theorem dX0_goFrom_9 : decode cX0_goFrom 9 = .ok (.goto 4, 3) := by decide +kernel
theorem dX0_goFrom_12 : decode cX0_goFrom 12 = .ok (.iconst 0, 1) := by decide +kernel
theorem dX0_goFrom_13 : decode cX0_goFrom 13 = .ok (.istore 6, 2) := by decide +kernel
theorem dX0_goFrom_15 : decode cX0_goFrom 15 = .ok (.iconst 0, 1) := by decide +kernel
theorem dX0_goFrom_16 : decode cX0_goFrom 16 = .ok (.istore 7, 2) := by decide +kernel
theorem dX0_goFrom_18 : decode cX0_goFrom 18 = .ok (.iload 7, 2) := by decide +kernel
theorem dX0_goFrom_20 : decode cX0_goFrom 20 = .ok (.aload_n 3, 1) := by decide +kernel
theorem dX0_goFrom_21 : decode cX0_goFrom 21 = .ok (.getfield 85, 3) := by decide +kernel
theorem dX0_goFrom_24 : decode cX0_goFrom 24 = .ok (.if_icmp .ge 63, 3) := by decide +kernel
theorem dX0_goFrom_27 : decode cX0_goFrom 27 = .ok (.aload_n 3, 1) := by decide +kernel
theorem dX0_goFrom_28 : decode cX0_goFrom 28 = .ok (.iload 7, 2) := by decide +kernel
theorem dX0_goFrom_30 : decode cX0_goFrom 30 = .ok (.iload 6, 2) := by decide +kernel
theorem dX0_goFrom_32 : decode cX0_goFrom 32 = .ok (.iload 4, 2) := by decide +kernel
theorem dX0_goFrom_34 : decode cX0_goFrom 34 = .ok (.iload 5, 2) := by decide +kernel
theorem dX0_goFrom_36 : decode cX0_goFrom 36 = .ok (.invokevirtual 88, 3) := by decide +kernel
theorem dX0_goFrom_39 : decode cX0_goFrom 39 = .ok (.ifCond .eq 42, 3) := by decide +kernel
theorem dX0_goFrom_42 : decode cX0_goFrom 42 = .ok (.aload_n 3, 1) := by decide +kernel
theorem dX0_goFrom_43 : decode cX0_goFrom 43 = .ok (.iload 7, 2) := by decide +kernel
theorem dX0_goFrom_45 : decode cX0_goFrom 45 = .ok (.iload_n 1, 1) := by decide +kernel
theorem dX0_goFrom_46 : decode cX0_goFrom 46 = .ok (.invokestatic 69, 3) := by decide +kernel
theorem dX0_goFrom_49 : decode cX0_goFrom 49 = .ok (.invokevirtual 92, 3) := by decide +kernel
theorem dX0_goFrom_52 : decode cX0_goFrom 52 = .ok (.istore 8, 2) := by decide +kernel
theorem dX0_goFrom_54 : decode cX0_goFrom 54 = .ok (.aload_n 3, 1) := by decide +kernel
theorem dX0_goFrom_55 : decode cX0_goFrom 55 = .ok (.iload_n 2, 1) := by decide +kernel
theorem dX0_goFrom_56 : decode cX0_goFrom 56 = .ok (.invokevirtual 95, 3) := by decide +kernel
theorem dX0_goFrom_59 : decode cX0_goFrom 59 = .ok (.aload_n 3, 1) := by decide +kernel
theorem dX0_goFrom_60 : decode cX0_goFrom 60 = .ok (.getfield 98, 3) := by decide +kernel
theorem dX0_goFrom_63 : decode cX0_goFrom 63 = .ok (.iload 7, 2) := by decide +kernel
theorem dX0_goFrom_65 : decode cX0_goFrom 65 = .ok (.iaload, 1) := by decide +kernel
theorem dX0_goFrom_66 : decode cX0_goFrom 66 = .ok (.iadd, 1) := by decide +kernel
theorem dX0_goFrom_67 : decode cX0_goFrom 67 = .ok (.istore 9, 2) := by decide +kernel
theorem dX0_goFrom_69 : decode cX0_goFrom 69 = .ok (.aload_n 0, 1) := by decide +kernel
theorem dX0_goFrom_70 : decode cX0_goFrom 70 = .ok (.iload_n 1, 1) := by decide +kernel
theorem dX0_goFrom_71 : decode cX0_goFrom 71 = .ok (.iload_n 2, 1) := by decide +kernel
theorem dX0_goFrom_72 : decode cX0_goFrom 72 = .ok (.iload 7, 2) := by decide +kernel
theorem dX0_goFrom_74 : decode cX0_goFrom 74 = .ok (.iload 8, 2) := by decide +kernel
theorem dX0_goFrom_76 : decode cX0_goFrom 76 = .ok (.iload 9, 2) := by decide +kernel
theorem dX0_goFrom_78 : decode cX0_goFrom 78 = .ok (.invokevirtual 101, 3) := by decide +kernel
theorem dX0_goFrom_81 : decode cX0_goFrom 81 = .ok (.iinc 7 1, 3) := by decide +kernel
theorem dX0_goFrom_84 : decode cX0_goFrom 84 = .ok (.goto (-66), 3) := by decide +kernel
theorem dX0_goFrom_87 : decode cX0_goFrom 87 = .ok (.return_, 1) := by decide +kernel
set_option maxRecDepth 20000 in
theorem ggX0_offer_X0_cell : GoodIn wsX0_offer wsX0_cell := goodIn_r _ [17] (by decide +kernel) (by decide +kernel)
set_option maxRecDepth 20000 in
theorem gX0_offer_X0_cell : GoodIn wsX0_offer (va_wsS RX0 50 yX0_cell wsX0_cell) := goodIn_app (goodIn_of _ (by decide +kernel)) ggX0_offer_X0_cell
theorem dX0_offer_0 : decode cX0_offer 0 = .ok (.iload 4, 2) := by decide +kernel
theorem dX0_offer_2 : decode cX0_offer 2 = .ok (.ifCond .lt 10, 3) := by decide +kernel
theorem dX0_offer_5 : decode cX0_offer 5 = .ok (.iload 4, 2) := by decide +kernel
theorem dX0_offer_7 : decode cX0_offer 7 = .ok (.bipush 20, 2) := by decide +kernel
theorem dX0_offer_9 : decode cX0_offer 9 = .ok (.if_icmp .lt 4, 3) := by decide +kernel
theorem dX0_offer_12 : decode cX0_offer 12 = .ok (.return_, 1) := by decide +kernel
theorem dX0_offer_13 : decode cX0_offer 13 = .ok (.aload_n 0, 1) := by decide +kernel
theorem dX0_offer_14 : decode cX0_offer 14 = .ok (.getfield 47, 3) := by decide +kernel
theorem dX0_offer_17 : decode cX0_offer 17 = .ok (.iload_n 1, 1) := by decide +kernel
theorem dX0_offer_18 : decode cX0_offer 18 = .ok (.invokestatic 50, 3) := by decide +kernel
theorem dX0_offer_21 : decode cX0_offer 21 = .ok (.istore 6, 2) := by decide +kernel
theorem dX0_offer_23 : decode cX0_offer 23 = .ok (.aload_n 0, 1) := by decide +kernel
theorem dX0_offer_24 : decode cX0_offer 24 = .ok (.getfield 47, 3) := by decide +kernel
theorem dX0_offer_27 : decode cX0_offer 27 = .ok (.iconst 1, 1) := by decide +kernel
theorem dX0_offer_28 : decode cX0_offer 28 = .ok (.iadd, 1) := by decide +kernel
theorem dX0_offer_29 : decode cX0_offer 29 = .ok (.iload 4, 2) := by decide +kernel
theorem dX0_offer_31 : decode cX0_offer 31 = .ok (.invokestatic 50, 3) := by decide +kernel
theorem dX0_offer_34 : decode cX0_offer 34 = .ok (.istore 7, 2) := by decide +kernel
theorem dX0_offer_36 : decode cX0_offer 36 = .ok (.aload_n 0, 1) := by decide +kernel
theorem dX0_offer_37 : decode cX0_offer 37 = .ok (.getfield 11, 3) := by decide +kernel
theorem dX0_offer_40 : decode cX0_offer 40 = .ok (.iload 6, 2) := by decide +kernel
theorem dX0_offer_42 : decode cX0_offer 42 = .ok (.iaload, 1) := by decide +kernel
theorem dX0_offer_43 : decode cX0_offer 43 = .ok (.iload 5, 2) := by decide +kernel
theorem dX0_offer_45 : decode cX0_offer 45 = .ok (.iadd, 1) := by decide +kernel
theorem dX0_offer_46 : decode cX0_offer 46 = .ok (.istore 8, 2) := by decide +kernel
theorem dX0_offer_48 : decode cX0_offer 48 = .ok (.aload_n 0, 1) := by decide +kernel
theorem dX0_offer_49 : decode cX0_offer 49 = .ok (.getfield 18, 3) := by decide +kernel
theorem dX0_offer_52 : decode cX0_offer 52 = .ok (.iload 6, 2) := by decide +kernel
theorem dX0_offer_54 : decode cX0_offer 54 = .ok (.iaload, 1) := by decide +kernel
theorem dX0_offer_55 : decode cX0_offer 55 = .ok (.bipush 11, 2) := by decide +kernel
theorem dX0_offer_57 : decode cX0_offer 57 = .ok (.imul, 1) := by decide +kernel
theorem dX0_offer_58 : decode cX0_offer 58 = .ok (.iload_n 2, 1) := by decide +kernel
theorem dX0_offer_59 : decode cX0_offer 59 = .ok (.iadd, 1) := by decide +kernel
theorem dX0_offer_60 : decode cX0_offer 60 = .ok (.iconst 1, 1) := by decide +kernel
theorem dX0_offer_61 : decode cX0_offer 61 = .ok (.iadd, 1) := by decide +kernel
theorem dX0_offer_62 : decode cX0_offer 62 = .ok (.bipush 40, 2) := by decide +kernel
theorem dX0_offer_64 : decode cX0_offer 64 = .ok (.imul, 1) := by decide +kernel
theorem dX0_offer_65 : decode cX0_offer 65 = .ok (.iload_n 3, 1) := by decide +kernel
theorem dX0_offer_66 : decode cX0_offer 66 = .ok (.iadd, 1) := by decide +kernel
theorem dX0_offer_67 : decode cX0_offer 67 = .ok (.istore 9, 2) := by decide +kernel
theorem dX0_offer_69 : decode cX0_offer 69 = .ok (.iload 8, 2) := by decide +kernel
theorem dX0_offer_71 : decode cX0_offer 71 = .ok (.aload_n 0, 1) := by decide +kernel
theorem dX0_offer_72 : decode cX0_offer 72 = .ok (.getfield 11, 3) := by decide +kernel
theorem dX0_offer_75 : decode cX0_offer 75 = .ok (.iload 7, 2) := by decide +kernel
theorem dX0_offer_77 : decode cX0_offer 77 = .ok (.iaload, 1) := by decide +kernel
theorem dX0_offer_78 : decode cX0_offer 78 = .ok (.if_icmp .lt 27, 3) := by decide +kernel
theorem dX0_offer_81 : decode cX0_offer 81 = .ok (.iload 8, 2) := by decide +kernel
theorem dX0_offer_83 : decode cX0_offer 83 = .ok (.aload_n 0, 1) := by decide +kernel
theorem dX0_offer_84 : decode cX0_offer 84 = .ok (.getfield 11, 3) := by decide +kernel
theorem dX0_offer_87 : decode cX0_offer 87 = .ok (.iload 7, 2) := by decide +kernel
theorem dX0_offer_89 : decode cX0_offer 89 = .ok (.iaload, 1) := by decide +kernel
theorem dX0_offer_90 : decode cX0_offer 90 = .ok (.if_icmp .ne 74, 3) := by decide +kernel
theorem dX0_offer_93 : decode cX0_offer 93 = .ok (.iload 9, 2) := by decide +kernel
theorem dX0_offer_95 : decode cX0_offer 95 = .ok (.aload_n 0, 1) := by decide +kernel
theorem dX0_offer_96 : decode cX0_offer 96 = .ok (.getfield 30, 3) := by decide +kernel
theorem dX0_offer_99 : decode cX0_offer 99 = .ok (.iload 4, 2) := by decide +kernel
theorem dX0_offer_101 : decode cX0_offer 101 = .ok (.iaload, 1) := by decide +kernel
theorem dX0_offer_102 : decode cX0_offer 102 = .ok (.if_icmp .ge 62, 3) := by decide +kernel
theorem dX0_offer_105 : decode cX0_offer 105 = .ok (.aload_n 0, 1) := by decide +kernel
theorem dX0_offer_106 : decode cX0_offer 106 = .ok (.getfield 15, 3) := by decide +kernel
theorem dX0_offer_109 : decode cX0_offer 109 = .ok (.iload 7, 2) := by decide +kernel
theorem dX0_offer_111 : decode cX0_offer 111 = .ok (.aload_n 0, 1) := by decide +kernel
theorem dX0_offer_112 : decode cX0_offer 112 = .ok (.getfield 11, 3) := by decide +kernel
theorem dX0_offer_115 : decode cX0_offer 115 = .ok (.iload 7, 2) := by decide +kernel
theorem dX0_offer_117 : decode cX0_offer 117 = .ok (.iaload, 1) := by decide +kernel
theorem dX0_offer_118 : decode cX0_offer 118 = .ok (.iastore, 1) := by decide +kernel
theorem dX0_offer_119 : decode cX0_offer 119 = .ok (.aload_n 0, 1) := by decide +kernel
theorem dX0_offer_120 : decode cX0_offer 120 = .ok (.getfield 11, 3) := by decide +kernel
theorem dX0_offer_123 : decode cX0_offer 123 = .ok (.iload 7, 2) := by decide +kernel
theorem dX0_offer_125 : decode cX0_offer 125 = .ok (.iload 8, 2) := by decide +kernel
theorem dX0_offer_127 : decode cX0_offer 127 = .ok (.iastore, 1) := by decide +kernel
theorem dX0_offer_128 : decode cX0_offer 128 = .ok (.aload_n 0, 1) := by decide +kernel
theorem dX0_offer_129 : decode cX0_offer 129 = .ok (.getfield 30, 3) := by decide +kernel
theorem dX0_offer_132 : decode cX0_offer 132 = .ok (.iload 4, 2) := by decide +kernel
theorem dX0_offer_134 : decode cX0_offer 134 = .ok (.iload 9, 2) := by decide +kernel
theorem dX0_offer_136 : decode cX0_offer 136 = .ok (.iastore, 1) := by decide +kernel
theorem dX0_offer_137 : decode cX0_offer 137 = .ok (.aload_n 0, 1) := by decide +kernel
theorem dX0_offer_138 : decode cX0_offer 138 = .ok (.getfield 21, 3) := by decide +kernel
theorem dX0_offer_141 : decode cX0_offer 141 = .ok (.iload 7, 2) := by decide +kernel
theorem dX0_offer_143 : decode cX0_offer 143 = .ok (.iload_n 1, 1) := by decide +kernel
theorem dX0_offer_144 : decode cX0_offer 144 = .ok (.iastore, 1) := by decide +kernel
theorem dX0_offer_145 : decode cX0_offer 145 = .ok (.aload_n 0, 1) := by decide +kernel
theorem dX0_offer_146 : decode cX0_offer 146 = .ok (.getfield 24, 3) := by decide +kernel
theorem dX0_offer_149 : decode cX0_offer 149 = .ok (.iload 7, 2) := by decide +kernel
theorem dX0_offer_151 : decode cX0_offer 151 = .ok (.iload_n 2, 1) := by decide +kernel
theorem dX0_offer_152 : decode cX0_offer 152 = .ok (.iastore, 1) := by decide +kernel
theorem dX0_offer_153 : decode cX0_offer 153 = .ok (.aload_n 0, 1) := by decide +kernel
theorem dX0_offer_154 : decode cX0_offer 154 = .ok (.getfield 27, 3) := by decide +kernel
theorem dX0_offer_157 : decode cX0_offer 157 = .ok (.iload 7, 2) := by decide +kernel
theorem dX0_offer_159 : decode cX0_offer 159 = .ok (.iload_n 3, 1) := by decide +kernel
theorem dX0_offer_160 : decode cX0_offer 160 = .ok (.iastore, 1) := by decide +kernel
theorem dX0_offer_161 : decode cX0_offer 161 = .ok (.goto 22, 3) := by decide +kernel
theorem dX0_offer_164 : decode cX0_offer 164 = .ok (.aload_n 0, 1) := by decide +kernel
theorem dX0_offer_165 : decode cX0_offer 165 = .ok (.getfield 15, 3) := by decide +kernel
theorem dX0_offer_168 : decode cX0_offer 168 = .ok (.iload 7, 2) := by decide +kernel
theorem dX0_offer_170 : decode cX0_offer 170 = .ok (.aload_n 0, 1) := by decide +kernel
theorem dX0_offer_171 : decode cX0_offer 171 = .ok (.getfield 15, 3) := by decide +kernel
theorem dX0_offer_174 : decode cX0_offer 174 = .ok (.iload 7, 2) := by decide +kernel
theorem dX0_offer_176 : decode cX0_offer 176 = .ok (.iaload, 1) := by decide +kernel
theorem dX0_offer_177 : decode cX0_offer 177 = .ok (.iload 8, 2) := by decide +kernel
theorem dX0_offer_179 : decode cX0_offer 179 = .ok (.invokestatic 105, 3) := by decide +kernel
theorem dX0_offer_182 : decode cX0_offer 182 = .ok (.iastore, 1) := by decide +kernel
theorem dX0_offer_183 : decode cX0_offer 183 = .ok (.aload_n 0, 1) := by decide +kernel
theorem dX0_offer_184 : decode cX0_offer 184 = .ok (.getfield 15, 3) := by decide +kernel
theorem dX0_offer_187 : decode cX0_offer 187 = .ok (.iload 6, 2) := by decide +kernel
theorem dX0_offer_189 : decode cX0_offer 189 = .ok (.iaload, 1) := by decide +kernel
theorem dX0_offer_190 : decode cX0_offer 190 = .ok (.ldc 33, 2) := by decide +kernel
theorem dX0_offer_192 : decode cX0_offer 192 = .ok (.if_icmp .ge 30, 3) := by decide +kernel
theorem dX0_offer_195 : decode cX0_offer 195 = .ok (.aload_n 0, 1) := by decide +kernel
theorem dX0_offer_196 : decode cX0_offer 196 = .ok (.getfield 15, 3) := by decide +kernel
theorem dX0_offer_199 : decode cX0_offer 199 = .ok (.iload 7, 2) := by decide +kernel
theorem dX0_offer_201 : decode cX0_offer 201 = .ok (.aload_n 0, 1) := by decide +kernel
theorem dX0_offer_202 : decode cX0_offer 202 = .ok (.getfield 15, 3) := by decide +kernel
theorem dX0_offer_205 : decode cX0_offer 205 = .ok (.iload 7, 2) := by decide +kernel
theorem dX0_offer_207 : decode cX0_offer 207 = .ok (.iaload, 1) := by decide +kernel
theorem dX0_offer_208 : decode cX0_offer 208 = .ok (.aload_n 0, 1) := by decide +kernel
theorem dX0_offer_209 : decode cX0_offer 209 = .ok (.getfield 15, 3) := by decide +kernel
theorem dX0_offer_212 : decode cX0_offer 212 = .ok (.iload 6, 2) := by decide +kernel
theorem dX0_offer_214 : decode cX0_offer 214 = .ok (.iaload, 1) := by decide +kernel
theorem dX0_offer_215 : decode cX0_offer 215 = .ok (.iload 5, 2) := by decide +kernel
theorem dX0_offer_217 : decode cX0_offer 217 = .ok (.iadd, 1) := by decide +kernel
theorem dX0_offer_218 : decode cX0_offer 218 = .ok (.invokestatic 105, 3) := by decide +kernel
theorem dX0_offer_221 : decode cX0_offer 221 = .ok (.iastore, 1) := by decide +kernel
theorem dX0_offer_222 : decode cX0_offer 222 = .ok (.return_, 1) := by decide +kernel
set_option maxRecDepth 20000 in
theorem ggX0_rankLevel_X0_isReached : GoodIn wsX0_rankLevel wsX0_isReached := goodIn_r _ [7, 8, 2, 9, 10, 11, 6, 12, 18, 19, 20, 21, 22, 23, 24, 25, 26, 27, 28, 29] (by decide +kernel) (by decide +kernel)
set_option maxRecDepth 20000 in
theorem gX0_rankLevel_X0_isReached : GoodIn wsX0_rankLevel (wsV RX0 54 RX0 yX0_isReached wsX0_isReached) := goodIn_app (goodIn_of _ (by decide +kernel)) ggX0_rankLevel_X0_isReached
set_option maxRecDepth 20000 in
theorem ggX0_rankLevel_X0_cell : GoodIn wsX0_rankLevel wsX0_cell := goodIn_r _ [12] (by decide +kernel) (by decide +kernel)
set_option maxRecDepth 20000 in
theorem gX0_rankLevel_X0_cell : GoodIn wsX0_rankLevel (va_wsS RX0 50 yX0_cell wsX0_cell) := goodIn_app (goodIn_of _ (by decide +kernel)) ggX0_rankLevel_X0_cell
set_option maxRecDepth 20000 in
theorem ggX0_rankLevel_X0_waysAheadOf : GoodIn wsX0_rankLevel wsX0_waysAheadOf := goodIn_r _ [16, 17, 3, 4, 5, 6, 7, 8, 2, 9, 10, 11, 12, 18, 19, 20, 21, 22, 23, 24, 25, 26, 27, 28, 29] (by decide +kernel) (by decide +kernel)
set_option maxRecDepth 20000 in
theorem gX0_rankLevel_X0_waysAheadOf : GoodIn wsX0_rankLevel (wsV RX0 110 RX0 yX0_waysAheadOf wsX0_waysAheadOf) := goodIn_app (goodIn_of _ (by decide +kernel)) ggX0_rankLevel_X0_waysAheadOf
theorem dX0_rankLevel_0 : decode cX0_rankLevel 0 = .ok (.iconst 0, 1) := by decide +kernel
theorem dX0_rankLevel_1 : decode cX0_rankLevel 1 = .ok (.istore_n 1, 1) := by decide +kernel
theorem dX0_rankLevel_2 : decode cX0_rankLevel 2 = .ok (.iload_n 1, 1) := by decide +kernel
theorem dX0_rankLevel_3 : decode cX0_rankLevel 3 = .ok (.bipush 20, 2) := by decide +kernel
theorem dX0_rankLevel_5 : decode cX0_rankLevel 5 = .ok (.if_icmp .ge 35, 3) := by decide +kernel
theorem dX0_rankLevel_8 : decode cX0_rankLevel 8 = .ok (.aload_n 0, 1) := by decide +kernel
theorem dX0_rankLevel_9 : decode cX0_rankLevel 9 = .ok (.iload_n 1, 1) := by decide +kernel
theorem dX0_rankLevel_10 : decode cX0_rankLevel 10 = .ok (.invokevirtual 54, 3) := by decide +kernel
theorem dX0_rankLevel_13 : decode cX0_rankLevel 13 = .ok (.ifCond .eq 21, 3) := by decide +kernel
theorem dX0_rankLevel_16 : decode cX0_rankLevel 16 = .ok (.aload_n 0, 1) := by decide +kernel
theorem dX0_rankLevel_17 : decode cX0_rankLevel 17 = .ok (.getfield 18, 3) := by decide +kernel
theorem dX0_rankLevel_20 : decode cX0_rankLevel 20 = .ok (.aload_n 0, 1) := by decide +kernel
theorem dX0_rankLevel_21 : decode cX0_rankLevel 21 = .ok (.getfield 47, 3) := by decide +kernel
theorem dX0_rankLevel_24 : decode cX0_rankLevel 24 = .ok (.iload_n 1, 1) := by decide +kernel
theorem dX0_rankLevel_25 : decode cX0_rankLevel 25 = .ok (.invokestatic 50, 3) := by decide +kernel
theorem dX0_rankLevel_28 : decode cX0_rankLevel 28 = .ok (.aload_n 0, 1) := by decide +kernel
theorem dX0_rankLevel_29 : decode cX0_rankLevel 29 = .ok (.iload_n 1, 1) := by decide +kernel
theorem dX0_rankLevel_30 : decode cX0_rankLevel 30 = .ok (.invokevirtual 110, 3) := by decide +kernel
theorem dX0_rankLevel_33 : decode cX0_rankLevel 33 = .ok (.iastore, 1) := by decide +kernel
theorem dX0_rankLevel_34 : decode cX0_rankLevel 34 = .ok (.iinc 1 1, 3) := by decide +kernel
theorem dX0_rankLevel_37 : decode cX0_rankLevel 37 = .ok (.goto (-35), 3) := by decide +kernel
theorem dX0_rankLevel_40 : decode cX0_rankLevel 40 = .ok (.return_, 1) := by decide +kernel
set_option maxRecDepth 20000 in
theorem ggX0_waysAheadOf_X0_isReached : GoodIn wsX0_waysAheadOf wsX0_isReached := goodIn_r _ [6, 7, 8, 9, 10, 11, 5, 12, 13, 14, 15, 16, 17, 18, 19, 20, 21, 22, 23, 24] (by decide +kernel) (by decide +kernel)
set_option maxRecDepth 20000 in
theorem gX0_waysAheadOf_X0_isReached : GoodIn wsX0_waysAheadOf (wsV RX0 54 RX0 yX0_isReached wsX0_isReached) := goodIn_app (goodIn_of _ (by decide +kernel)) ggX0_waysAheadOf_X0_isReached
theorem dX0_waysAheadOf_0 : decode cX0_waysAheadOf 0 = .ok (.iconst 0, 1) := by decide +kernel
theorem dX0_waysAheadOf_1 : decode cX0_waysAheadOf 1 = .ok (.istore_n 2, 1) := by decide +kernel
theorem dX0_waysAheadOf_2 : decode cX0_waysAheadOf 2 = .ok (.iload_n 1, 1) := by decide +kernel
theorem dX0_waysAheadOf_3 : decode cX0_waysAheadOf 3 = .ok (.ifCond .lt 9, 3) := by decide +kernel
theorem dX0_waysAheadOf_6 : decode cX0_waysAheadOf 6 = .ok (.iload_n 1, 1) := by decide +kernel
theorem dX0_waysAheadOf_7 : decode cX0_waysAheadOf 7 = .ok (.bipush 20, 2) := by decide +kernel
theorem dX0_waysAheadOf_9 : decode cX0_waysAheadOf 9 = .ok (.if_icmp .lt 5, 3) := by decide +kernel
theorem dX0_waysAheadOf_12 : decode cX0_waysAheadOf 12 = .ok (.iload_n 2, 1) := by decide +kernel
theorem dX0_waysAheadOf_13 : decode cX0_waysAheadOf 13 = .ok (.ireturn, 1) := by decide +kernel
theorem dX0_waysAheadOf_14 : decode cX0_waysAheadOf 14 = .ok (.iconst 0, 1) := by decide +kernel
theorem dX0_waysAheadOf_15 : decode cX0_waysAheadOf 15 = .ok (.istore_n 3, 1) := by decide +kernel
theorem dX0_waysAheadOf_16 : decode cX0_waysAheadOf 16 = .ok (.iload_n 3, 1) := by decide +kernel
theorem dX0_waysAheadOf_17 : decode cX0_waysAheadOf 17 = .ok (.bipush 20, 2) := by decide +kernel
theorem dX0_waysAheadOf_19 : decode cX0_waysAheadOf 19 = .ok (.if_icmp .ge 35, 3) := by decide +kernel
theorem dX0_waysAheadOf_22 : decode cX0_waysAheadOf 22 = .ok (.aload_n 0, 1) := by decide +kernel
theorem dX0_waysAheadOf_23 : decode cX0_waysAheadOf 23 = .ok (.iload_n 3, 1) := by decide +kernel
theorem dX0_waysAheadOf_24 : decode cX0_waysAheadOf 24 = .ok (.invokevirtual 54, 3) := by decide +kernel
theorem dX0_waysAheadOf_27 : decode cX0_waysAheadOf 27 = .ok (.ifCond .eq 21, 3) := by decide +kernel
theorem dX0_waysAheadOf_30 : decode cX0_waysAheadOf 30 = .ok (.aload_n 0, 1) := by decide +kernel
theorem dX0_waysAheadOf_31 : decode cX0_waysAheadOf 31 = .ok (.getfield 30, 3) := by decide +kernel
theorem dX0_waysAheadOf_34 : decode cX0_waysAheadOf 34 = .ok (.iload_n 3, 1) := by decide +kernel
theorem dX0_waysAheadOf_35 : decode cX0_waysAheadOf 35 = .ok (.iaload, 1) := by decide +kernel
theorem dX0_waysAheadOf_36 : decode cX0_waysAheadOf 36 = .ok (.aload_n 0, 1) := by decide +kernel
theorem dX0_waysAheadOf_37 : decode cX0_waysAheadOf 37 = .ok (.getfield 30, 3) := by decide +kernel
theorem dX0_waysAheadOf_40 : decode cX0_waysAheadOf 40 = .ok (.iload_n 1, 1) := by decide +kernel
theorem dX0_waysAheadOf_41 : decode cX0_waysAheadOf 41 = .ok (.iaload, 1) := by decide +kernel
theorem dX0_waysAheadOf_42 : decode cX0_waysAheadOf 42 = .ok (.if_icmp .ge 6, 3) := by decide +kernel
theorem dX0_waysAheadOf_45 : decode cX0_waysAheadOf 45 = .ok (.iinc 2 1, 3) := by decide +kernel
theorem dX0_waysAheadOf_48 : decode cX0_waysAheadOf 48 = .ok (.iinc 3 1, 3) := by decide +kernel
theorem dX0_waysAheadOf_51 : decode cX0_waysAheadOf 51 = .ok (.goto (-35), 3) := by decide +kernel
theorem dX0_waysAheadOf_54 : decode cX0_waysAheadOf 54 = .ok (.iload_n 2, 1) := by decide +kernel
theorem dX0_waysAheadOf_55 : decode cX0_waysAheadOf 55 = .ok (.ireturn, 1) := by decide +kernel
set_option maxRecDepth 20000 in
theorem ggX0_isReached_X0_cell : GoodIn wsX0_isReached wsX0_cell := goodIn_r _ [7] (by decide +kernel) (by decide +kernel)
set_option maxRecDepth 20000 in
theorem gX0_isReached_X0_cell : GoodIn wsX0_isReached (va_wsS RX0 50 yX0_cell wsX0_cell) := goodIn_app (goodIn_of _ (by decide +kernel)) ggX0_isReached_X0_cell
theorem dX0_isReached_0 : decode cX0_isReached 0 = .ok (.aload_n 0, 1) := by decide +kernel
theorem dX0_isReached_1 : decode cX0_isReached 1 = .ok (.getfield 11, 3) := by decide +kernel
theorem dX0_isReached_4 : decode cX0_isReached 4 = .ok (.aload_n 0, 1) := by decide +kernel
theorem dX0_isReached_5 : decode cX0_isReached 5 = .ok (.getfield 47, 3) := by decide +kernel
theorem dX0_isReached_8 : decode cX0_isReached 8 = .ok (.iload_n 1, 1) := by decide +kernel
theorem dX0_isReached_9 : decode cX0_isReached 9 = .ok (.invokestatic 50, 3) := by decide +kernel
theorem dX0_isReached_12 : decode cX0_isReached 12 = .ok (.iaload, 1) := by decide +kernel
theorem dX0_isReached_13 : decode cX0_isReached 13 = .ok (.ldc 33, 2) := by decide +kernel
theorem dX0_isReached_15 : decode cX0_isReached 15 = .ok (.if_icmp .ge 7, 3) := by decide +kernel
theorem dX0_isReached_18 : decode cX0_isReached 18 = .ok (.iconst 1, 1) := by decide +kernel
theorem dX0_isReached_19 : decode cX0_isReached 19 = .ok (.goto 4, 3) := by decide +kernel
theorem dX0_isReached_22 : decode cX0_isReached 22 = .ok (.iconst 0, 1) := by decide +kernel
theorem dX0_isReached_23 : decode cX0_isReached 23 = .ok (.ireturn, 1) := by decide +kernel
set_option maxRecDepth 20000 in
theorem ggX0_finish_X4_nodeOf : GoodIn wsX0_finish wsX4_nodeOf := goodIn_r _ [9] (by decide +kernel) (by decide +kernel)
set_option maxRecDepth 20000 in
theorem gX0_finish_X4_nodeOf_n119 : GoodIn wsX0_finish (wsX4_nodeOf) := ggX0_finish_X4_nodeOf
set_option maxRecDepth 20000 in
theorem ggX0_finish_X0_isReached : GoodIn wsX0_finish wsX0_isReached := goodIn_r _ [14, 15, 6, 1, 16, 17, 13, 18, 46, 47, 48, 49, 50, 51, 52, 53, 54, 55, 56, 57] (by decide +kernel) (by decide +kernel)
set_option maxRecDepth 20000 in
theorem gX0_finish_X0_isReached : GoodIn wsX0_finish (wsV RX0 54 RX0 yX0_isReached wsX0_isReached) := goodIn_app (goodIn_of _ (by decide +kernel)) ggX0_finish_X0_isReached
set_option maxRecDepth 20000 in
theorem ggX0_finish_X1_canEnd : GoodIn wsX0_finish wsX1_canEnd := goodIn_r _ [23, 24, 25, 26, 27, 28, 22, 29, 30, 58, 59, 60, 61, 62, 63, 64, 65, 66, 67, 68] (by decide +kernel) (by decide +kernel)
set_option maxRecDepth 20000 in
theorem gX0_finish_X1_canEnd : GoodIn wsX0_finish (wsV RX0 81 RX1 yX1_canEnd wsX1_canEnd) := goodIn_app (goodIn_of _ (by decide +kernel)) ggX0_finish_X1_canEnd
set_option maxRecDepth 20000 in
theorem ggX0_finish_X1_costOfEnd : GoodIn wsX0_finish wsX1_costOfEnd := goodIn_r _ [34, 35, 26, 27, 28, 22, 29, 30, 58, 59, 60, 61, 62, 63, 64, 65, 66, 67, 68] (by decide +kernel) (by decide +kernel)
set_option maxRecDepth 20000 in
theorem gX0_finish_X1_costOfEnd : GoodIn wsX0_finish (wsV RX0 95 RX1 yX1_costOfEnd wsX1_costOfEnd) := goodIn_app (goodIn_of _ (by decide +kernel)) ggX0_finish_X1_costOfEnd
set_option maxRecDepth 20000 in
theorem ggX0_finish_X0_offerLast : GoodIn wsX0_finish wsX0_offerLast := goodIn_r _ [39, 6, 15, 2, 40, 4, 3, 5, 41, 42, 43, 44, 45, 1, 16, 17, 13, 18, 46, 47, 48, 49, 50, 51, 52, 53, 54, 55, 56, 57] (by decide +kernel) (by decide +kernel)
set_option maxRecDepth 20000 in
theorem gX0_finish_X0_offerLast : GoodIn wsX0_finish (wsV RX0 122 RX0 yX0_offerLast wsX0_offerLast) := goodIn_app (goodIn_of _ (by decide +kernel)) ggX0_finish_X0_offerLast
theorem dX0_finish_0 : decode cX0_finish 0 = .ok (.aload_n 0, 1) := by decide +kernel
theorem dX0_finish_1 : decode cX0_finish 1 = .ok (.ldc 33, 2) := by decide +kernel
theorem dX0_finish_3 : decode cX0_finish 3 = .ok (.putfield 34, 3) := by decide +kernel
theorem dX0_finish_6 : decode cX0_finish 6 = .ok (.aload_n 0, 1) := by decide +kernel
theorem dX0_finish_7 : decode cX0_finish 7 = .ok (.ldc 33, 2) := by decide +kernel
theorem dX0_finish_9 : decode cX0_finish 9 = .ok (.putfield 38, 3) := by decide +kernel
theorem dX0_finish_12 : decode cX0_finish 12 = .ok (.aload_n 0, 1) := by decide +kernel
theorem dX0_finish_13 : decode cX0_finish 13 = .ok (.iconst 0, 1) := by decide +kernel
theorem dX0_finish_14 : decode cX0_finish 14 = .ok (.putfield 113, 3) := by decide +kernel
theorem dX0_finish_17 : decode cX0_finish 17 = .ok (.aload_n 0, 1) := by decide +kernel
theorem dX0_finish_18 : decode cX0_finish 18 = .ok (.iconst (-1), 1) := by decide +kernel
theorem dX0_finish_19 : decode cX0_finish 19 = .ok (.putfield 116, 3) := by decide +kernel
theorem dX0_finish_22 : decode cX0_finish 22 = .ok (.aload_n 0, 1) := by decide +kernel
theorem dX0_finish_23 : decode cX0_finish 23 = .ok (.getfield 47, 3) := by decide +kernel
theorem dX0_finish_26 : decode cX0_finish 26 = .ok (.ifCond .gt 4, 3) := by decide +kernel
theorem dX0_finish_29 : decode cX0_finish 29 = .ok (.return_, 1) := by decide +kernel
theorem dX0_finish_30 : decode cX0_finish 30 = .ok (.iconst 0, 1) := by decide +kernel
theorem dX0_finish_31 : decode cX0_finish 31 = .ok (.istore_n 2, 1) := by decide +kernel
theorem dX0_finish_32 : decode cX0_finish 32 = .ok (.iload_n 2, 1) := by decide +kernel
theorem dX0_finish_33 : decode cX0_finish 33 = .ok (.bipush 10, 2) := by decide +kernel
theorem dX0_finish_35 : decode cX0_finish 35 = .ok (.if_icmp .ge 65, 3) := by decide +kernel
theorem dX0_finish_38 : decode cX0_finish 38 = .ok (.iload_n 2, 1) := by decide +kernel
theorem dX0_finish_39 : decode cX0_finish 39 = .ok (.iconst 0, 1) := by decide +kernel
theorem dX0_finish_40 : decode cX0_finish 40 = .ok (.invokestatic 119, 3) := by decide +kernel
theorem dX0_finish_43 : decode cX0_finish 43 = .ok (.istore_n 3, 1) := by decide +kernel
theorem dX0_finish_44 : decode cX0_finish 44 = .ok (.iconst 0, 1) := by decide +kernel
theorem dX0_finish_45 : decode cX0_finish 45 = .ok (.istore 4, 2) := by decide +kernel
theorem dX0_finish_47 : decode cX0_finish 47 = .ok (.iload 4, 2) := by decide +kernel
theorem dX0_finish_49 : decode cX0_finish 49 = .ok (.aload_n 1, 1) := by decide +kernel
theorem dX0_finish_50 : decode cX0_finish 50 = .ok (.getfield 73, 3) := by decide +kernel
theorem dX0_finish_53 : decode cX0_finish 53 = .ok (.if_icmp .ge 41, 3) := by decide +kernel
theorem dX0_finish_56 : decode cX0_finish 56 = .ok (.aload_n 0, 1) := by decide +kernel
theorem dX0_finish_57 : decode cX0_finish 57 = .ok (.iload_n 3, 1) := by decide +kernel
theorem dX0_finish_58 : decode cX0_finish 58 = .ok (.invokevirtual 54, 3) := by decide +kernel
theorem dX0_finish_61 : decode cX0_finish 61 = .ok (.ifCond .eq 27, 3) := by decide +kernel
theorem dX0_finish_64 : decode cX0_finish 64 = .ok (.aload_n 1, 1) := by decide +kernel
theorem dX0_finish_65 : decode cX0_finish 65 = .ok (.iload 4, 2) := by decide +kernel
theorem dX0_finish_67 : decode cX0_finish 67 = .ok (.iload_n 2, 1) := by decide +kernel
theorem dX0_finish_68 : decode cX0_finish 68 = .ok (.iconst (-1), 1) := by decide +kernel
theorem dX0_finish_69 : decode cX0_finish 69 = .ok (.invokevirtual 81, 3) := by decide +kernel
theorem dX0_finish_72 : decode cX0_finish 72 = .ok (.ifCond .eq 16, 3) := by decide +kernel
theorem dX0_finish_75 : decode cX0_finish 75 = .ok (.aload_n 0, 1) := by decide +kernel
theorem dX0_finish_76 : decode cX0_finish 76 = .ok (.iload_n 3, 1) := by decide +kernel
theorem dX0_finish_77 : decode cX0_finish 77 = .ok (.iload 4, 2) := by decide +kernel
theorem dX0_finish_79 : decode cX0_finish 79 = .ok (.aload_n 1, 1) := by decide +kernel
theorem dX0_finish_80 : decode cX0_finish 80 = .ok (.iload 4, 2) := by decide +kernel
theorem dX0_finish_82 : decode cX0_finish 82 = .ok (.invokevirtual 95, 3) := by decide +kernel
theorem dX0_finish_85 : decode cX0_finish 85 = .ok (.invokevirtual 122, 3) := by decide +kernel
theorem dX0_finish_88 : decode cX0_finish 88 = .ok (.iinc 4 1, 3) := by decide +kernel
theorem dX0_finish_91 : decode cX0_finish 91 = .ok (.goto (-44), 3) := by decide +kernel
theorem dX0_finish_94 : decode cX0_finish 94 = .ok (.iinc 2 1, 3) := by decide +kernel
theorem dX0_finish_97 : decode cX0_finish 97 = .ok (.goto (-65), 3) := by decide +kernel
theorem dX0_finish_100 : decode cX0_finish 100 = .ok (.return_, 1) := by decide +kernel
set_option maxRecDepth 20000 in
theorem ggX0_offerLast_X0_cell : GoodIn wsX0_offerLast wsX0_cell := goodIn_r _ [17] (by decide +kernel) (by decide +kernel)
set_option maxRecDepth 20000 in
theorem gX0_offerLast_X0_cell : GoodIn wsX0_offerLast (va_wsS RX0 50 yX0_cell wsX0_cell) := goodIn_app (goodIn_of _ (by decide +kernel)) ggX0_offerLast_X0_cell
theorem dX0_offerLast_0 : decode cX0_offerLast 0 = .ok (.aload_n 0, 1) := by decide +kernel
theorem dX0_offerLast_1 : decode cX0_offerLast 1 = .ok (.getfield 47, 3) := by decide +kernel
theorem dX0_offerLast_4 : decode cX0_offerLast 4 = .ok (.iload_n 1, 1) := by decide +kernel
theorem dX0_offerLast_5 : decode cX0_offerLast 5 = .ok (.invokestatic 50, 3) := by decide +kernel
theorem dX0_offerLast_8 : decode cX0_offerLast 8 = .ok (.istore 4, 2) := by decide +kernel
theorem dX0_offerLast_10 : decode cX0_offerLast 10 = .ok (.aload_n 0, 1) := by decide +kernel
theorem dX0_offerLast_11 : decode cX0_offerLast 11 = .ok (.getfield 11, 3) := by decide +kernel
theorem dX0_offerLast_14 : decode cX0_offerLast 14 = .ok (.iload 4, 2) := by decide +kernel
theorem dX0_offerLast_16 : decode cX0_offerLast 16 = .ok (.iaload, 1) := by decide +kernel
theorem dX0_offerLast_17 : decode cX0_offerLast 17 = .ok (.iload_n 3, 1) := by decide +kernel
theorem dX0_offerLast_18 : decode cX0_offerLast 18 = .ok (.iadd, 1) := by decide +kernel
theorem dX0_offerLast_19 : decode cX0_offerLast 19 = .ok (.istore 5, 2) := by decide +kernel
theorem dX0_offerLast_21 : decode cX0_offerLast 21 = .ok (.iload 5, 2) := by decide +kernel
theorem dX0_offerLast_23 : decode cX0_offerLast 23 = .ok (.aload_n 0, 1) := by decide +kernel
theorem dX0_offerLast_24 : decode cX0_offerLast 24 = .ok (.getfield 34, 3) := by decide +kernel
theorem dX0_offerLast_27 : decode cX0_offerLast 27 = .ok (.if_icmp .ne 33, 3) := by decide +kernel
theorem dX0_offerLast_30 : decode cX0_offerLast 30 = .ok (.aload_n 0, 1) := by decide +kernel
theorem dX0_offerLast_31 : decode cX0_offerLast 31 = .ok (.getfield 18, 3) := by decide +kernel
theorem dX0_offerLast_34 : decode cX0_offerLast 34 = .ok (.iload 4, 2) := by decide +kernel
theorem dX0_offerLast_36 : decode cX0_offerLast 36 = .ok (.iaload, 1) := by decide +kernel
theorem dX0_offerLast_37 : decode cX0_offerLast 37 = .ok (.aload_n 0, 1) := by decide +kernel
theorem dX0_offerLast_38 : decode cX0_offerLast 38 = .ok (.getfield 18, 3) := by decide +kernel
theorem dX0_offerLast_41 : decode cX0_offerLast 41 = .ok (.aload_n 0, 1) := by decide +kernel
theorem dX0_offerLast_42 : decode cX0_offerLast 42 = .ok (.getfield 47, 3) := by decide +kernel
theorem dX0_offerLast_45 : decode cX0_offerLast 45 = .ok (.aload_n 0, 1) := by decide +kernel
theorem dX0_offerLast_46 : decode cX0_offerLast 46 = .ok (.getfield 113, 3) := by decide +kernel
theorem dX0_offerLast_49 : decode cX0_offerLast 49 = .ok (.invokestatic 50, 3) := by decide +kernel
theorem dX0_offerLast_52 : decode cX0_offerLast 52 = .ok (.iaload, 1) := by decide +kernel
theorem dX0_offerLast_53 : decode cX0_offerLast 53 = .ok (.if_icmp .ge 7, 3) := by decide +kernel
theorem dX0_offerLast_56 : decode cX0_offerLast 56 = .ok (.iconst 1, 1) := by decide +kernel
theorem dX0_offerLast_57 : decode cX0_offerLast 57 = .ok (.goto 4, 3) := by decide +kernel
theorem dX0_offerLast_60 : decode cX0_offerLast 60 = .ok (.iconst 0, 1) := by decide +kernel
theorem dX0_offerLast_61 : decode cX0_offerLast 61 = .ok (.istore 6, 2) := by decide +kernel
theorem dX0_offerLast_63 : decode cX0_offerLast 63 = .ok (.iload 5, 2) := by decide +kernel
theorem dX0_offerLast_65 : decode cX0_offerLast 65 = .ok (.aload_n 0, 1) := by decide +kernel
theorem dX0_offerLast_66 : decode cX0_offerLast 66 = .ok (.getfield 34, 3) := by decide +kernel
theorem dX0_offerLast_69 : decode cX0_offerLast 69 = .ok (.if_icmp .lt 8, 3) := by decide +kernel
theorem dX0_offerLast_72 : decode cX0_offerLast 72 = .ok (.iload 6, 2) := by decide +kernel
theorem dX0_offerLast_74 : decode cX0_offerLast 74 = .ok (.ifCond .eq 30, 3) := by decide +kernel
theorem dX0_offerLast_77 : decode cX0_offerLast 77 = .ok (.aload_n 0, 1) := by decide +kernel
theorem dX0_offerLast_78 : decode cX0_offerLast 78 = .ok (.aload_n 0, 1) := by decide +kernel
theorem dX0_offerLast_79 : decode cX0_offerLast 79 = .ok (.getfield 34, 3) := by decide +kernel
theorem dX0_offerLast_82 : decode cX0_offerLast 82 = .ok (.putfield 38, 3) := by decide +kernel
theorem dX0_offerLast_85 : decode cX0_offerLast 85 = .ok (.aload_n 0, 1) := by decide +kernel
theorem dX0_offerLast_86 : decode cX0_offerLast 86 = .ok (.iload 5, 2) := by decide +kernel
theorem dX0_offerLast_88 : decode cX0_offerLast 88 = .ok (.putfield 34, 3) := by decide +kernel
theorem dX0_offerLast_91 : decode cX0_offerLast 91 = .ok (.aload_n 0, 1) := by decide +kernel
theorem dX0_offerLast_92 : decode cX0_offerLast 92 = .ok (.iload_n 1, 1) := by decide +kernel
theorem dX0_offerLast_93 : decode cX0_offerLast 93 = .ok (.putfield 113, 3) := by decide +kernel
theorem dX0_offerLast_96 : decode cX0_offerLast 96 = .ok (.aload_n 0, 1) := by decide +kernel
theorem dX0_offerLast_97 : decode cX0_offerLast 97 = .ok (.iload_n 2, 1) := by decide +kernel
theorem dX0_offerLast_98 : decode cX0_offerLast 98 = .ok (.putfield 116, 3) := by decide +kernel
theorem dX0_offerLast_101 : decode cX0_offerLast 101 = .ok (.goto 16, 3) := by decide +kernel
theorem dX0_offerLast_104 : decode cX0_offerLast 104 = .ok (.aload_n 0, 1) := by decide +kernel
theorem dX0_offerLast_105 : decode cX0_offerLast 105 = .ok (.aload_n 0, 1) := by decide +kernel
theorem dX0_offerLast_106 : decode cX0_offerLast 106 = .ok (.getfield 38, 3) := by decide +kernel
theorem dX0_offerLast_109 : decode cX0_offerLast 109 = .ok (.iload 5, 2) := by decide +kernel
theorem dX0_offerLast_111 : decode cX0_offerLast 111 = .ok (.invokestatic 105, 3) := by decide +kernel
theorem dX0_offerLast_114 : decode cX0_offerLast 114 = .ok (.putfield 38, 3) := by decide +kernel
theorem dX0_offerLast_117 : decode cX0_offerLast 117 = .ok (.aload_n 0, 1) := by decide +kernel
theorem dX0_offerLast_118 : decode cX0_offerLast 118 = .ok (.getfield 15, 3) := by decide +kernel
theorem dX0_offerLast_121 : decode cX0_offerLast 121 = .ok (.iload 4, 2) := by decide +kernel
theorem dX0_offerLast_123 : decode cX0_offerLast 123 = .ok (.iaload, 1) := by decide +kernel
theorem dX0_offerLast_124 : decode cX0_offerLast 124 = .ok (.ldc 33, 2) := by decide +kernel
theorem dX0_offerLast_126 : decode cX0_offerLast 126 = .ok (.if_icmp .ge 23, 3) := by decide +kernel
theorem dX0_offerLast_129 : decode cX0_offerLast 129 = .ok (.aload_n 0, 1) := by decide +kernel
theorem dX0_offerLast_130 : decode cX0_offerLast 130 = .ok (.aload_n 0, 1) := by decide +kernel
theorem dX0_offerLast_131 : decode cX0_offerLast 131 = .ok (.getfield 38, 3) := by decide +kernel
theorem dX0_offerLast_134 : decode cX0_offerLast 134 = .ok (.aload_n 0, 1) := by decide +kernel
theorem dX0_offerLast_135 : decode cX0_offerLast 135 = .ok (.getfield 15, 3) := by decide +kernel
theorem dX0_offerLast_138 : decode cX0_offerLast 138 = .ok (.iload 4, 2) := by decide +kernel
theorem dX0_offerLast_140 : decode cX0_offerLast 140 = .ok (.iaload, 1) := by decide +kernel
theorem dX0_offerLast_141 : decode cX0_offerLast 141 = .ok (.iload_n 3, 1) := by decide +kernel
theorem dX0_offerLast_142 : decode cX0_offerLast 142 = .ok (.iadd, 1) := by decide +kernel
theorem dX0_offerLast_143 : decode cX0_offerLast 143 = .ok (.invokestatic 105, 3) := by decide +kernel
theorem dX0_offerLast_146 : decode cX0_offerLast 146 = .ok (.putfield 38, 3) := by decide +kernel
theorem dX0_offerLast_149 : decode cX0_offerLast 149 = .ok (.return_, 1) := by decide +kernel
set_option maxRecDepth 20000 in
theorem ggX0_endInto_X0_cell : GoodIn wsX0_endInto wsX0_cell := goodIn_r _ [5] (by decide +kernel) (by decide +kernel)
set_option maxRecDepth 20000 in
theorem gX0_endInto_X0_cell : GoodIn wsX0_endInto (va_wsS RX0 50 yX0_cell wsX0_cell) := goodIn_app (goodIn_of _ (by decide +kernel)) ggX0_endInto_X0_cell
theorem dX0_endInto_0 : decode cX0_endInto 0 = .ok (.aload_n 0, 1) := by decide +kernel
theorem dX0_endInto_1 : decode cX0_endInto 1 = .ok (.getfield 24, 3) := by decide +kernel
theorem dX0_endInto_4 : decode cX0_endInto 4 = .ok (.iload_n 1, 1) := by decide +kernel
theorem dX0_endInto_5 : decode cX0_endInto 5 = .ok (.iload_n 2, 1) := by decide +kernel
theorem dX0_endInto_6 : decode cX0_endInto 6 = .ok (.invokestatic 50, 3) := by decide +kernel
theorem dX0_endInto_9 : decode cX0_endInto 9 = .ok (.iaload, 1) := by decide +kernel
theorem dX0_endInto_10 : decode cX0_endInto 10 = .ok (.ireturn, 1) := by decide +kernel
set_option maxRecDepth 20000 in
theorem ggX0_goInto_X0_cell : GoodIn wsX0_goInto wsX0_cell := goodIn_r _ [5] (by decide +kernel) (by decide +kernel)
set_option maxRecDepth 20000 in
theorem gX0_goInto_X0_cell : GoodIn wsX0_goInto (va_wsS RX0 50 yX0_cell wsX0_cell) := goodIn_app (goodIn_of _ (by decide +kernel)) ggX0_goInto_X0_cell
theorem dX0_goInto_0 : decode cX0_goInto 0 = .ok (.aload_n 0, 1) := by decide +kernel
theorem dX0_goInto_1 : decode cX0_goInto 1 = .ok (.getfield 27, 3) := by decide +kernel
theorem dX0_goInto_4 : decode cX0_goInto 4 = .ok (.iload_n 1, 1) := by decide +kernel
theorem dX0_goInto_5 : decode cX0_goInto 5 = .ok (.iload_n 2, 1) := by decide +kernel
theorem dX0_goInto_6 : decode cX0_goInto 6 = .ok (.invokestatic 50, 3) := by decide +kernel
theorem dX0_goInto_9 : decode cX0_goInto 9 = .ok (.iaload, 1) := by decide +kernel
theorem dX0_goInto_10 : decode cX0_goInto 10 = .ok (.ireturn, 1) := by decide +kernel
set_option maxRecDepth 20000 in
theorem ggX0_nodeBehind_X0_cell : GoodIn wsX0_nodeBehind wsX0_cell := goodIn_r _ [7] (by decide +kernel) (by decide +kernel)
set_option maxRecDepth 20000 in
theorem gX0_nodeBehind_X0_cell : GoodIn wsX0_nodeBehind (va_wsS RX0 50 yX0_cell wsX0_cell) := goodIn_app (goodIn_of _ (by decide +kernel)) ggX0_nodeBehind_X0_cell
theorem dX0_nodeBehind_0 : decode cX0_nodeBehind 0 = .ok (.aload_n 0, 1) := by decide +kernel
theorem dX0_nodeBehind_1 : decode cX0_nodeBehind 1 = .ok (.getfield 113, 3) := by decide +kernel
theorem dX0_nodeBehind_4 : decode cX0_nodeBehind 4 = .ok (.istore_n 2, 1) := by decide +kernel
theorem dX0_nodeBehind_5 : decode cX0_nodeBehind 5 = .ok (.aload_n 0, 1) := by decide +kernel
theorem dX0_nodeBehind_6 : decode cX0_nodeBehind 6 = .ok (.getfield 47, 3) := by decide +kernel
theorem dX0_nodeBehind_9 : decode cX0_nodeBehind 9 = .ok (.istore_n 3, 1) := by decide +kernel
theorem dX0_nodeBehind_10 : decode cX0_nodeBehind 10 = .ok (.iload_n 3, 1) := by decide +kernel
theorem dX0_nodeBehind_11 : decode cX0_nodeBehind 11 = .ok (.iload_n 1, 1) := by decide +kernel
theorem dX0_nodeBehind_12 : decode cX0_nodeBehind 12 = .ok (.iconst 1, 1) := by decide +kernel
theorem dX0_nodeBehind_13 : decode cX0_nodeBehind 13 = .ok (.iadd, 1) := by decide +kernel
theorem dX0_nodeBehind_14 : decode cX0_nodeBehind 14 = .ok (.if_icmp .le 20, 3) := by decide +kernel
theorem dX0_nodeBehind_17 : decode cX0_nodeBehind 17 = .ok (.aload_n 0, 1) := by decide +kernel
theorem dX0_nodeBehind_18 : decode cX0_nodeBehind 18 = .ok (.getfield 21, 3) := by decide +kernel
theorem dX0_nodeBehind_21 : decode cX0_nodeBehind 21 = .ok (.iload_n 3, 1) := by decide +kernel
theorem dX0_nodeBehind_22 : decode cX0_nodeBehind 22 = .ok (.iload_n 2, 1) := by decide +kernel
theorem dX0_nodeBehind_23 : decode cX0_nodeBehind 23 = .ok (.invokestatic 50, 3) := by decide +kernel
theorem dX0_nodeBehind_26 : decode cX0_nodeBehind 26 = .ok (.iaload, 1) := by decide +kernel
theorem dX0_nodeBehind_27 : decode cX0_nodeBehind 27 = .ok (.istore_n 2, 1) := by decide +kernel
theorem dX0_nodeBehind_28 : decode cX0_nodeBehind 28 = .ok (.iinc 3 (-1), 3) := by decide +kernel
theorem dX0_nodeBehind_31 : decode cX0_nodeBehind 31 = .ok (.goto (-21), 3) := by decide +kernel
theorem dX0_nodeBehind_34 : decode cX0_nodeBehind 34 = .ok (.iload_n 2, 1) := by decide +kernel
theorem dX0_nodeBehind_35 : decode cX0_nodeBehind 35 = .ok (.ireturn, 1) := by decide +kernel
set_option maxRecDepth 20000 in
theorem ggX0_endsInside_X0_endInto : GoodIn wsX0_endsInside wsX0_endInto := goodIn_r _ [8, 9, 10, 11, 7, 12, 13, 14, 15, 16, 17, 18, 19, 20, 21, 22, 23, 24] (by decide +kernel) (by decide +kernel)
set_option maxRecDepth 20000 in
theorem gX0_endsInside_X0_endInto : GoodIn wsX0_endsInside (wsV RX0 126 RX0 yX0_endInto wsX0_endInto) := goodIn_app (goodIn_of _ (by decide +kernel)) ggX0_endsInside_X0_endInto
set_option maxRecDepth 20000 in
theorem ggX0_endsInside_X0_cell : GoodIn wsX0_endsInside wsX0_cell := goodIn_r _ [12] (by decide +kernel) (by decide +kernel)
set_option maxRecDepth 20000 in
theorem gX0_endsInside_X0_cell : GoodIn wsX0_endsInside (va_wsS RX0 50 yX0_cell wsX0_cell) := goodIn_app (goodIn_of _ (by decide +kernel)) ggX0_endsInside_X0_cell
theorem dX0_endsInside_0 : decode cX0_endsInside 0 = .ok (.iconst 0, 1) := by decide +kernel
theorem dX0_endsInside_1 : decode cX0_endsInside 1 = .ok (.istore_n 1, 1) := by decide +kernel
theorem dX0_endsInside_2 : decode cX0_endsInside 2 = .ok (.aload_n 0, 1) := by decide +kernel
theorem dX0_endsInside_3 : decode cX0_endsInside 3 = .ok (.getfield 113, 3) := by decide +kernel
theorem dX0_endsInside_6 : decode cX0_endsInside 6 = .ok (.istore_n 2, 1) := by decide +kernel
theorem dX0_endsInside_7 : decode cX0_endsInside 7 = .ok (.aload_n 0, 1) := by decide +kernel
theorem dX0_endsInside_8 : decode cX0_endsInside 8 = .ok (.getfield 47, 3) := by decide +kernel
theorem dX0_endsInside_11 : decode cX0_endsInside 11 = .ok (.istore_n 3, 1) := by decide +kernel
theorem dX0_endsInside_12 : decode cX0_endsInside 12 = .ok (.iload_n 3, 1) := by decide +kernel
theorem dX0_endsInside_13 : decode cX0_endsInside 13 = .ok (.ifCond .le 33, 3) := by decide +kernel
theorem dX0_endsInside_16 : decode cX0_endsInside 16 = .ok (.aload_n 0, 1) := by decide +kernel
theorem dX0_endsInside_17 : decode cX0_endsInside 17 = .ok (.iload_n 3, 1) := by decide +kernel
theorem dX0_endsInside_18 : decode cX0_endsInside 18 = .ok (.iload_n 2, 1) := by decide +kernel
theorem dX0_endsInside_19 : decode cX0_endsInside 19 = .ok (.invokevirtual 126, 3) := by decide +kernel
theorem dX0_endsInside_22 : decode cX0_endsInside 22 = .ok (.iconst (-1), 1) := by decide +kernel
theorem dX0_endsInside_23 : decode cX0_endsInside 23 = .ok (.if_icmp .eq 6, 3) := by decide +kernel
theorem dX0_endsInside_26 : decode cX0_endsInside 26 = .ok (.iinc 1 1, 3) := by decide +kernel
theorem dX0_endsInside_29 : decode cX0_endsInside 29 = .ok (.aload_n 0, 1) := by decide +kernel
theorem dX0_endsInside_30 : decode cX0_endsInside 30 = .ok (.getfield 21, 3) := by decide +kernel
theorem dX0_endsInside_33 : decode cX0_endsInside 33 = .ok (.iload_n 3, 1) := by decide +kernel
theorem dX0_endsInside_34 : decode cX0_endsInside 34 = .ok (.iload_n 2, 1) := by decide +kernel
theorem dX0_endsInside_35 : decode cX0_endsInside 35 = .ok (.invokestatic 50, 3) := by decide +kernel
theorem dX0_endsInside_38 : decode cX0_endsInside 38 = .ok (.iaload, 1) := by decide +kernel
theorem dX0_endsInside_39 : decode cX0_endsInside 39 = .ok (.istore_n 2, 1) := by decide +kernel
theorem dX0_endsInside_40 : decode cX0_endsInside 40 = .ok (.iinc 3 (-1), 3) := by decide +kernel
theorem dX0_endsInside_43 : decode cX0_endsInside 43 = .ok (.goto (-31), 3) := by decide +kernel
theorem dX0_endsInside_46 : decode cX0_endsInside 46 = .ok (.iload_n 1, 1) := by decide +kernel
theorem dX0_endsInside_47 : decode cX0_endsInside 47 = .ok (.ireturn, 1) := by decide +kernel
set_option maxRecDepth 20000 in
theorem ggX0_sharedSteps_X0_isReached : GoodIn wsX0_sharedSteps wsX0_isReached := goodIn_r _ [10, 11, 1, 12, 13, 14, 9, 15, 27, 28, 29, 30, 31, 32, 33, 34, 35, 36, 37, 38] (by decide +kernel) (by decide +kernel)
set_option maxRecDepth 20000 in
theorem gX0_sharedSteps_X0_isReached : GoodIn wsX0_sharedSteps (wsV RX0 54 RX0 yX0_isReached wsX0_isReached) := goodIn_app (goodIn_of _ (by decide +kernel)) ggX0_sharedSteps_X0_isReached
set_option maxRecDepth 20000 in
theorem ggX0_sharedSteps_X1_isHopeful : GoodIn wsX0_sharedSteps wsX1_isHopeful := goodIn_r _ [20, 21, 39, 40, 41, 42, 43, 44, 45, 46, 47, 48, 49] (by decide +kernel) (by decide +kernel)
set_option maxRecDepth 20000 in
theorem gX0_sharedSteps_X1_isHopeful : GoodIn wsX0_sharedSteps (wsV RX0 129 RX1 yX1_isHopeful wsX1_isHopeful) := goodIn_app (goodIn_of _ (by decide +kernel)) ggX0_sharedSteps_X1_isHopeful
set_option maxRecDepth 20000 in
theorem ggX0_sharedSteps_X0_meetingLevel : GoodIn wsX0_sharedSteps wsX0_meetingLevel := goodIn_r _ [25, 1, 26, 13, 14, 9, 15, 27, 28, 29, 30, 31, 32, 33, 34, 35, 36, 37, 38] (by decide +kernel) (by decide +kernel)
set_option maxRecDepth 20000 in
theorem gX0_sharedSteps_X0_meetingLevel : GoodIn wsX0_sharedSteps (wsV RX0 132 RX0 yX0_meetingLevel wsX0_meetingLevel) := goodIn_app (goodIn_of _ (by decide +kernel)) ggX0_sharedSteps_X0_meetingLevel
theorem dX0_sharedSteps_0 : decode cX0_sharedSteps 0 = .ok (.iconst (-1), 1) := by decide +kernel
theorem dX0_sharedSteps_1 : decode cX0_sharedSteps 1 = .ok (.istore_n 2, 1) := by decide +kernel
theorem dX0_sharedSteps_2 : decode cX0_sharedSteps 2 = .ok (.iconst 0, 1) := by decide +kernel
theorem dX0_sharedSteps_3 : decode cX0_sharedSteps 3 = .ok (.istore_n 3, 1) := by decide +kernel
theorem dX0_sharedSteps_4 : decode cX0_sharedSteps 4 = .ok (.iconst 0, 1) := by decide +kernel
theorem dX0_sharedSteps_5 : decode cX0_sharedSteps 5 = .ok (.istore 4, 2) := by decide +kernel
theorem dX0_sharedSteps_7 : decode cX0_sharedSteps 7 = .ok (.iload 4, 2) := by decide +kernel
theorem dX0_sharedSteps_9 : decode cX0_sharedSteps 9 = .ok (.bipush 20, 2) := by decide +kernel
theorem dX0_sharedSteps_11 : decode cX0_sharedSteps 11 = .ok (.if_icmp .ge 63, 3) := by decide +kernel
theorem dX0_sharedSteps_14 : decode cX0_sharedSteps 14 = .ok (.aload_n 0, 1) := by decide +kernel
theorem dX0_sharedSteps_15 : decode cX0_sharedSteps 15 = .ok (.iload 4, 2) := by decide +kernel
theorem dX0_sharedSteps_17 : decode cX0_sharedSteps 17 = .ok (.invokevirtual 54, 3) := by decide +kernel
theorem dX0_sharedSteps_20 : decode cX0_sharedSteps 20 = .ok (.ifCond .eq 48, 3) := by decide +kernel
theorem dX0_sharedSteps_23 : decode cX0_sharedSteps 23 = .ok (.aload_n 1, 1) := by decide +kernel
theorem dX0_sharedSteps_24 : decode cX0_sharedSteps 24 = .ok (.iload 4, 2) := by decide +kernel
theorem dX0_sharedSteps_26 : decode cX0_sharedSteps 26 = .ok (.invokevirtual 129, 3) := by decide +kernel
theorem dX0_sharedSteps_29 : decode cX0_sharedSteps 29 = .ok (.ifCond .eq 39, 3) := by decide +kernel
theorem dX0_sharedSteps_32 : decode cX0_sharedSteps 32 = .ok (.iload_n 2, 1) := by decide +kernel
theorem dX0_sharedSteps_33 : decode cX0_sharedSteps 33 = .ok (.iconst (-1), 1) := by decide +kernel
theorem dX0_sharedSteps_34 : decode cX0_sharedSteps 34 = .ok (.if_icmp .ne 10, 3) := by decide +kernel
theorem dX0_sharedSteps_37 : decode cX0_sharedSteps 37 = .ok (.aload_n 0, 1) := by decide +kernel
theorem dX0_sharedSteps_38 : decode cX0_sharedSteps 38 = .ok (.getfield 47, 3) := by decide +kernel
theorem dX0_sharedSteps_41 : decode cX0_sharedSteps 41 = .ok (.goto 14, 3) := by decide +kernel
theorem dX0_sharedSteps_44 : decode cX0_sharedSteps 44 = .ok (.iload_n 3, 1) := by decide +kernel
theorem dX0_sharedSteps_45 : decode cX0_sharedSteps 45 = .ok (.aload_n 0, 1) := by decide +kernel
theorem dX0_sharedSteps_46 : decode cX0_sharedSteps 46 = .ok (.iload_n 2, 1) := by decide +kernel
theorem dX0_sharedSteps_47 : decode cX0_sharedSteps 47 = .ok (.iload 4, 2) := by decide +kernel
theorem dX0_sharedSteps_49 : decode cX0_sharedSteps 49 = .ok (.invokevirtual 132, 3) := by decide +kernel
theorem dX0_sharedSteps_52 : decode cX0_sharedSteps 52 = .ok (.invokestatic 105, 3) := by decide +kernel
theorem dX0_sharedSteps_55 : decode cX0_sharedSteps 55 = .ok (.istore_n 3, 1) := by decide +kernel
theorem dX0_sharedSteps_56 : decode cX0_sharedSteps 56 = .ok (.iload_n 2, 1) := by decide +kernel
theorem dX0_sharedSteps_57 : decode cX0_sharedSteps 57 = .ok (.iconst (-1), 1) := by decide +kernel
theorem dX0_sharedSteps_58 : decode cX0_sharedSteps 58 = .ok (.if_icmp .ne 8, 3) := by decide +kernel
theorem dX0_sharedSteps_61 : decode cX0_sharedSteps 61 = .ok (.iload 4, 2) := by decide +kernel
theorem dX0_sharedSteps_63 : decode cX0_sharedSteps 63 = .ok (.goto 4, 3) := by decide +kernel
theorem dX0_sharedSteps_66 : decode cX0_sharedSteps 66 = .ok (.iload_n 2, 1) := by decide +kernel
theorem dX0_sharedSteps_67 : decode cX0_sharedSteps 67 = .ok (.istore_n 2, 1) := by decide +kernel
theorem dX0_sharedSteps_68 : decode cX0_sharedSteps 68 = .ok (.iinc 4 1, 3) := by decide +kernel
theorem dX0_sharedSteps_71 : decode cX0_sharedSteps 71 = .ok (.goto (-64), 3) := by decide +kernel
theorem dX0_sharedSteps_74 : decode cX0_sharedSteps 74 = .ok (.iload_n 3, 1) := by decide +kernel
theorem dX0_sharedSteps_75 : decode cX0_sharedSteps 75 = .ok (.ireturn, 1) := by decide +kernel
set_option maxRecDepth 20000 in
theorem ggX0_meetingLevel_X0_cell : GoodIn wsX0_meetingLevel wsX0_cell := goodIn_r _ [6] (by decide +kernel) (by decide +kernel)
set_option maxRecDepth 20000 in
theorem gX0_meetingLevel_X0_cell : GoodIn wsX0_meetingLevel (va_wsS RX0 50 yX0_cell wsX0_cell) := goodIn_app (goodIn_of _ (by decide +kernel)) ggX0_meetingLevel_X0_cell
theorem dX0_meetingLevel_0 : decode cX0_meetingLevel 0 = .ok (.iload_n 1, 1) := by decide +kernel
theorem dX0_meetingLevel_1 : decode cX0_meetingLevel 1 = .ok (.istore_n 3, 1) := by decide +kernel
theorem dX0_meetingLevel_2 : decode cX0_meetingLevel 2 = .ok (.iload_n 2, 1) := by decide +kernel
theorem dX0_meetingLevel_3 : decode cX0_meetingLevel 3 = .ok (.istore 4, 2) := by decide +kernel
theorem dX0_meetingLevel_5 : decode cX0_meetingLevel 5 = .ok (.aload_n 0, 1) := by decide +kernel
theorem dX0_meetingLevel_6 : decode cX0_meetingLevel 6 = .ok (.getfield 47, 3) := by decide +kernel
theorem dX0_meetingLevel_9 : decode cX0_meetingLevel 9 = .ok (.istore 5, 2) := by decide +kernel
theorem dX0_meetingLevel_11 : decode cX0_meetingLevel 11 = .ok (.iload 5, 2) := by decide +kernel
theorem dX0_meetingLevel_13 : decode cX0_meetingLevel 13 = .ok (.ifCond .le 44, 3) := by decide +kernel
theorem dX0_meetingLevel_16 : decode cX0_meetingLevel 16 = .ok (.iload_n 3, 1) := by decide +kernel
theorem dX0_meetingLevel_17 : decode cX0_meetingLevel 17 = .ok (.iload 4, 2) := by decide +kernel
theorem dX0_meetingLevel_19 : decode cX0_meetingLevel 19 = .ok (.if_icmp .ne 6, 3) := by decide +kernel
theorem dX0_meetingLevel_22 : decode cX0_meetingLevel 22 = .ok (.iload 5, 2) := by decide +kernel
theorem dX0_meetingLevel_24 : decode cX0_meetingLevel 24 = .ok (.ireturn, 1) := by decide +kernel
theorem dX0_meetingLevel_25 : decode cX0_meetingLevel 25 = .ok (.aload_n 0, 1) := by decide +kernel
theorem dX0_meetingLevel_26 : decode cX0_meetingLevel 26 = .ok (.getfield 21, 3) := by decide +kernel
theorem dX0_meetingLevel_29 : decode cX0_meetingLevel 29 = .ok (.iload 5, 2) := by decide +kernel
theorem dX0_meetingLevel_31 : decode cX0_meetingLevel 31 = .ok (.iload_n 3, 1) := by decide +kernel
theorem dX0_meetingLevel_32 : decode cX0_meetingLevel 32 = .ok (.invokestatic 50, 3) := by decide +kernel
theorem dX0_meetingLevel_35 : decode cX0_meetingLevel 35 = .ok (.iaload, 1) := by decide +kernel
theorem dX0_meetingLevel_36 : decode cX0_meetingLevel 36 = .ok (.istore_n 3, 1) := by decide +kernel
theorem dX0_meetingLevel_37 : decode cX0_meetingLevel 37 = .ok (.aload_n 0, 1) := by decide +kernel
theorem dX0_meetingLevel_38 : decode cX0_meetingLevel 38 = .ok (.getfield 21, 3) := by decide +kernel
theorem dX0_meetingLevel_41 : decode cX0_meetingLevel 41 = .ok (.iload 5, 2) := by decide +kernel
theorem dX0_meetingLevel_43 : decode cX0_meetingLevel 43 = .ok (.iload 4, 2) := by decide +kernel
theorem dX0_meetingLevel_45 : decode cX0_meetingLevel 45 = .ok (.invokestatic 50, 3) := by decide +kernel
theorem dX0_meetingLevel_48 : decode cX0_meetingLevel 48 = .ok (.iaload, 1) := by decide +kernel
theorem dX0_meetingLevel_49 : decode cX0_meetingLevel 49 = .ok (.istore 4, 2) := by decide +kernel
theorem dX0_meetingLevel_51 : decode cX0_meetingLevel 51 = .ok (.iinc 5 (-1), 3) := by decide +kernel
theorem dX0_meetingLevel_54 : decode cX0_meetingLevel 54 = .ok (.goto (-43), 3) := by decide +kernel
theorem dX0_meetingLevel_57 : decode cX0_meetingLevel 57 = .ok (.iconst 0, 1) := by decide +kernel
theorem dX0_meetingLevel_58 : decode cX0_meetingLevel 58 = .ok (.ireturn, 1) := by decide +kernel
theorem dX1_init_0 : decode cX1_init 0 = .ok (.aload_n 0, 1) := by decide +kernel
theorem dX1_init_1 : decode cX1_init 1 = .ok (.invokespecial 3, 3) := by decide +kernel
theorem dX1_init_4 : decode cX1_init 4 = .ok (.aload_n 0, 1) := by decide +kernel
theorem dX1_init_5 : decode cX1_init 5 = .ok (.bipush 40, 2) := by decide +kernel
theorem dX1_init_7 : decode cX1_init 7 = .ok (.newarray .int, 2) := by decide +kernel
theorem dX1_init_9 : decode cX1_init 9 = .ok (.putfield 11, 3) := by decide +kernel
theorem dX1_init_12 : decode cX1_init 12 = .ok (.aload_n 0, 1) := by decide +kernel
theorem dX1_init_13 : decode cX1_init 13 = .ok (.bipush 40, 2) := by decide +kernel
theorem dX1_init_15 : decode cX1_init 15 = .ok (.newarray .int, 2) := by decide +kernel
theorem dX1_init_17 : decode cX1_init 17 = .ok (.putfield 15, 3) := by decide +kernel
theorem dX1_init_20 : decode cX1_init 20 = .ok (.aload_n 0, 1) := by decide +kernel
theorem dX1_init_21 : decode cX1_init 21 = .ok (.bipush 40, 2) := by decide +kernel
theorem dX1_init_23 : decode cX1_init 23 = .ok (.newarray .int, 2) := by decide +kernel
theorem dX1_init_25 : decode cX1_init 25 = .ok (.putfield 18, 3) := by decide +kernel
theorem dX1_init_28 : decode cX1_init 28 = .ok (.aload_n 0, 1) := by decide +kernel
theorem dX1_init_29 : decode cX1_init 29 = .ok (.bipush 40, 2) := by decide +kernel
theorem dX1_init_31 : decode cX1_init 31 = .ok (.newarray .int, 2) := by decide +kernel
theorem dX1_init_33 : decode cX1_init 33 = .ok (.putfield 21, 3) := by decide +kernel
theorem dX1_init_36 : decode cX1_init 36 = .ok (.aload_n 0, 1) := by decide +kernel
theorem dX1_init_37 : decode cX1_init 37 = .ok (.bipush 40, 2) := by decide +kernel
theorem dX1_init_39 : decode cX1_init 39 = .ok (.newarray .int, 2) := by decide +kernel
theorem dX1_init_41 : decode cX1_init 41 = .ok (.putfield 24, 3) := by decide +kernel
theorem dX1_init_44 : decode cX1_init 44 = .ok (.aload_n 0, 1) := by decide +kernel
theorem dX1_init_45 : decode cX1_init 45 = .ok (.bipush 10, 2) := by decide +kernel
theorem dX1_init_47 : decode cX1_init 47 = .ok (.newarray .int, 2) := by decide +kernel
theorem dX1_init_49 : decode cX1_init 49 = .ok (.putfield 27, 3) := by decide +kernel
theorem dX1_init_52 : decode cX1_init 52 = .ok (.aload_n 0, 1) := by decide +kernel
theorem dX1_init_53 : decode cX1_init 53 = .ok (.bipush 10, 2) := by decide +kernel
theorem dX1_init_55 : decode cX1_init 55 = .ok (.newarray .int, 2) := by decide +kernel
theorem dX1_init_57 : decode cX1_init 57 = .ok (.putfield 30, 3) := by decide +kernel
theorem dX1_init_60 : decode cX1_init 60 = .ok (.aload_n 0, 1) := by decide +kernel
theorem dX1_init_61 : decode cX1_init 61 = .ok (.bipush 10, 2) := by decide +kernel
theorem dX1_init_63 : decode cX1_init 63 = .ok (.newarray .int, 2) := by decide +kernel
theorem dX1_init_65 : decode cX1_init 65 = .ok (.putfield 33, 3) := by decide +kernel
theorem dX1_init_68 : decode cX1_init 68 = .ok (.aload_n 0, 1) := by decide +kernel
theorem dX1_init_69 : decode cX1_init 69 = .ok (.bipush 20, 2) := by decide +kernel
theorem dX1_init_71 : decode cX1_init 71 = .ok (.newarray .boolean, 2) := by decide +kernel
theorem dX1_init_73 : decode cX1_init 73 = .ok (.putfield 38, 3) := by decide +kernel
theorem dX1_init_76 : decode cX1_init 76 = .ok (.return_, 1) := by decide +kernel
theorem dX1_empty_0 : decode cX1_empty 0 = .ok (.aload_n 0, 1) := by decide +kernel
theorem dX1_empty_1 : decode cX1_empty 1 = .ok (.iconst 0, 1) := by decide +kernel
theorem dX1_empty_2 : decode cX1_empty 2 = .ok (.putfield 42, 3) := by decide +kernel
theorem dX1_empty_5 : decode cX1_empty 5 = .ok (.aload_n 0, 1) := by decide +kernel
theorem dX1_empty_6 : decode cX1_empty 6 = .ok (.iconst 0, 1) := by decide +kernel
theorem dX1_empty_7 : decode cX1_empty 7 = .ok (.putfield 46, 3) := by decide +kernel
theorem dX1_empty_10 : decode cX1_empty 10 = .ok (.return_, 1) := by decide +kernel
theorem dX1_addGo_0 : decode cX1_addGo 0 = .ok (.aload_n 0, 1) := by decide +kernel
theorem dX1_addGo_1 : decode cX1_addGo 1 = .ok (.getfield 42, 3) := by decide +kernel
theorem dX1_addGo_4 : decode cX1_addGo 4 = .ok (.ifCond .lt 12, 3) := by decide +kernel
theorem dX1_addGo_7 : decode cX1_addGo 7 = .ok (.aload_n 0, 1) := by decide +kernel
theorem dX1_addGo_8 : decode cX1_addGo 8 = .ok (.getfield 42, 3) := by decide +kernel
theorem dX1_addGo_11 : decode cX1_addGo 11 = .ok (.bipush 40, 2) := by decide +kernel
theorem dX1_addGo_13 : decode cX1_addGo 13 = .ok (.if_icmp .lt 4, 3) := by decide +kernel
theorem dX1_addGo_16 : decode cX1_addGo 16 = .ok (.return_, 1) := by decide +kernel
theorem dX1_addGo_17 : decode cX1_addGo 17 = .ok (.aload_n 0, 1) := by decide +kernel
theorem dX1_addGo_18 : decode cX1_addGo 18 = .ok (.getfield 11, 3) := by decide +kernel
theorem dX1_addGo_21 : decode cX1_addGo 21 = .ok (.aload_n 0, 1) := by decide +kernel
theorem dX1_addGo_22 : decode cX1_addGo 22 = .ok (.getfield 42, 3) := by decide +kernel
theorem dX1_addGo_25 : decode cX1_addGo 25 = .ok (.iload_n 1, 1) := by decide +kernel
theorem dX1_addGo_26 : decode cX1_addGo 26 = .ok (.iastore, 1) := by decide +kernel
theorem dX1_addGo_27 : decode cX1_addGo 27 = .ok (.aload_n 0, 1) := by decide +kernel
theorem dX1_addGo_28 : decode cX1_addGo 28 = .ok (.getfield 15, 3) := by decide +kernel
theorem dX1_addGo_31 : decode cX1_addGo 31 = .ok (.aload_n 0, 1) := by decide +kernel
theorem dX1_addGo_32 : decode cX1_addGo 32 = .ok (.getfield 42, 3) := by decide +kernel
theorem dX1_addGo_35 : decode cX1_addGo 35 = .ok (.iload_n 2, 1) := by decide +kernel
theorem dX1_addGo_36 : decode cX1_addGo 36 = .ok (.iastore, 1) := by decide +kernel
theorem dX1_addGo_37 : decode cX1_addGo 37 = .ok (.aload_n 0, 1) := by decide +kernel
theorem dX1_addGo_38 : decode cX1_addGo 38 = .ok (.getfield 18, 3) := by decide +kernel
theorem dX1_addGo_41 : decode cX1_addGo 41 = .ok (.aload_n 0, 1) := by decide +kernel
theorem dX1_addGo_42 : decode cX1_addGo 42 = .ok (.getfield 42, 3) := by decide +kernel
theorem dX1_addGo_45 : decode cX1_addGo 45 = .ok (.iload_n 3, 1) := by decide +kernel
theorem dX1_addGo_46 : decode cX1_addGo 46 = .ok (.iastore, 1) := by decide +kernel
theorem dX1_addGo_47 : decode cX1_addGo 47 = .ok (.aload_n 0, 1) := by decide +kernel
theorem dX1_addGo_48 : decode cX1_addGo 48 = .ok (.getfield 21, 3) := by decide +kernel
theorem dX1_addGo_51 : decode cX1_addGo 51 = .ok (.aload_n 0, 1) := by decide +kernel
theorem dX1_addGo_52 : decode cX1_addGo 52 = .ok (.getfield 42, 3) := by decide +kernel
theorem dX1_addGo_55 : decode cX1_addGo 55 = .ok (.iload 4, 2) := by decide +kernel
theorem dX1_addGo_57 : decode cX1_addGo 57 = .ok (.iastore, 1) := by decide +kernel
theorem dX1_addGo_58 : decode cX1_addGo 58 = .ok (.aload_n 0, 1) := by decide +kernel
theorem dX1_addGo_59 : decode cX1_addGo 59 = .ok (.getfield 24, 3) := by decide +kernel
theorem dX1_addGo_62 : decode cX1_addGo 62 = .ok (.aload_n 0, 1) := by decide +kernel
theorem dX1_addGo_63 : decode cX1_addGo 63 = .ok (.getfield 42, 3) := by decide +kernel
theorem dX1_addGo_66 : decode cX1_addGo 66 = .ok (.iload 5, 2) := by decide +kernel
theorem dX1_addGo_68 : decode cX1_addGo 68 = .ok (.iastore, 1) := by decide +kernel
theorem dX1_addGo_69 : decode cX1_addGo 69 = .ok (.aload_n 0, 1) := by decide +kernel
theorem dX1_addGo_70 : decode cX1_addGo 70 = .ok (.dup, 1) := by decide +kernel
theorem dX1_addGo_71 : decode cX1_addGo 71 = .ok (.getfield 42, 3) := by decide +kernel
theorem dX1_addGo_74 : decode cX1_addGo 74 = .ok (.iconst 1, 1) := by decide +kernel
theorem dX1_addGo_75 : decode cX1_addGo 75 = .ok (.iadd, 1) := by decide +kernel
theorem dX1_addGo_76 : decode cX1_addGo 76 = .ok (.putfield 42, 3) := by decide +kernel
theorem dX1_addGo_79 : decode cX1_addGo 79 = .ok (.return_, 1) := by decide +kernel
theorem dX1_addEnd_0 : decode cX1_addEnd 0 = .ok (.aload_n 0, 1) := by decide +kernel
theorem dX1_addEnd_1 : decode cX1_addEnd 1 = .ok (.getfield 46, 3) := by decide +kernel
theorem dX1_addEnd_4 : decode cX1_addEnd 4 = .ok (.ifCond .lt 12, 3) := by decide +kernel
theorem dX1_addEnd_7 : decode cX1_addEnd 7 = .ok (.aload_n 0, 1) := by decide +kernel
theorem dX1_addEnd_8 : decode cX1_addEnd 8 = .ok (.getfield 46, 3) := by decide +kernel
theorem dX1_addEnd_11 : decode cX1_addEnd 11 = .ok (.bipush 10, 2) := by decide +kernel
theorem dX1_addEnd_13 : decode cX1_addEnd 13 = .ok (.if_icmp .lt 4, 3) := by decide +kernel
theorem dX1_addEnd_16 : decode cX1_addEnd 16 = .ok (.return_, 1) := by decide +kernel
theorem dX1_addEnd_17 : decode cX1_addEnd 17 = .ok (.aload_n 0, 1) := by decide +kernel
theorem dX1_addEnd_18 : decode cX1_addEnd 18 = .ok (.getfield 27, 3) := by decide +kernel
theorem dX1_addEnd_21 : decode cX1_addEnd 21 = .ok (.aload_n 0, 1) := by decide +kernel
theorem dX1_addEnd_22 : decode cX1_addEnd 22 = .ok (.getfield 46, 3) := by decide +kernel
theorem dX1_addEnd_25 : decode cX1_addEnd 25 = .ok (.iload_n 1, 1) := by decide +kernel
theorem dX1_addEnd_26 : decode cX1_addEnd 26 = .ok (.iastore, 1) := by decide +kernel
theorem dX1_addEnd_27 : decode cX1_addEnd 27 = .ok (.aload_n 0, 1) := by decide +kernel
theorem dX1_addEnd_28 : decode cX1_addEnd 28 = .ok (.getfield 30, 3) := by decide +kernel
theorem dX1_addEnd_31 : decode cX1_addEnd 31 = .ok (.aload_n 0, 1) := by decide +kernel
theorem dX1_addEnd_32 : decode cX1_addEnd 32 = .ok (.getfield 46, 3) := by decide +kernel
theorem dX1_addEnd_35 : decode cX1_addEnd 35 = .ok (.iload_n 2, 1) := by decide +kernel

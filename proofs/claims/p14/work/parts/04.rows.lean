theorem dX1_addEnd_36 : decode cX1_addEnd 36 = .ok (.iastore, 1) := by decide +kernel
theorem dX1_addEnd_37 : decode cX1_addEnd 37 = .ok (.aload_n 0, 1) := by decide +kernel
theorem dX1_addEnd_38 : decode cX1_addEnd 38 = .ok (.getfield 33, 3) := by decide +kernel
theorem dX1_addEnd_41 : decode cX1_addEnd 41 = .ok (.aload_n 0, 1) := by decide +kernel
theorem dX1_addEnd_42 : decode cX1_addEnd 42 = .ok (.getfield 46, 3) := by decide +kernel
theorem dX1_addEnd_45 : decode cX1_addEnd 45 = .ok (.iload_n 3, 1) := by decide +kernel
theorem dX1_addEnd_46 : decode cX1_addEnd 46 = .ok (.iastore, 1) := by decide +kernel
theorem dX1_addEnd_47 : decode cX1_addEnd 47 = .ok (.aload_n 0, 1) := by decide +kernel
theorem dX1_addEnd_48 : decode cX1_addEnd 48 = .ok (.dup, 1) := by decide +kernel
theorem dX1_addEnd_49 : decode cX1_addEnd 49 = .ok (.getfield 46, 3) := by decide +kernel
theorem dX1_addEnd_52 : decode cX1_addEnd 52 = .ok (.iconst 1, 1) := by decide +kernel
theorem dX1_addEnd_53 : decode cX1_addEnd 53 = .ok (.iadd, 1) := by decide +kernel
theorem dX1_addEnd_54 : decode cX1_addEnd 54 = .ok (.putfield 46, 3) := by decide +kernel
theorem dX1_addEnd_57 : decode cX1_addEnd 57 = .ok (.return_, 1) := by decide +kernel
theorem dX1_hasGo_0 : decode cX1_hasGo 0 = .ok (.iload_n 1, 1) := by decide +kernel
theorem dX1_hasGo_1 : decode cX1_hasGo 1 = .ok (.ifCond .lt 21, 3) := by decide +kernel
theorem dX1_hasGo_4 : decode cX1_hasGo 4 = .ok (.iload_n 1, 1) := by decide +kernel
theorem dX1_hasGo_5 : decode cX1_hasGo 5 = .ok (.aload_n 0, 1) := by decide +kernel
theorem dX1_hasGo_6 : decode cX1_hasGo 6 = .ok (.getfield 42, 3) := by decide +kernel
theorem dX1_hasGo_9 : decode cX1_hasGo 9 = .ok (.if_icmp .ge 13, 3) := by decide +kernel
theorem dX1_hasGo_12 : decode cX1_hasGo 12 = .ok (.iload_n 1, 1) := by decide +kernel
theorem dX1_hasGo_13 : decode cX1_hasGo 13 = .ok (.bipush 40, 2) := by decide +kernel
theorem dX1_hasGo_15 : decode cX1_hasGo 15 = .ok (.if_icmp .ge 7, 3) := by decide +kernel
theorem dX1_hasGo_18 : decode cX1_hasGo 18 = .ok (.iconst 1, 1) := by decide +kernel
theorem dX1_hasGo_19 : decode cX1_hasGo 19 = .ok (.goto 4, 3) := by decide +kernel
theorem dX1_hasGo_22 : decode cX1_hasGo 22 = .ok (.iconst 0, 1) := by decide +kernel
theorem dX1_hasGo_23 : decode cX1_hasGo 23 = .ok (.ireturn, 1) := by decide +kernel
theorem dX1_hasEnd_0 : decode cX1_hasEnd 0 = .ok (.iload_n 1, 1) := by decide +kernel
theorem dX1_hasEnd_1 : decode cX1_hasEnd 1 = .ok (.ifCond .lt 21, 3) := by decide +kernel
theorem dX1_hasEnd_4 : decode cX1_hasEnd 4 = .ok (.iload_n 1, 1) := by decide +kernel
theorem dX1_hasEnd_5 : decode cX1_hasEnd 5 = .ok (.aload_n 0, 1) := by decide +kernel
theorem dX1_hasEnd_6 : decode cX1_hasEnd 6 = .ok (.getfield 46, 3) := by decide +kernel
theorem dX1_hasEnd_9 : decode cX1_hasEnd 9 = .ok (.if_icmp .ge 13, 3) := by decide +kernel
theorem dX1_hasEnd_12 : decode cX1_hasEnd 12 = .ok (.iload_n 1, 1) := by decide +kernel
theorem dX1_hasEnd_13 : decode cX1_hasEnd 13 = .ok (.bipush 10, 2) := by decide +kernel
theorem dX1_hasEnd_15 : decode cX1_hasEnd 15 = .ok (.if_icmp .ge 7, 3) := by decide +kernel
theorem dX1_hasEnd_18 : decode cX1_hasEnd 18 = .ok (.iconst 1, 1) := by decide +kernel
theorem dX1_hasEnd_19 : decode cX1_hasEnd 19 = .ok (.goto 4, 3) := by decide +kernel
theorem dX1_hasEnd_22 : decode cX1_hasEnd 22 = .ok (.iconst 0, 1) := by decide +kernel
theorem dX1_hasEnd_23 : decode cX1_hasEnd 23 = .ok (.ireturn, 1) := by decide +kernel
set_option maxRecDepth 20000 in
theorem ggX1_markOfGo_X1_hasGo : GoodIn wsX1_markOfGo wsX1_hasGo := goodIn_r _ [6, 7, 8, 9, 10, 11, 12, 13, 14, 15, 16, 17, 18] (by decide +kernel) (by decide +kernel)
set_option maxRecDepth 20000 in
theorem gX1_markOfGo_X1_hasGo : GoodIn wsX1_markOfGo (wsV RX1 49 RX1 yX1_hasGo wsX1_hasGo) := goodIn_app (goodIn_of _ (by decide +kernel)) ggX1_markOfGo_X1_hasGo
theorem dX1_markOfGo_0 : decode cX1_markOfGo 0 = .ok (.aload_n 0, 1) := by decide +kernel
theorem dX1_markOfGo_1 : decode cX1_markOfGo 1 = .ok (.iload_n 1, 1) := by decide +kernel
theorem dX1_markOfGo_2 : decode cX1_markOfGo 2 = .ok (.invokevirtual 49, 3) := by decide +kernel
theorem dX1_markOfGo_5 : decode cX1_markOfGo 5 = .ok (.ifCond .eq 12, 3) := by decide +kernel
theorem dX1_markOfGo_8 : decode cX1_markOfGo 8 = .ok (.aload_n 0, 1) := by decide +kernel
theorem dX1_markOfGo_9 : decode cX1_markOfGo 9 = .ok (.getfield 24, 3) := by decide +kernel
theorem dX1_markOfGo_12 : decode cX1_markOfGo 12 = .ok (.iload_n 1, 1) := by decide +kernel
theorem dX1_markOfGo_13 : decode cX1_markOfGo 13 = .ok (.iaload, 1) := by decide +kernel
theorem dX1_markOfGo_14 : decode cX1_markOfGo 14 = .ok (.goto 4, 3) := by decide +kernel
theorem dX1_markOfGo_17 : decode cX1_markOfGo 17 = .ok (.iconst 0, 1) := by decide +kernel
theorem dX1_markOfGo_18 : decode cX1_markOfGo 18 = .ok (.ireturn, 1) := by decide +kernel
set_option maxRecDepth 20000 in
theorem ggX1_markOfEnd_X1_hasEnd : GoodIn wsX1_markOfEnd wsX1_hasEnd := goodIn_r _ [6, 7, 8, 9, 10, 11, 12, 13, 14, 15, 16, 17, 18] (by decide +kernel) (by decide +kernel)
set_option maxRecDepth 20000 in
theorem gX1_markOfEnd_X1_hasEnd : GoodIn wsX1_markOfEnd (wsV RX1 53 RX1 yX1_hasEnd wsX1_hasEnd) := goodIn_app (goodIn_of _ (by decide +kernel)) ggX1_markOfEnd_X1_hasEnd
theorem dX1_markOfEnd_0 : decode cX1_markOfEnd 0 = .ok (.aload_n 0, 1) := by decide +kernel
theorem dX1_markOfEnd_1 : decode cX1_markOfEnd 1 = .ok (.iload_n 1, 1) := by decide +kernel
theorem dX1_markOfEnd_2 : decode cX1_markOfEnd 2 = .ok (.invokevirtual 53, 3) := by decide +kernel
theorem dX1_markOfEnd_5 : decode cX1_markOfEnd 5 = .ok (.ifCond .eq 12, 3) := by decide +kernel
theorem dX1_markOfEnd_8 : decode cX1_markOfEnd 8 = .ok (.aload_n 0, 1) := by decide +kernel
theorem dX1_markOfEnd_9 : decode cX1_markOfEnd 9 = .ok (.getfield 33, 3) := by decide +kernel
theorem dX1_markOfEnd_12 : decode cX1_markOfEnd 12 = .ok (.iload_n 1, 1) := by decide +kernel
theorem dX1_markOfEnd_13 : decode cX1_markOfEnd 13 = .ok (.iaload, 1) := by decide +kernel
theorem dX1_markOfEnd_14 : decode cX1_markOfEnd 14 = .ok (.goto 4, 3) := by decide +kernel
theorem dX1_markOfEnd_17 : decode cX1_markOfEnd 17 = .ok (.iconst 0, 1) := by decide +kernel
theorem dX1_markOfEnd_18 : decode cX1_markOfEnd 18 = .ok (.ireturn, 1) := by decide +kernel
set_option maxRecDepth 20000 in
theorem ggX1_costOfEnd_X1_hasEnd : GoodIn wsX1_costOfEnd wsX1_hasEnd := goodIn_r _ [6, 7, 8, 9, 10, 11, 12, 13, 14, 15, 16, 17, 18] (by decide +kernel) (by decide +kernel)
set_option maxRecDepth 20000 in
theorem gX1_costOfEnd_X1_hasEnd : GoodIn wsX1_costOfEnd (wsV RX1 53 RX1 yX1_hasEnd wsX1_hasEnd) := goodIn_app (goodIn_of _ (by decide +kernel)) ggX1_costOfEnd_X1_hasEnd
theorem dX1_costOfEnd_0 : decode cX1_costOfEnd 0 = .ok (.aload_n 0, 1) := by decide +kernel
theorem dX1_costOfEnd_1 : decode cX1_costOfEnd 1 = .ok (.iload_n 1, 1) := by decide +kernel
theorem dX1_costOfEnd_2 : decode cX1_costOfEnd 2 = .ok (.invokevirtual 53, 3) := by decide +kernel
theorem dX1_costOfEnd_5 : decode cX1_costOfEnd 5 = .ok (.ifCond .eq 12, 3) := by decide +kernel
theorem dX1_costOfEnd_8 : decode cX1_costOfEnd 8 = .ok (.aload_n 0, 1) := by decide +kernel
theorem dX1_costOfEnd_9 : decode cX1_costOfEnd 9 = .ok (.getfield 30, 3) := by decide +kernel
theorem dX1_costOfEnd_12 : decode cX1_costOfEnd 12 = .ok (.iload_n 1, 1) := by decide +kernel
theorem dX1_costOfEnd_13 : decode cX1_costOfEnd 13 = .ok (.iaload, 1) := by decide +kernel
theorem dX1_costOfEnd_14 : decode cX1_costOfEnd 14 = .ok (.goto 4, 3) := by decide +kernel
theorem dX1_costOfEnd_17 : decode cX1_costOfEnd 17 = .ok (.iconst 0, 1) := by decide +kernel
theorem dX1_costOfEnd_18 : decode cX1_costOfEnd 18 = .ok (.ireturn, 1) := by decide +kernel
set_option maxRecDepth 20000 in
theorem ggX1_canEnd_X1_hasEnd : GoodIn wsX1_canEnd wsX1_hasEnd := goodIn_r _ [7, 8, 9, 10, 11, 12, 13, 14, 15, 16, 17, 18, 19] (by decide +kernel) (by decide +kernel)
set_option maxRecDepth 20000 in
theorem gX1_canEnd_X1_hasEnd : GoodIn wsX1_canEnd (wsV RX1 53 RX1 yX1_hasEnd wsX1_hasEnd) := goodIn_app (goodIn_of _ (by decide +kernel)) ggX1_canEnd_X1_hasEnd
theorem dX1_canEnd_0 : decode cX1_canEnd 0 = .ok (.aload_n 0, 1) := by decide +kernel
theorem dX1_canEnd_1 : decode cX1_canEnd 1 = .ok (.iload_n 1, 1) := by decide +kernel
theorem dX1_canEnd_2 : decode cX1_canEnd 2 = .ok (.invokevirtual 53, 3) := by decide +kernel
theorem dX1_canEnd_5 : decode cX1_canEnd 5 = .ok (.ifCond .eq 32, 3) := by decide +kernel
theorem dX1_canEnd_8 : decode cX1_canEnd 8 = .ok (.aload_n 0, 1) := by decide +kernel
theorem dX1_canEnd_9 : decode cX1_canEnd 9 = .ok (.getfield 27, 3) := by decide +kernel
theorem dX1_canEnd_12 : decode cX1_canEnd 12 = .ok (.iload_n 1, 1) := by decide +kernel
theorem dX1_canEnd_13 : decode cX1_canEnd 13 = .ok (.iaload, 1) := by decide +kernel
theorem dX1_canEnd_14 : decode cX1_canEnd 14 = .ok (.iload_n 2, 1) := by decide +kernel
theorem dX1_canEnd_15 : decode cX1_canEnd 15 = .ok (.if_icmp .ne 22, 3) := by decide +kernel
theorem dX1_canEnd_18 : decode cX1_canEnd 18 = .ok (.iload_n 3, 1) := by decide +kernel
theorem dX1_canEnd_19 : decode cX1_canEnd 19 = .ok (.iconst (-1), 1) := by decide +kernel
theorem dX1_canEnd_20 : decode cX1_canEnd 20 = .ok (.if_icmp .eq 13, 3) := by decide +kernel
theorem dX1_canEnd_23 : decode cX1_canEnd 23 = .ok (.aload_n 0, 1) := by decide +kernel
theorem dX1_canEnd_24 : decode cX1_canEnd 24 = .ok (.getfield 33, 3) := by decide +kernel
theorem dX1_canEnd_27 : decode cX1_canEnd 27 = .ok (.iload_n 1, 1) := by decide +kernel
theorem dX1_canEnd_28 : decode cX1_canEnd 28 = .ok (.iaload, 1) := by decide +kernel
theorem dX1_canEnd_29 : decode cX1_canEnd 29 = .ok (.iload_n 3, 1) := by decide +kernel
theorem dX1_canEnd_30 : decode cX1_canEnd 30 = .ok (.if_icmp .ne 7, 3) := by decide +kernel
theorem dX1_canEnd_33 : decode cX1_canEnd 33 = .ok (.iconst 1, 1) := by decide +kernel
theorem dX1_canEnd_34 : decode cX1_canEnd 34 = .ok (.goto 4, 3) := by decide +kernel
theorem dX1_canEnd_37 : decode cX1_canEnd 37 = .ok (.iconst 0, 1) := by decide +kernel
theorem dX1_canEnd_38 : decode cX1_canEnd 38 = .ok (.ireturn, 1) := by decide +kernel
set_option maxRecDepth 20000 in
theorem ggX1_canGo_X1_hasGo : GoodIn wsX1_canGo wsX1_hasGo := goodIn_r _ [8, 9, 10, 11, 12, 13, 14, 15, 16, 17, 18, 19, 20] (by decide +kernel) (by decide +kernel)
set_option maxRecDepth 20000 in
theorem gX1_canGo_X1_hasGo : GoodIn wsX1_canGo (wsV RX1 49 RX1 yX1_hasGo wsX1_hasGo) := goodIn_app (goodIn_of _ (by decide +kernel)) ggX1_canGo_X1_hasGo
theorem dX1_canGo_0 : decode cX1_canGo 0 = .ok (.aload_n 0, 1) := by decide +kernel
theorem dX1_canGo_1 : decode cX1_canGo 1 = .ok (.iload_n 1, 1) := by decide +kernel
theorem dX1_canGo_2 : decode cX1_canGo 2 = .ok (.invokevirtual 49, 3) := by decide +kernel
theorem dX1_canGo_5 : decode cX1_canGo 5 = .ok (.ifCond .eq 48, 3) := by decide +kernel
theorem dX1_canGo_8 : decode cX1_canGo 8 = .ok (.aload_n 0, 1) := by decide +kernel
theorem dX1_canGo_9 : decode cX1_canGo 9 = .ok (.getfield 11, 3) := by decide +kernel
theorem dX1_canGo_12 : decode cX1_canGo 12 = .ok (.iload_n 1, 1) := by decide +kernel
theorem dX1_canGo_13 : decode cX1_canGo 13 = .ok (.iaload, 1) := by decide +kernel
theorem dX1_canGo_14 : decode cX1_canGo 14 = .ok (.iload_n 2, 1) := by decide +kernel
theorem dX1_canGo_15 : decode cX1_canGo 15 = .ok (.if_icmp .ne 38, 3) := by decide +kernel
theorem dX1_canGo_18 : decode cX1_canGo 18 = .ok (.iload_n 3, 1) := by decide +kernel
theorem dX1_canGo_19 : decode cX1_canGo 19 = .ok (.aload_n 0, 1) := by decide +kernel
theorem dX1_canGo_20 : decode cX1_canGo 20 = .ok (.getfield 15, 3) := by decide +kernel
theorem dX1_canGo_23 : decode cX1_canGo 23 = .ok (.iload_n 1, 1) := by decide +kernel
theorem dX1_canGo_24 : decode cX1_canGo 24 = .ok (.iaload, 1) := by decide +kernel
theorem dX1_canGo_25 : decode cX1_canGo 25 = .ok (.ishr, 1) := by decide +kernel
theorem dX1_canGo_26 : decode cX1_canGo 26 = .ok (.iconst 1, 1) := by decide +kernel
theorem dX1_canGo_27 : decode cX1_canGo 27 = .ok (.iand, 1) := by decide +kernel
theorem dX1_canGo_28 : decode cX1_canGo 28 = .ok (.iconst 1, 1) := by decide +kernel
theorem dX1_canGo_29 : decode cX1_canGo 29 = .ok (.if_icmp .ne 24, 3) := by decide +kernel
theorem dX1_canGo_32 : decode cX1_canGo 32 = .ok (.iload 4, 2) := by decide +kernel
theorem dX1_canGo_34 : decode cX1_canGo 34 = .ok (.iconst (-1), 1) := by decide +kernel
theorem dX1_canGo_35 : decode cX1_canGo 35 = .ok (.if_icmp .eq 14, 3) := by decide +kernel
theorem dX1_canGo_38 : decode cX1_canGo 38 = .ok (.aload_n 0, 1) := by decide +kernel
theorem dX1_canGo_39 : decode cX1_canGo 39 = .ok (.getfield 24, 3) := by decide +kernel
theorem dX1_canGo_42 : decode cX1_canGo 42 = .ok (.iload_n 1, 1) := by decide +kernel
theorem dX1_canGo_43 : decode cX1_canGo 43 = .ok (.iaload, 1) := by decide +kernel
theorem dX1_canGo_44 : decode cX1_canGo 44 = .ok (.iload 4, 2) := by decide +kernel
theorem dX1_canGo_46 : decode cX1_canGo 46 = .ok (.if_icmp .ne 7, 3) := by decide +kernel
theorem dX1_canGo_49 : decode cX1_canGo 49 = .ok (.iconst 1, 1) := by decide +kernel
theorem dX1_canGo_50 : decode cX1_canGo 50 = .ok (.goto 4, 3) := by decide +kernel
theorem dX1_canGo_53 : decode cX1_canGo 53 = .ok (.iconst 0, 1) := by decide +kernel
theorem dX1_canGo_54 : decode cX1_canGo 54 = .ok (.ireturn, 1) := by decide +kernel
set_option maxRecDepth 20000 in
theorem ggX1_nodeBehind_X1_hasGo : GoodIn wsX1_nodeBehind wsX1_hasGo := goodIn_r _ [7, 8, 12, 13, 14, 15, 16, 17, 18, 19, 20, 21, 22] (by decide +kernel) (by decide +kernel)
set_option maxRecDepth 20000 in
theorem gX1_nodeBehind_X1_hasGo : GoodIn wsX1_nodeBehind (wsV RX1 49 RX1 yX1_hasGo wsX1_hasGo) := goodIn_app (goodIn_of _ (by decide +kernel)) ggX1_nodeBehind_X1_hasGo
set_option maxRecDepth 20000 in
theorem ggX1_nodeBehind_X4_nodeOf : GoodIn wsX1_nodeBehind wsX4_nodeOf := goodIn_r _ [11] (by decide +kernel) (by decide +kernel)
set_option maxRecDepth 20000 in
theorem gX1_nodeBehind_X4_nodeOf_n56 : GoodIn wsX1_nodeBehind (wsX4_nodeOf) := ggX1_nodeBehind_X4_nodeOf
theorem dX1_nodeBehind_0 : decode cX1_nodeBehind 0 = .ok (.aload_n 0, 1) := by decide +kernel
theorem dX1_nodeBehind_1 : decode cX1_nodeBehind 1 = .ok (.iload_n 1, 1) := by decide +kernel
theorem dX1_nodeBehind_2 : decode cX1_nodeBehind 2 = .ok (.invokevirtual 49, 3) := by decide +kernel
theorem dX1_nodeBehind_5 : decode cX1_nodeBehind 5 = .ok (.ifCond .ne 5, 3) := by decide +kernel
theorem dX1_nodeBehind_8 : decode cX1_nodeBehind 8 = .ok (.iconst (-1), 1) := by decide +kernel
theorem dX1_nodeBehind_9 : decode cX1_nodeBehind 9 = .ok (.ireturn, 1) := by decide +kernel
theorem dX1_nodeBehind_10 : decode cX1_nodeBehind 10 = .ok (.aload_n 0, 1) := by decide +kernel
theorem dX1_nodeBehind_11 : decode cX1_nodeBehind 11 = .ok (.getfield 24, 3) := by decide +kernel
theorem dX1_nodeBehind_14 : decode cX1_nodeBehind 14 = .ok (.iload_n 1, 1) := by decide +kernel
theorem dX1_nodeBehind_15 : decode cX1_nodeBehind 15 = .ok (.iaload, 1) := by decide +kernel
theorem dX1_nodeBehind_16 : decode cX1_nodeBehind 16 = .ok (.iconst 2, 1) := by decide +kernel
theorem dX1_nodeBehind_17 : decode cX1_nodeBehind 17 = .ok (.if_icmp .ne 22, 3) := by decide +kernel
theorem dX1_nodeBehind_20 : decode cX1_nodeBehind 20 = .ok (.iload_n 2, 1) := by decide +kernel
theorem dX1_nodeBehind_21 : decode cX1_nodeBehind 21 = .ok (.ifCond .ne 16, 3) := by decide +kernel
theorem dX1_nodeBehind_24 : decode cX1_nodeBehind 24 = .ok (.aload_n 0, 1) := by decide +kernel
theorem dX1_nodeBehind_25 : decode cX1_nodeBehind 25 = .ok (.getfield 18, 3) := by decide +kernel
theorem dX1_nodeBehind_28 : decode cX1_nodeBehind 28 = .ok (.iload_n 1, 1) := by decide +kernel
theorem dX1_nodeBehind_29 : decode cX1_nodeBehind 29 = .ok (.iaload, 1) := by decide +kernel
theorem dX1_nodeBehind_30 : decode cX1_nodeBehind 30 = .ok (.iconst 1, 1) := by decide +kernel
theorem dX1_nodeBehind_31 : decode cX1_nodeBehind 31 = .ok (.invokestatic 56, 3) := by decide +kernel
theorem dX1_nodeBehind_34 : decode cX1_nodeBehind 34 = .ok (.goto 4, 3) := by decide +kernel
theorem dX1_nodeBehind_37 : decode cX1_nodeBehind 37 = .ok (.iconst (-1), 1) := by decide +kernel
theorem dX1_nodeBehind_38 : decode cX1_nodeBehind 38 = .ok (.ireturn, 1) := by decide +kernel
theorem dX1_nodeBehind_39 : decode cX1_nodeBehind 39 = .ok (.aload_n 0, 1) := by decide +kernel
theorem dX1_nodeBehind_40 : decode cX1_nodeBehind 40 = .ok (.getfield 24, 3) := by decide +kernel
theorem dX1_nodeBehind_43 : decode cX1_nodeBehind 43 = .ok (.iload_n 1, 1) := by decide +kernel
theorem dX1_nodeBehind_44 : decode cX1_nodeBehind 44 = .ok (.iaload, 1) := by decide +kernel
theorem dX1_nodeBehind_45 : decode cX1_nodeBehind 45 = .ok (.iconst 3, 1) := by decide +kernel
theorem dX1_nodeBehind_46 : decode cX1_nodeBehind 46 = .ok (.if_icmp .ne 23, 3) := by decide +kernel
theorem dX1_nodeBehind_49 : decode cX1_nodeBehind 49 = .ok (.iload_n 2, 1) := by decide +kernel
theorem dX1_nodeBehind_50 : decode cX1_nodeBehind 50 = .ok (.iconst 1, 1) := by decide +kernel
theorem dX1_nodeBehind_51 : decode cX1_nodeBehind 51 = .ok (.if_icmp .ne 16, 3) := by decide +kernel
theorem dX1_nodeBehind_54 : decode cX1_nodeBehind 54 = .ok (.aload_n 0, 1) := by decide +kernel
theorem dX1_nodeBehind_55 : decode cX1_nodeBehind 55 = .ok (.getfield 18, 3) := by decide +kernel
theorem dX1_nodeBehind_58 : decode cX1_nodeBehind 58 = .ok (.iload_n 1, 1) := by decide +kernel
theorem dX1_nodeBehind_59 : decode cX1_nodeBehind 59 = .ok (.iaload, 1) := by decide +kernel
theorem dX1_nodeBehind_60 : decode cX1_nodeBehind 60 = .ok (.iconst 0, 1) := by decide +kernel
theorem dX1_nodeBehind_61 : decode cX1_nodeBehind 61 = .ok (.invokestatic 56, 3) := by decide +kernel
theorem dX1_nodeBehind_64 : decode cX1_nodeBehind 64 = .ok (.goto 4, 3) := by decide +kernel
theorem dX1_nodeBehind_67 : decode cX1_nodeBehind 67 = .ok (.iconst (-1), 1) := by decide +kernel
theorem dX1_nodeBehind_68 : decode cX1_nodeBehind 68 = .ok (.ireturn, 1) := by decide +kernel
theorem dX1_nodeBehind_69 : decode cX1_nodeBehind 69 = .ok (.aload_n 0, 1) := by decide +kernel
theorem dX1_nodeBehind_70 : decode cX1_nodeBehind 70 = .ok (.getfield 18, 3) := by decide +kernel
theorem dX1_nodeBehind_73 : decode cX1_nodeBehind 73 = .ok (.iload_n 1, 1) := by decide +kernel
theorem dX1_nodeBehind_74 : decode cX1_nodeBehind 74 = .ok (.iaload, 1) := by decide +kernel
theorem dX1_nodeBehind_75 : decode cX1_nodeBehind 75 = .ok (.iload_n 2, 1) := by decide +kernel
theorem dX1_nodeBehind_76 : decode cX1_nodeBehind 76 = .ok (.invokestatic 56, 3) := by decide +kernel
theorem dX1_nodeBehind_79 : decode cX1_nodeBehind 79 = .ok (.ireturn, 1) := by decide +kernel
theorem dX1_isHopeful_0 : decode cX1_isHopeful 0 = .ok (.iload_n 1, 1) := by decide +kernel
theorem dX1_isHopeful_1 : decode cX1_isHopeful 1 = .ok (.ifCond .lt 22, 3) := by decide +kernel
theorem dX1_isHopeful_4 : decode cX1_isHopeful 4 = .ok (.iload_n 1, 1) := by decide +kernel
theorem dX1_isHopeful_5 : decode cX1_isHopeful 5 = .ok (.bipush 20, 2) := by decide +kernel
theorem dX1_isHopeful_7 : decode cX1_isHopeful 7 = .ok (.if_icmp .ge 16, 3) := by decide +kernel
theorem dX1_isHopeful_10 : decode cX1_isHopeful 10 = .ok (.aload_n 0, 1) := by decide +kernel
theorem dX1_isHopeful_11 : decode cX1_isHopeful 11 = .ok (.getfield 38, 3) := by decide +kernel
theorem dX1_isHopeful_14 : decode cX1_isHopeful 14 = .ok (.iload_n 1, 1) := by decide +kernel
theorem dX1_isHopeful_15 : decode cX1_isHopeful 15 = .ok (.baload, 1) := by decide +kernel
theorem dX1_isHopeful_16 : decode cX1_isHopeful 16 = .ok (.ifCond .eq 7, 3) := by decide +kernel
theorem dX1_isHopeful_19 : decode cX1_isHopeful 19 = .ok (.iconst 1, 1) := by decide +kernel
theorem dX1_isHopeful_20 : decode cX1_isHopeful 20 = .ok (.goto 4, 3) := by decide +kernel
theorem dX1_isHopeful_23 : decode cX1_isHopeful 23 = .ok (.iconst 0, 1) := by decide +kernel
theorem dX1_isHopeful_24 : decode cX1_isHopeful 24 = .ok (.ireturn, 1) := by decide +kernel
set_option maxRecDepth 20000 in
theorem ggX1_findHopeful_X1_hasEnd : GoodIn wsX1_findHopeful wsX1_hasEnd := goodIn_r _ [9, 2, 36, 37, 38, 39, 40, 41, 42, 43, 44, 45, 46] (by decide +kernel) (by decide +kernel)
set_option maxRecDepth 20000 in
theorem gX1_findHopeful_X1_hasEnd : GoodIn wsX1_findHopeful (wsV RX1 53 RX1 yX1_hasEnd wsX1_hasEnd) := goodIn_app (goodIn_of _ (by decide +kernel)) ggX1_findHopeful_X1_hasEnd
set_option maxRecDepth 20000 in
theorem ggX1_findHopeful_X4_nodeOf : GoodIn wsX1_findHopeful wsX4_nodeOf := goodIn_r _ [12] (by decide +kernel) (by decide +kernel)
set_option maxRecDepth 20000 in
theorem gX1_findHopeful_X4_nodeOf_n56 : GoodIn wsX1_findHopeful (wsX4_nodeOf) := ggX1_findHopeful_X4_nodeOf
set_option maxRecDepth 20000 in
theorem ggX1_findHopeful_X1_setHopeful : GoodIn wsX1_findHopeful wsX1_setHopeful := goodIn_r _ [16, 1, 36, 37, 38, 39, 40, 41, 42, 43, 44, 45, 46] (by decide +kernel) (by decide +kernel)
set_option maxRecDepth 20000 in
theorem gX1_findHopeful_X1_setHopeful : GoodIn wsX1_findHopeful (wsV RX1 60 RX1 yX1_setHopeful wsX1_setHopeful) := goodIn_app (goodIn_of _ (by decide +kernel)) ggX1_findHopeful_X1_setHopeful
set_option maxRecDepth 20000 in
theorem ggX1_findHopeful_X1_passHopeBack : GoodIn wsX1_findHopeful wsX1_passHopeBack := goodIn_r _ [20, 21, 22, 23, 24, 8, 25, 4, 26, 27, 28, 29, 30, 31, 10, 11, 12, 32, 33, 34, 35, 1, 13, 14, 15, 16, 36, 37, 38, 39, 40, 41, 42, 43, 44, 45, 46] (by decide +kernel) (by decide +kernel)
set_option maxRecDepth 20000 in
theorem gX1_findHopeful_X1_passHopeBack : GoodIn wsX1_findHopeful (wsV RX1 64 RX1 yX1_passHopeBack wsX1_passHopeBack) := goodIn_app (goodIn_of _ (by decide +kernel)) ggX1_findHopeful_X1_passHopeBack
theorem dX1_findHopeful_0 : decode cX1_findHopeful 0 = .ok (.iconst 0, 1) := by decide +kernel
theorem dX1_findHopeful_1 : decode cX1_findHopeful 1 = .ok (.istore_n 1, 1) := by decide +kernel
theorem dX1_findHopeful_2 : decode cX1_findHopeful 2 = .ok (.iload_n 1, 1) := by decide +kernel
theorem dX1_findHopeful_3 : decode cX1_findHopeful 3 = .ok (.bipush 20, 2) := by decide +kernel
theorem dX1_findHopeful_5 : decode cX1_findHopeful 5 = .ok (.if_icmp .ge 16, 3) := by decide +kernel
theorem dX1_findHopeful_8 : decode cX1_findHopeful 8 = .ok (.aload_n 0, 1) := by decide +kernel
theorem dX1_findHopeful_9 : decode cX1_findHopeful 9 = .ok (.getfield 38, 3) := by decide +kernel
theorem dX1_findHopeful_12 : decode cX1_findHopeful 12 = .ok (.iload_n 1, 1) := by decide +kernel
theorem dX1_findHopeful_13 : decode cX1_findHopeful 13 = .ok (.iconst 0, 1) := by decide +kernel
theorem dX1_findHopeful_14 : decode cX1_findHopeful 14 = .ok (.bastore, 1) := by decide +kernel
theorem dX1_findHopeful_15 : decode cX1_findHopeful 15 = .ok (.iinc 1 1, 3) := by decide +kernel
theorem dX1_findHopeful_18 : decode cX1_findHopeful 18 = .ok (.goto (-16), 3) := by decide +kernel
theorem dX1_findHopeful_21 : decode cX1_findHopeful 21 = .ok (.iconst 0, 1) := by decide +kernel
theorem dX1_findHopeful_22 : decode cX1_findHopeful 22 = .ok (.istore_n 1, 1) := by decide +kernel
theorem dX1_findHopeful_23 : decode cX1_findHopeful 23 = .ok (.iload_n 1, 1) := by decide +kernel
theorem dX1_findHopeful_24 : decode cX1_findHopeful 24 = .ok (.aload_n 0, 1) := by decide +kernel
theorem dX1_findHopeful_25 : decode cX1_findHopeful 25 = .ok (.getfield 46, 3) := by decide +kernel
theorem dX1_findHopeful_28 : decode cX1_findHopeful 28 = .ok (.if_icmp .ge 35, 3) := by decide +kernel
theorem dX1_findHopeful_31 : decode cX1_findHopeful 31 = .ok (.aload_n 0, 1) := by decide +kernel
theorem dX1_findHopeful_32 : decode cX1_findHopeful 32 = .ok (.aload_n 0, 1) := by decide +kernel
theorem dX1_findHopeful_33 : decode cX1_findHopeful 33 = .ok (.iload_n 1, 1) := by decide +kernel
theorem dX1_findHopeful_34 : decode cX1_findHopeful 34 = .ok (.invokevirtual 53, 3) := by decide +kernel
theorem dX1_findHopeful_37 : decode cX1_findHopeful 37 = .ok (.ifCond .eq 16, 3) := by decide +kernel
theorem dX1_findHopeful_40 : decode cX1_findHopeful 40 = .ok (.aload_n 0, 1) := by decide +kernel
theorem dX1_findHopeful_41 : decode cX1_findHopeful 41 = .ok (.getfield 27, 3) := by decide +kernel
theorem dX1_findHopeful_44 : decode cX1_findHopeful 44 = .ok (.iload_n 1, 1) := by decide +kernel
theorem dX1_findHopeful_45 : decode cX1_findHopeful 45 = .ok (.iaload, 1) := by decide +kernel
theorem dX1_findHopeful_46 : decode cX1_findHopeful 46 = .ok (.iconst 0, 1) := by decide +kernel
theorem dX1_findHopeful_47 : decode cX1_findHopeful 47 = .ok (.invokestatic 56, 3) := by decide +kernel
theorem dX1_findHopeful_50 : decode cX1_findHopeful 50 = .ok (.goto 4, 3) := by decide +kernel
theorem dX1_findHopeful_53 : decode cX1_findHopeful 53 = .ok (.iconst (-1), 1) := by decide +kernel
theorem dX1_findHopeful_54 : decode cX1_findHopeful 54 = .ok (.invokevirtual 60, 3) := by decide +kernel
theorem dX1_findHopeful_57 : decode cX1_findHopeful 57 = .ok (.iinc 1 1, 3) := by decide +kernel
theorem dX1_findHopeful_60 : decode cX1_findHopeful 60 = .ok (.goto (-37), 3) := by decide +kernel
theorem dX1_findHopeful_63 : decode cX1_findHopeful 63 = .ok (.iconst 0, 1) := by decide +kernel
theorem dX1_findHopeful_64 : decode cX1_findHopeful 64 = .ok (.istore_n 1, 1) := by decide +kernel
theorem dX1_findHopeful_65 : decode cX1_findHopeful 65 = .ok (.iload_n 1, 1) := by decide +kernel
theorem dX1_findHopeful_66 : decode cX1_findHopeful 66 = .ok (.bipush 20, 2) := by decide +kernel
theorem dX1_findHopeful_68 : decode cX1_findHopeful 68 = .ok (.if_icmp .ge 37, 3) := by decide +kernel
theorem dX1_findHopeful_71 : decode cX1_findHopeful 71 = .ok (.iconst 0, 1) := by decide +kernel
theorem dX1_findHopeful_72 : decode cX1_findHopeful 72 = .ok (.istore_n 2, 1) := by decide +kernel
theorem dX1_findHopeful_73 : decode cX1_findHopeful 73 = .ok (.iload_n 2, 1) := by decide +kernel
theorem dX1_findHopeful_74 : decode cX1_findHopeful 74 = .ok (.aload_n 0, 1) := by decide +kernel
theorem dX1_findHopeful_75 : decode cX1_findHopeful 75 = .ok (.getfield 42, 3) := by decide +kernel
theorem dX1_findHopeful_78 : decode cX1_findHopeful 78 = .ok (.if_icmp .ge 21, 3) := by decide +kernel
theorem dX1_findHopeful_81 : decode cX1_findHopeful 81 = .ok (.aload_n 0, 1) := by decide +kernel
theorem dX1_findHopeful_82 : decode cX1_findHopeful 82 = .ok (.iload_n 2, 1) := by decide +kernel
theorem dX1_findHopeful_83 : decode cX1_findHopeful 83 = .ok (.iconst 0, 1) := by decide +kernel
theorem dX1_findHopeful_84 : decode cX1_findHopeful 84 = .ok (.invokevirtual 64, 3) := by decide +kernel
theorem dX1_findHopeful_87 : decode cX1_findHopeful 87 = .ok (.aload_n 0, 1) := by decide +kernel
theorem dX1_findHopeful_88 : decode cX1_findHopeful 88 = .ok (.iload_n 2, 1) := by decide +kernel
theorem dX1_findHopeful_89 : decode cX1_findHopeful 89 = .ok (.iconst 1, 1) := by decide +kernel
theorem dX1_findHopeful_90 : decode cX1_findHopeful 90 = .ok (.invokevirtual 64, 3) := by decide +kernel
theorem dX1_findHopeful_93 : decode cX1_findHopeful 93 = .ok (.iinc 2 1, 3) := by decide +kernel
theorem dX1_findHopeful_96 : decode cX1_findHopeful 96 = .ok (.goto (-23), 3) := by decide +kernel
theorem dX1_findHopeful_99 : decode cX1_findHopeful 99 = .ok (.iinc 1 1, 3) := by decide +kernel
theorem dX1_findHopeful_102 : decode cX1_findHopeful 102 = .ok (.goto (-37), 3) := by decide +kernel
theorem dX1_findHopeful_105 : decode cX1_findHopeful 105 = .ok (.return_, 1) := by decide +kernel
set_option maxRecDepth 20000 in
theorem ggX1_passHopeBack_X1_hasGo : GoodIn wsX1_passHopeBack wsX1_hasGo := goodIn_r _ [6, 7, 26, 27, 28, 29, 30, 31, 32, 33, 34, 35, 36] (by decide +kernel) (by decide +kernel)
set_option maxRecDepth 20000 in
theorem gX1_passHopeBack_X1_hasGo : GoodIn wsX1_passHopeBack (wsV RX1 49 RX1 yX1_hasGo wsX1_hasGo) := goodIn_app (goodIn_of _ (by decide +kernel)) ggX1_passHopeBack_X1_hasGo
set_option maxRecDepth 20000 in
theorem ggX1_passHopeBack_X1_nodeBehind : GoodIn wsX1_passHopeBack wsX1_nodeBehind := goodIn_r _ [11, 12, 13, 2, 3, 4, 5, 6, 7, 14, 15, 16, 26, 27, 28, 29, 30, 31, 32, 33, 34, 35, 36] (by decide +kernel) (by decide +kernel)
set_option maxRecDepth 20000 in
theorem gX1_passHopeBack_X1_nodeBehind : GoodIn wsX1_passHopeBack (wsV RX1 68 RX1 yX1_nodeBehind wsX1_nodeBehind) := goodIn_app (goodIn_of _ (by decide +kernel)) ggX1_passHopeBack_X1_nodeBehind
set_option maxRecDepth 20000 in
theorem ggX1_passHopeBack_X1_isHopeful : GoodIn wsX1_passHopeBack wsX1_isHopeful := goodIn_r _ [20, 21, 26, 27, 28, 29, 30, 31, 32, 33, 34, 35, 36] (by decide +kernel) (by decide +kernel)
set_option maxRecDepth 20000 in
theorem gX1_passHopeBack_X1_isHopeful : GoodIn wsX1_passHopeBack (wsV RX1 71 RX1 yX1_isHopeful wsX1_isHopeful) := goodIn_app (goodIn_of _ (by decide +kernel)) ggX1_passHopeBack_X1_isHopeful
set_option maxRecDepth 20000 in
theorem ggX1_passHopeBack_X4_nodeOf : GoodIn wsX1_passHopeBack wsX4_nodeOf := goodIn_r _ [16] (by decide +kernel) (by decide +kernel)
set_option maxRecDepth 20000 in
theorem gX1_passHopeBack_X4_nodeOf_n56 : GoodIn wsX1_passHopeBack (wsX4_nodeOf) := ggX1_passHopeBack_X4_nodeOf
set_option maxRecDepth 20000 in
theorem ggX1_passHopeBack_X1_setHopeful : GoodIn wsX1_passHopeBack wsX1_setHopeful := goodIn_r _ [25, 21, 26, 27, 28, 29, 30, 31, 32, 33, 34, 35, 36] (by decide +kernel) (by decide +kernel)
set_option maxRecDepth 20000 in
theorem gX1_passHopeBack_X1_setHopeful : GoodIn wsX1_passHopeBack (wsV RX1 60 RX1 yX1_setHopeful wsX1_setHopeful) := goodIn_app (goodIn_of _ (by decide +kernel)) ggX1_passHopeBack_X1_setHopeful
theorem dX1_passHopeBack_0 : decode cX1_passHopeBack 0 = .ok (.aload_n 0, 1) := by decide +kernel
theorem dX1_passHopeBack_1 : decode cX1_passHopeBack 1 = .ok (.iload_n 1, 1) := by decide +kernel
theorem dX1_passHopeBack_2 : decode cX1_passHopeBack 2 = .ok (.invokevirtual 49, 3) := by decide +kernel
theorem dX1_passHopeBack_5 : decode cX1_passHopeBack 5 = .ok (.ifCond .eq 30, 3) := by decide +kernel
theorem dX1_passHopeBack_8 : decode cX1_passHopeBack 8 = .ok (.aload_n 0, 1) := by decide +kernel
theorem dX1_passHopeBack_9 : decode cX1_passHopeBack 9 = .ok (.aload_n 0, 1) := by decide +kernel
theorem dX1_passHopeBack_10 : decode cX1_passHopeBack 10 = .ok (.iload_n 1, 1) := by decide +kernel
theorem dX1_passHopeBack_11 : decode cX1_passHopeBack 11 = .ok (.iload_n 2, 1) := by decide +kernel
theorem dX1_passHopeBack_12 : decode cX1_passHopeBack 12 = .ok (.invokevirtual 68, 3) := by decide +kernel
theorem dX1_passHopeBack_15 : decode cX1_passHopeBack 15 = .ok (.invokevirtual 71, 3) := by decide +kernel
theorem dX1_passHopeBack_18 : decode cX1_passHopeBack 18 = .ok (.ifCond .eq 17, 3) := by decide +kernel
theorem dX1_passHopeBack_21 : decode cX1_passHopeBack 21 = .ok (.aload_n 0, 1) := by decide +kernel
theorem dX1_passHopeBack_22 : decode cX1_passHopeBack 22 = .ok (.aload_n 0, 1) := by decide +kernel
theorem dX1_passHopeBack_23 : decode cX1_passHopeBack 23 = .ok (.getfield 11, 3) := by decide +kernel
theorem dX1_passHopeBack_26 : decode cX1_passHopeBack 26 = .ok (.iload_n 1, 1) := by decide +kernel
theorem dX1_passHopeBack_27 : decode cX1_passHopeBack 27 = .ok (.iaload, 1) := by decide +kernel
theorem dX1_passHopeBack_28 : decode cX1_passHopeBack 28 = .ok (.iload_n 2, 1) := by decide +kernel
theorem dX1_passHopeBack_29 : decode cX1_passHopeBack 29 = .ok (.invokestatic 56, 3) := by decide +kernel
theorem dX1_passHopeBack_32 : decode cX1_passHopeBack 32 = .ok (.invokevirtual 60, 3) := by decide +kernel
theorem dX1_passHopeBack_35 : decode cX1_passHopeBack 35 = .ok (.return_, 1) := by decide +kernel
theorem dX1_setHopeful_0 : decode cX1_setHopeful 0 = .ok (.iload_n 1, 1) := by decide +kernel
theorem dX1_setHopeful_1 : decode cX1_setHopeful 1 = .ok (.ifCond .lt 16, 3) := by decide +kernel
theorem dX1_setHopeful_4 : decode cX1_setHopeful 4 = .ok (.iload_n 1, 1) := by decide +kernel
theorem dX1_setHopeful_5 : decode cX1_setHopeful 5 = .ok (.bipush 20, 2) := by decide +kernel
theorem dX1_setHopeful_7 : decode cX1_setHopeful 7 = .ok (.if_icmp .ge 10, 3) := by decide +kernel
theorem dX1_setHopeful_10 : decode cX1_setHopeful 10 = .ok (.aload_n 0, 1) := by decide +kernel
theorem dX1_setHopeful_11 : decode cX1_setHopeful 11 = .ok (.getfield 38, 3) := by decide +kernel
theorem dX1_setHopeful_14 : decode cX1_setHopeful 14 = .ok (.iload_n 1, 1) := by decide +kernel
theorem dX1_setHopeful_15 : decode cX1_setHopeful 15 = .ok (.iconst 1, 1) := by decide +kernel
theorem dX1_setHopeful_16 : decode cX1_setHopeful 16 = .ok (.bastore, 1) := by decide +kernel
theorem dX1_setHopeful_17 : decode cX1_setHopeful 17 = .ok (.return_, 1) := by decide +kernel
theorem dX2_init_0 : decode cX2_init 0 = .ok (.aload_n 0, 1) := by decide +kernel
theorem dX2_init_1 : decode cX2_init 1 = .ok (.invokespecial 3, 3) := by decide +kernel
theorem dX2_init_4 : decode cX2_init 4 = .ok (.aload_n 0, 1) := by decide +kernel
theorem dX2_init_5 : decode cX2_init 5 = .ok (.aload_n 1, 1) := by decide +kernel
theorem dX2_init_6 : decode cX2_init 6 = .ok (.putfield 9, 3) := by decide +kernel
theorem dX2_init_9 : decode cX2_init 9 = .ok (.return_, 1) := by decide +kernel
set_option maxRecDepth 20000 in
theorem ggX2_read_X1_empty : GoodIn wsX2_read wsX1_empty := goodIn_r _ [8, 9, 10, 138, 139, 140, 141, 142, 143, 144, 145, 146, 147, 148] (by decide +kernel) (by decide +kernel)
set_option maxRecDepth 20000 in
theorem gX2_read_X1_empty : GoodIn wsX2_read (wsV RX2 15 RX1 yX1_empty wsX1_empty) := goodIn_app (goodIn_of _ (by decide +kernel)) ggX2_read_X1_empty
set_option maxRecDepth 20000 in
theorem ggX2_read_X2_advance : GoodIn wsX2_read wsX2_advance := goodIn_r _ [15, 2, 16, 17, 3, 18, 19, 20, 14, 21, 22, 23, 24, 25, 26, 27, 28, 29, 30, 31, 133, 134, 135, 136, 137, 149, 150] (by decide +kernel) (by decide +kernel)
set_option maxRecDepth 20000 in
theorem gX2_read_X2_advance : GoodIn wsX2_read (wsV RX2 27 RX2 yX2_advance wsX2_advance) := goodIn_app (goodIn_of _ (by decide +kernel)) ggX2_read_X2_advance
set_option maxRecDepth 20000 in
theorem ggX2_read_X2_isText : GoodIn wsX2_read wsX2_isText := goodIn_r _ [35, 3, 2, 16, 17, 36, 37, 38, 39, 40, 41, 42, 43, 44, 45, 46, 47, 22, 23, 24, 25, 26, 27, 28, 48, 49, 50, 51, 52, 53, 54, 55, 56, 57, 58, 59, 60, 61, 62, 63, 64, 65, 66, 67, 68, 69, 70, 71, 72, 73, 74, 75, 76, 77, 78, 79, 80, 81, 82, 83, 84, 133, 134, 135, 136, 137, 149, 150] (by decide +kernel) (by decide +kernel)
set_option maxRecDepth 20000 in
theorem gX2_read_X2_isText : GoodIn wsX2_read (wsV RX2 37 RX2 yX2_isText wsX2_isText) := goodIn_app (goodIn_of _ (by decide +kernel)) ggX2_read_X2_isText
set_option maxRecDepth 20000 in
theorem ggX2_read_X2_readGo : GoodIn wsX2_read wsX2_readGo := goodIn_r _ [88, 3, 1, 89, 90, 91, 14, 92, 16, 11, 12, 13, 15, 2, 17, 18, 19, 20, 21, 22, 23, 24, 25, 26, 27, 28, 29, 30, 31, 93, 94, 95, 96, 97, 98, 99, 100, 32, 33, 34, 35, 36, 37, 38, 39, 40, 41, 42, 43, 44, 45, 46, 47, 48, 49, 50, 51, 52, 53, 54, 55, 56, 57, 58, 59, 60, 61, 62, 63, 64, 65, 66, 67, 68, 69, 70, 71, 72, 73, 74, 75, 76, 77, 78, 79, 80, 81, 82, 83, 84, 101, 102, 103, 104, 105, 106, 107, 108, 109, 110, 111, 7, 112, 9, 113, 114, 115, 116, 117, 138, 139, 140, 141, 142, 143, 144, 145, 146, 147, 148, 133, 134, 135, 136, 137, 149, 150] (by decide +kernel) (by decide +kernel)
set_option maxRecDepth 20000 in
theorem gX2_read_X2_readGo : GoodIn wsX2_read (wsV RX2 41 RX2 yX2_readGo wsX2_readGo) := goodIn_app (goodIn_of _ (by decide +kernel)) ggX2_read_X2_readGo
set_option maxRecDepth 20000 in
theorem ggX2_read_X2_readEnd : GoodIn wsX2_read wsX2_readEnd := goodIn_r _ [121, 3, 1, 89, 90, 91, 14, 92, 16, 11, 12, 13, 15, 2, 17, 18, 19, 20, 21, 22, 23, 24, 25, 26, 27, 28, 29, 30, 31, 93, 94, 95, 96, 97, 98, 99, 100, 32, 33, 34, 35, 36, 37, 38, 39, 40, 41, 42, 43, 44, 45, 46, 47, 48, 49, 50, 51, 52, 53, 54, 55, 56, 57, 58, 59, 60, 61, 62, 63, 64, 65, 66, 67, 68, 69, 70, 71, 72, 73, 74, 75, 76, 77, 78, 79, 80, 81, 82, 83, 84, 101, 102, 103, 104, 122, 123, 124, 125, 126, 127, 128, 7, 129, 10, 130, 131, 132, 138, 139, 140, 141, 142, 143, 144, 145, 146, 147, 148, 133, 134, 135, 136, 137, 149, 150] (by decide +kernel) (by decide +kernel)
set_option maxRecDepth 20000 in
theorem gX2_read_X2_readEnd : GoodIn wsX2_read (wsV RX2 47 RX2 yX2_readEnd wsX2_readEnd) := goodIn_app (goodIn_of _ (by decide +kernel)) ggX2_read_X2_readEnd
set_option maxRecDepth 20000 in
theorem ggX2_read_X2_refuse : GoodIn wsX2_read wsX2_refuse := goodIn_r _ [92, 1, 16, 133, 134, 135, 136, 137] (by decide +kernel) (by decide +kernel)
set_option maxRecDepth 20000 in
theorem gX2_read_X2_refuse : GoodIn wsX2_read (wsV RX2 50 RX2 yX2_refuse wsX2_refuse) := goodIn_app (goodIn_of _ (by decide +kernel)) ggX2_read_X2_refuse
theorem dX2_read_0 : decode cX2_read 0 = .ok (.aload_n 1, 1) := by decide +kernel
theorem dX2_read_1 : decode cX2_read 1 = .ok (.invokevirtual 15, 3) := by decide +kernel
theorem dX2_read_4 : decode cX2_read 4 = .ok (.aload_n 0, 1) := by decide +kernel
theorem dX2_read_5 : decode cX2_read 5 = .ok (.iconst 0, 1) := by decide +kernel
theorem dX2_read_6 : decode cX2_read 6 = .ok (.putfield 20, 3) := by decide +kernel
theorem dX2_read_9 : decode cX2_read 9 = .ok (.aload_n 0, 1) := by decide +kernel
theorem dX2_read_10 : decode cX2_read 10 = .ok (.iconst 0, 1) := by decide +kernel
theorem dX2_read_11 : decode cX2_read 11 = .ok (.putfield 24, 3) := by decide +kernel
theorem dX2_read_14 : decode cX2_read 14 = .ok (.aload_n 0, 1) := by decide +kernel
theorem dX2_read_15 : decode cX2_read 15 = .ok (.invokevirtual 27, 3) := by decide +kernel
theorem dX2_read_18 : decode cX2_read 18 = .ok (.iconst 0, 1) := by decide +kernel
theorem dX2_read_19 : decode cX2_read 19 = .ok (.istore_n 2, 1) := by decide +kernel
theorem dX2_read_20 : decode cX2_read 20 = .ok (.iload_n 2, 1) := by decide +kernel
theorem dX2_read_21 : decode cX2_read 21 = .ok (.sipush 1600, 3) := by decide +kernel
theorem dX2_read_24 : decode cX2_read 24 = .ok (.if_icmp .ge 62, 3) := by decide +kernel
theorem dX2_read_27 : decode cX2_read 27 = .ok (.aload_n 0, 1) := by decide +kernel
theorem dX2_read_28 : decode cX2_read 28 = .ok (.getfield 20, 3) := by decide +kernel
theorem dX2_read_31 : decode cX2_read 31 = .ok (.ifCond .ne 55, 3) := by decide +kernel
theorem dX2_read_34 : decode cX2_read 34 = .ok (.aload_n 0, 1) := by decide +kernel
theorem dX2_read_35 : decode cX2_read 35 = .ok (.getfield 32, 3) := by decide +kernel
theorem dX2_read_38 : decode cX2_read 38 = .ok (.ifCond .eq 48, 3) := by decide +kernel
theorem dX2_read_41 : decode cX2_read 41 = .ok (.aload_n 0, 1) := by decide +kernel
theorem dX2_read_42 : decode cX2_read 42 = .ok (.ldc 35, 2) := by decide +kernel
theorem dX2_read_44 : decode cX2_read 44 = .ok (.invokevirtual 37, 3) := by decide +kernel
theorem dX2_read_47 : decode cX2_read 47 = .ok (.ifCond .eq 11, 3) := by decide +kernel
theorem dX2_read_50 : decode cX2_read 50 = .ok (.aload_n 0, 1) := by decide +kernel
theorem dX2_read_51 : decode cX2_read 51 = .ok (.aload_n 1, 1) := by decide +kernel
theorem dX2_read_52 : decode cX2_read 52 = .ok (.invokevirtual 41, 3) := by decide +kernel
theorem dX2_read_55 : decode cX2_read 55 = .ok (.goto 25, 3) := by decide +kernel
theorem dX2_read_58 : decode cX2_read 58 = .ok (.aload_n 0, 1) := by decide +kernel
theorem dX2_read_59 : decode cX2_read 59 = .ok (.ldc 45, 2) := by decide +kernel
theorem dX2_read_61 : decode cX2_read 61 = .ok (.invokevirtual 37, 3) := by decide +kernel
theorem dX2_read_64 : decode cX2_read 64 = .ok (.ifCond .eq 11, 3) := by decide +kernel
theorem dX2_read_67 : decode cX2_read 67 = .ok (.aload_n 0, 1) := by decide +kernel
theorem dX2_read_68 : decode cX2_read 68 = .ok (.aload_n 1, 1) := by decide +kernel
theorem dX2_read_69 : decode cX2_read 69 = .ok (.invokevirtual 47, 3) := by decide +kernel
theorem dX2_read_72 : decode cX2_read 72 = .ok (.goto 8, 3) := by decide +kernel
theorem dX2_read_75 : decode cX2_read 75 = .ok (.aload_n 0, 1) := by decide +kernel
theorem dX2_read_76 : decode cX2_read 76 = .ok (.iconst 1, 1) := by decide +kernel
theorem dX2_read_77 : decode cX2_read 77 = .ok (.invokevirtual 50, 3) := by decide +kernel
theorem dX2_read_80 : decode cX2_read 80 = .ok (.iinc 2 1, 3) := by decide +kernel
theorem dX2_read_83 : decode cX2_read 83 = .ok (.goto (-63), 3) := by decide +kernel
theorem dX2_read_86 : decode cX2_read 86 = .ok (.aload_n 0, 1) := by decide +kernel
theorem dX2_read_87 : decode cX2_read 87 = .ok (.getfield 20, 3) := by decide +kernel
theorem dX2_read_90 : decode cX2_read 90 = .ok (.ireturn, 1) := by decide +kernel
set_option maxRecDepth 20000 in
theorem ggX2_readGo_X2_refuse : GoodIn wsX2_readGo wsX2_refuse := goodIn_r _ [7, 2, 8, 120, 121, 122, 123, 124] (by decide +kernel) (by decide +kernel)
set_option maxRecDepth 20000 in
theorem gX2_readGo_X2_refuse : GoodIn wsX2_readGo (wsV RX2 50 RX2 yX2_refuse wsX2_refuse) := goodIn_app (goodIn_of _ (by decide +kernel)) ggX2_readGo_X2_refuse
set_option maxRecDepth 20000 in
theorem ggX2_readGo_X2_advance : GoodIn wsX2_readGo wsX2_advance := goodIn_r _ [12, 13, 8, 14, 1, 15, 16, 17, 6, 18, 19, 20, 21, 22, 23, 24, 25, 26, 27, 28, 120, 121, 122, 123, 124, 125, 126] (by decide +kernel) (by decide +kernel)
set_option maxRecDepth 20000 in
theorem gX2_readGo_X2_advance : GoodIn wsX2_readGo (wsV RX2 27 RX2 yX2_advance wsX2_advance) := goodIn_app (goodIn_of _ (by decide +kernel)) ggX2_readGo_X2_advance
set_option maxRecDepth 20000 in
theorem ggX2_readGo_X2_readNumber : GoodIn wsX2_readGo wsX2_readNumber := goodIn_r _ [32, 1, 2, 33, 34, 35, 6, 36, 8, 13, 14, 19, 20, 21, 22, 23, 24, 25, 3, 4, 5, 7, 9, 10, 11, 12, 15, 16, 17, 18, 26, 27, 28, 120, 121, 122, 123, 124, 125, 126] (by decide +kernel) (by decide +kernel)
set_option maxRecDepth 20000 in
theorem gX2_readGo_X2_readNumber : GoodIn wsX2_readGo (wsV RX2 57 RX2 yX2_readNumber wsX2_readNumber) := goodIn_app (goodIn_of _ (by decide +kernel)) ggX2_readGo_X2_readNumber
set_option maxRecDepth 20000 in
theorem ggX2_readGo_X2_isText : GoodIn wsX2_readGo wsX2_isText := goodIn_r _ [40, 1, 13, 8, 14, 41, 42, 43, 44, 45, 46, 47, 48, 49, 50, 51, 52, 19, 20, 21, 22, 23, 24, 25, 53, 54, 55, 56, 57, 58, 59, 60, 61, 62, 63, 64, 65, 66, 67, 68, 69, 70, 71, 72, 73, 74, 75, 76, 77, 78, 79, 80, 81, 82, 83, 84, 85, 86, 87, 88, 89, 120, 121, 122, 123, 124, 125, 126] (by decide +kernel) (by decide +kernel)
set_option maxRecDepth 20000 in
theorem gX2_readGo_X2_isText : GoodIn wsX2_readGo (wsV RX2 37 RX2 yX2_isText wsX2_isText) := goodIn_app (goodIn_of _ (by decide +kernel)) ggX2_readGo_X2_isText
set_option maxRecDepth 20000 in
theorem ggX2_readGo_X2_passIf : GoodIn wsX2_readGo wsX2_passIf := goodIn_r _ [93, 2, 3, 4, 5, 6, 7, 8, 9, 10, 11, 12, 13, 14, 1, 15, 16, 17, 18, 19, 20, 21, 22, 23, 24, 25, 26, 27, 28, 120, 121, 122, 123, 124, 125, 126] (by decide +kernel) (by decide +kernel)
set_option maxRecDepth 20000 in
theorem gX2_readGo_X2_passIf : GoodIn wsX2_readGo (wsV RX2 63 RX2 yX2_passIf wsX2_passIf) := goodIn_app (goodIn_of _ (by decide +kernel)) ggX2_readGo_X2_passIf
set_option maxRecDepth 20000 in
theorem ggX2_readGo_X2_goMarkHere : GoodIn wsX2_readGo wsX2_goMarkHere := goodIn_r _ [97, 37, 38, 39, 6, 40, 1, 13, 8, 14, 41, 42, 43, 44, 45, 46, 47, 48, 49, 50, 51, 52, 19, 20, 21, 22, 23, 24, 25, 53, 54, 55, 56, 57, 58, 59, 60, 61, 62, 63, 64, 65, 66, 67, 68, 69, 70, 71, 72, 73, 74, 75, 76, 77, 78, 79, 80, 81, 82, 83, 84, 85, 86, 87, 88, 89, 120, 121, 122, 123, 124, 125, 126] (by decide +kernel) (by decide +kernel)
set_option maxRecDepth 20000 in
theorem gX2_readGo_X2_goMarkHere : GoodIn wsX2_readGo (wsV RX2 73 RX2 yX2_goMarkHere wsX2_goMarkHere) := goodIn_app (goodIn_of _ (by decide +kernel)) ggX2_readGo_X2_goMarkHere
set_option maxRecDepth 20000 in
theorem ggX2_readGo_X1_addGo : GoodIn wsX2_readGo wsX1_addGo := goodIn_r _ [102, 103, 104, 105, 106, 107, 108, 109, 110, 111, 112, 113, 114, 115, 116, 117, 118, 119] (by decide +kernel) (by decide +kernel)
set_option maxRecDepth 20000 in
theorem gX2_readGo_X1_addGo : GoodIn wsX2_readGo (wsV RX2 77 RX1 yX1_addGo wsX1_addGo) := goodIn_app (goodIn_of _ (by decide +kernel)) ggX2_readGo_X1_addGo
theorem dX2_readGo_0 : decode cX2_readGo 0 = .ok (.aload_n 1, 1) := by decide +kernel
theorem dX2_readGo_1 : decode cX2_readGo 1 = .ok (.getfield 54, 3) := by decide +kernel
theorem dX2_readGo_4 : decode cX2_readGo 4 = .ok (.bipush 40, 2) := by decide +kernel
theorem dX2_readGo_6 : decode cX2_readGo 6 = .ok (.if_icmp .lt 9, 3) := by decide +kernel
theorem dX2_readGo_9 : decode cX2_readGo 9 = .ok (.aload_n 0, 1) := by decide +kernel
theorem dX2_readGo_10 : decode cX2_readGo 10 = .ok (.iconst 5, 1) := by decide +kernel
theorem dX2_readGo_11 : decode cX2_readGo 11 = .ok (.invokevirtual 50, 3) := by decide +kernel
theorem dX2_readGo_14 : decode cX2_readGo 14 = .ok (.return_, 1) := by decide +kernel
theorem dX2_readGo_15 : decode cX2_readGo 15 = .ok (.aload_n 0, 1) := by decide +kernel
theorem dX2_readGo_16 : decode cX2_readGo 16 = .ok (.invokevirtual 27, 3) := by decide +kernel
theorem dX2_readGo_19 : decode cX2_readGo 19 = .ok (.aload_n 0, 1) := by decide +kernel
theorem dX2_readGo_20 : decode cX2_readGo 20 = .ok (.bipush 9, 2) := by decide +kernel
theorem dX2_readGo_22 : decode cX2_readGo 22 = .ok (.invokevirtual 57, 3) := by decide +kernel
theorem dX2_readGo_25 : decode cX2_readGo 25 = .ok (.istore_n 2, 1) := by decide +kernel
theorem dX2_readGo_26 : decode cX2_readGo 26 = .ok (.aload_n 0, 1) := by decide +kernel
theorem dX2_readGo_27 : decode cX2_readGo 27 = .ok (.aload_n 0, 1) := by decide +kernel
theorem dX2_readGo_28 : decode cX2_readGo 28 = .ok (.ldc 61, 2) := by decide +kernel
theorem dX2_readGo_30 : decode cX2_readGo 30 = .ok (.invokevirtual 37, 3) := by decide +kernel
theorem dX2_readGo_33 : decode cX2_readGo 33 = .ok (.invokevirtual 63, 3) := by decide +kernel
theorem dX2_readGo_36 : decode cX2_readGo 36 = .ok (.aload_n 0, 1) := by decide +kernel
theorem dX2_readGo_37 : decode cX2_readGo 37 = .ok (.bipush 7, 2) := by decide +kernel
theorem dX2_readGo_39 : decode cX2_readGo 39 = .ok (.invokevirtual 57, 3) := by decide +kernel
theorem dX2_readGo_42 : decode cX2_readGo 42 = .ok (.istore_n 3, 1) := by decide +kernel
theorem dX2_readGo_43 : decode cX2_readGo 43 = .ok (.aload_n 0, 1) := by decide +kernel
theorem dX2_readGo_44 : decode cX2_readGo 44 = .ok (.aload_n 0, 1) := by decide +kernel
theorem dX2_readGo_45 : decode cX2_readGo 45 = .ok (.ldc 67, 2) := by decide +kernel
theorem dX2_readGo_47 : decode cX2_readGo 47 = .ok (.invokevirtual 37, 3) := by decide +kernel
theorem dX2_readGo_50 : decode cX2_readGo 50 = .ok (.invokevirtual 63, 3) := by decide +kernel
theorem dX2_readGo_53 : decode cX2_readGo 53 = .ok (.aload_n 0, 1) := by decide +kernel
theorem dX2_readGo_54 : decode cX2_readGo 54 = .ok (.bipush 9, 2) := by decide +kernel
theorem dX2_readGo_56 : decode cX2_readGo 56 = .ok (.invokevirtual 57, 3) := by decide +kernel
theorem dX2_readGo_59 : decode cX2_readGo 59 = .ok (.istore 4, 2) := by decide +kernel
theorem dX2_readGo_61 : decode cX2_readGo 61 = .ok (.aload_n 0, 1) := by decide +kernel
theorem dX2_readGo_62 : decode cX2_readGo 62 = .ok (.aload_n 0, 1) := by decide +kernel
theorem dX2_readGo_63 : decode cX2_readGo 63 = .ok (.ldc 69, 2) := by decide +kernel
theorem dX2_readGo_65 : decode cX2_readGo 65 = .ok (.invokevirtual 37, 3) := by decide +kernel
theorem dX2_readGo_68 : decode cX2_readGo 68 = .ok (.invokevirtual 63, 3) := by decide +kernel
theorem dX2_readGo_71 : decode cX2_readGo 71 = .ok (.aload_n 0, 1) := by decide +kernel
theorem dX2_readGo_72 : decode cX2_readGo 72 = .ok (.sipush 999, 3) := by decide +kernel
theorem dX2_readGo_75 : decode cX2_readGo 75 = .ok (.invokevirtual 57, 3) := by decide +kernel
theorem dX2_readGo_78 : decode cX2_readGo 78 = .ok (.istore 5, 2) := by decide +kernel
theorem dX2_readGo_80 : decode cX2_readGo 80 = .ok (.iconst 0, 1) := by decide +kernel
theorem dX2_readGo_81 : decode cX2_readGo 81 = .ok (.istore 6, 2) := by decide +kernel
theorem dX2_readGo_83 : decode cX2_readGo 83 = .ok (.aload_n 0, 1) := by decide +kernel
theorem dX2_readGo_84 : decode cX2_readGo 84 = .ok (.ldc 71, 2) := by decide +kernel
theorem dX2_readGo_86 : decode cX2_readGo 86 = .ok (.invokevirtual 37, 3) := by decide +kernel
theorem dX2_readGo_89 : decode cX2_readGo 89 = .ok (.ifCond .eq 28, 3) := by decide +kernel
theorem dX2_readGo_92 : decode cX2_readGo 92 = .ok (.aload_n 0, 1) := by decide +kernel
theorem dX2_readGo_93 : decode cX2_readGo 93 = .ok (.iconst 1, 1) := by decide +kernel
theorem dX2_readGo_94 : decode cX2_readGo 94 = .ok (.invokevirtual 63, 3) := by decide +kernel
theorem dX2_readGo_97 : decode cX2_readGo 97 = .ok (.aload_n 0, 1) := by decide +kernel
theorem dX2_readGo_98 : decode cX2_readGo 98 = .ok (.invokevirtual 73, 3) := by decide +kernel
theorem dX2_readGo_101 : decode cX2_readGo 101 = .ok (.istore 6, 2) := by decide +kernel
theorem dX2_readGo_103 : decode cX2_readGo 103 = .ok (.aload_n 0, 1) := by decide +kernel
theorem dX2_readGo_104 : decode cX2_readGo 104 = .ok (.iload 6, 2) := by decide +kernel
theorem dX2_readGo_106 : decode cX2_readGo 106 = .ok (.ifCond .eq 7, 3) := by decide +kernel
theorem dX2_readGo_109 : decode cX2_readGo 109 = .ok (.iconst 1, 1) := by decide +kernel
theorem dX2_readGo_110 : decode cX2_readGo 110 = .ok (.goto 4, 3) := by decide +kernel
theorem dX2_readGo_113 : decode cX2_readGo 113 = .ok (.iconst 0, 1) := by decide +kernel
theorem dX2_readGo_114 : decode cX2_readGo 114 = .ok (.invokevirtual 63, 3) := by decide +kernel
theorem dX2_readGo_117 : decode cX2_readGo 117 = .ok (.aload_n 0, 1) := by decide +kernel
theorem dX2_readGo_118 : decode cX2_readGo 118 = .ok (.aload_n 0, 1) := by decide +kernel
theorem dX2_readGo_119 : decode cX2_readGo 119 = .ok (.getfield 32, 3) := by decide +kernel
theorem dX2_readGo_122 : decode cX2_readGo 122 = .ok (.iconst 4, 1) := by decide +kernel
theorem dX2_readGo_123 : decode cX2_readGo 123 = .ok (.if_icmp .ne 7, 3) := by decide +kernel
theorem dX2_readGo_126 : decode cX2_readGo 126 = .ok (.iconst 1, 1) := by decide +kernel
theorem dX2_readGo_127 : decode cX2_readGo 127 = .ok (.goto 4, 3) := by decide +kernel
theorem dX2_readGo_130 : decode cX2_readGo 130 = .ok (.iconst 0, 1) := by decide +kernel
theorem dX2_readGo_131 : decode cX2_readGo 131 = .ok (.invokevirtual 63, 3) := by decide +kernel
theorem dX2_readGo_134 : decode cX2_readGo 134 = .ok (.aload_n 0, 1) := by decide +kernel
theorem dX2_readGo_135 : decode cX2_readGo 135 = .ok (.getfield 20, 3) := by decide +kernel
theorem dX2_readGo_138 : decode cX2_readGo 138 = .ok (.ifCond .ne 15, 3) := by decide +kernel
theorem dX2_readGo_141 : decode cX2_readGo 141 = .ok (.aload_n 1, 1) := by decide +kernel
theorem dX2_readGo_142 : decode cX2_readGo 142 = .ok (.iload_n 2, 1) := by decide +kernel
theorem dX2_readGo_143 : decode cX2_readGo 143 = .ok (.iload_n 3, 1) := by decide +kernel
theorem dX2_readGo_144 : decode cX2_readGo 144 = .ok (.iload 4, 2) := by decide +kernel
theorem dX2_readGo_146 : decode cX2_readGo 146 = .ok (.iload 5, 2) := by decide +kernel
theorem dX2_readGo_148 : decode cX2_readGo 148 = .ok (.iload 6, 2) := by decide +kernel
theorem dX2_readGo_150 : decode cX2_readGo 150 = .ok (.invokevirtual 77, 3) := by decide +kernel
theorem dX2_readGo_153 : decode cX2_readGo 153 = .ok (.return_, 1) := by decide +kernel
set_option maxRecDepth 20000 in
theorem ggX2_readEnd_X2_refuse : GoodIn wsX2_readEnd wsX2_refuse := goodIn_r _ [7, 2, 8, 118, 119, 120, 121, 122] (by decide +kernel) (by decide +kernel)
set_option maxRecDepth 20000 in
theorem gX2_readEnd_X2_refuse : GoodIn wsX2_readEnd (wsV RX2 50 RX2 yX2_refuse wsX2_refuse) := goodIn_app (goodIn_of _ (by decide +kernel)) ggX2_readEnd_X2_refuse
set_option maxRecDepth 20000 in
theorem ggX2_readEnd_X2_advance : GoodIn wsX2_readEnd wsX2_advance := goodIn_r _ [12, 13, 8, 14, 1, 15, 16, 17, 6, 18, 19, 20, 21, 22, 23, 24, 25, 26, 27, 28, 118, 119, 120, 121, 122, 123, 124] (by decide +kernel) (by decide +kernel)
set_option maxRecDepth 20000 in
theorem gX2_readEnd_X2_advance : GoodIn wsX2_readEnd (wsV RX2 27 RX2 yX2_advance wsX2_advance) := goodIn_app (goodIn_of _ (by decide +kernel)) ggX2_readEnd_X2_advance
set_option maxRecDepth 20000 in
theorem ggX2_readEnd_X2_readNumber : GoodIn wsX2_readEnd wsX2_readNumber := goodIn_r _ [32, 1, 2, 33, 34, 35, 6, 36, 8, 13, 14, 19, 20, 21, 22, 23, 24, 25, 3, 4, 5, 7, 9, 10, 11, 12, 15, 16, 17, 18, 26, 27, 28, 118, 119, 120, 121, 122, 123, 124] (by decide +kernel) (by decide +kernel)
set_option maxRecDepth 20000 in
theorem gX2_readEnd_X2_readNumber : GoodIn wsX2_readEnd (wsV RX2 57 RX2 yX2_readNumber wsX2_readNumber) := goodIn_app (goodIn_of _ (by decide +kernel)) ggX2_readEnd_X2_readNumber
set_option maxRecDepth 20000 in
theorem ggX2_readEnd_X2_isText : GoodIn wsX2_readEnd wsX2_isText := goodIn_r _ [40, 1, 13, 8, 14, 41, 42, 43, 44, 45, 46, 47, 48, 49, 50, 51, 52, 19, 20, 21, 22, 23, 24, 25, 53, 54, 55, 56, 57, 58, 59, 60, 61, 62, 63, 64, 65, 66, 67, 68, 69, 70, 71, 72, 73, 74, 75, 76, 77, 78, 79, 80, 81, 82, 83, 84, 85, 86, 87, 88, 89, 118, 119, 120, 121, 122, 123, 124] (by decide +kernel) (by decide +kernel)
set_option maxRecDepth 20000 in
theorem gX2_readEnd_X2_isText : GoodIn wsX2_readEnd (wsV RX2 37 RX2 yX2_isText wsX2_isText) := goodIn_app (goodIn_of _ (by decide +kernel)) ggX2_readEnd_X2_isText
set_option maxRecDepth 20000 in
theorem ggX2_readEnd_X2_passIf : GoodIn wsX2_readEnd wsX2_passIf := goodIn_r _ [93, 2, 3, 4, 5, 6, 7, 8, 9, 10, 11, 12, 13, 14, 1, 15, 16, 17, 18, 19, 20, 21, 22, 23, 24, 25, 26, 27, 28, 118, 119, 120, 121, 122, 123, 124] (by decide +kernel) (by decide +kernel)
set_option maxRecDepth 20000 in
theorem gX2_readEnd_X2_passIf : GoodIn wsX2_readEnd (wsV RX2 63 RX2 yX2_passIf wsX2_passIf) := goodIn_app (goodIn_of _ (by decide +kernel)) ggX2_readEnd_X2_passIf
set_option maxRecDepth 20000 in
theorem ggX2_readEnd_X2_endMarkHere : GoodIn wsX2_readEnd wsX2_endMarkHere := goodIn_r _ [97, 37, 38, 39, 6, 40, 1, 13, 8, 14, 41, 42, 43, 44, 45, 46, 47, 48, 49, 50, 51, 52, 19, 20, 21, 22, 23, 24, 25, 53, 54, 55, 56, 57, 58, 59, 60, 61, 62, 63, 64, 65, 66, 67, 68, 69, 70, 71, 72, 73, 74, 75, 76, 77, 78, 79, 80, 81, 82, 83, 84, 85, 86, 87, 88, 89, 118, 119, 120, 121, 122, 123, 124] (by decide +kernel) (by decide +kernel)
set_option maxRecDepth 20000 in
theorem gX2_readEnd_X2_endMarkHere : GoodIn wsX2_readEnd (wsV RX2 84 RX2 yX2_endMarkHere wsX2_endMarkHere) := goodIn_app (goodIn_of _ (by decide +kernel)) ggX2_readEnd_X2_endMarkHere
set_option maxRecDepth 20000 in
theorem ggX2_readEnd_X1_addEnd : GoodIn wsX2_readEnd wsX1_addEnd := goodIn_r _ [102, 103, 104, 105, 106, 107, 108, 109, 110, 111, 112, 113, 114, 115, 116, 117] (by decide +kernel) (by decide +kernel)
set_option maxRecDepth 20000 in
theorem gX2_readEnd_X1_addEnd : GoodIn wsX2_readEnd (wsV RX2 87 RX1 yX1_addEnd wsX1_addEnd) := goodIn_app (goodIn_of _ (by decide +kernel)) ggX2_readEnd_X1_addEnd
theorem dX2_readEnd_0 : decode cX2_readEnd 0 = .ok (.aload_n 1, 1) := by decide +kernel
theorem dX2_readEnd_1 : decode cX2_readEnd 1 = .ok (.getfield 81, 3) := by decide +kernel
theorem dX2_readEnd_4 : decode cX2_readEnd 4 = .ok (.bipush 10, 2) := by decide +kernel
theorem dX2_readEnd_6 : decode cX2_readEnd 6 = .ok (.if_icmp .lt 9, 3) := by decide +kernel
theorem dX2_readEnd_9 : decode cX2_readEnd 9 = .ok (.aload_n 0, 1) := by decide +kernel
theorem dX2_readEnd_10 : decode cX2_readEnd 10 = .ok (.iconst 5, 1) := by decide +kernel
theorem dX2_readEnd_11 : decode cX2_readEnd 11 = .ok (.invokevirtual 50, 3) := by decide +kernel
theorem dX2_readEnd_14 : decode cX2_readEnd 14 = .ok (.return_, 1) := by decide +kernel
theorem dX2_readEnd_15 : decode cX2_readEnd 15 = .ok (.aload_n 0, 1) := by decide +kernel
theorem dX2_readEnd_16 : decode cX2_readEnd 16 = .ok (.invokevirtual 27, 3) := by decide +kernel
theorem dX2_readEnd_19 : decode cX2_readEnd 19 = .ok (.aload_n 0, 1) := by decide +kernel
theorem dX2_readEnd_20 : decode cX2_readEnd 20 = .ok (.bipush 9, 2) := by decide +kernel
theorem dX2_readEnd_22 : decode cX2_readEnd 22 = .ok (.invokevirtual 57, 3) := by decide +kernel
theorem dX2_readEnd_25 : decode cX2_readEnd 25 = .ok (.istore_n 2, 1) := by decide +kernel
theorem dX2_readEnd_26 : decode cX2_readEnd 26 = .ok (.aload_n 0, 1) := by decide +kernel
theorem dX2_readEnd_27 : decode cX2_readEnd 27 = .ok (.aload_n 0, 1) := by decide +kernel
theorem dX2_readEnd_28 : decode cX2_readEnd 28 = .ok (.ldc 69, 2) := by decide +kernel
theorem dX2_readEnd_30 : decode cX2_readEnd 30 = .ok (.invokevirtual 37, 3) := by decide +kernel
theorem dX2_readEnd_33 : decode cX2_readEnd 33 = .ok (.invokevirtual 63, 3) := by decide +kernel
theorem dX2_readEnd_36 : decode cX2_readEnd 36 = .ok (.aload_n 0, 1) := by decide +kernel
theorem dX2_readEnd_37 : decode cX2_readEnd 37 = .ok (.sipush 999, 3) := by decide +kernel
theorem dX2_readEnd_40 : decode cX2_readEnd 40 = .ok (.invokevirtual 57, 3) := by decide +kernel
theorem dX2_readEnd_43 : decode cX2_readEnd 43 = .ok (.istore_n 3, 1) := by decide +kernel
theorem dX2_readEnd_44 : decode cX2_readEnd 44 = .ok (.aload_n 0, 1) := by decide +kernel
theorem dX2_readEnd_45 : decode cX2_readEnd 45 = .ok (.aload_n 0, 1) := by decide +kernel
theorem dX2_readEnd_46 : decode cX2_readEnd 46 = .ok (.ldc 71, 2) := by decide +kernel
theorem dX2_readEnd_48 : decode cX2_readEnd 48 = .ok (.invokevirtual 37, 3) := by decide +kernel
theorem dX2_readEnd_51 : decode cX2_readEnd 51 = .ok (.invokevirtual 63, 3) := by decide +kernel
theorem dX2_readEnd_54 : decode cX2_readEnd 54 = .ok (.aload_n 0, 1) := by decide +kernel
theorem dX2_readEnd_55 : decode cX2_readEnd 55 = .ok (.invokevirtual 84, 3) := by decide +kernel
theorem dX2_readEnd_58 : decode cX2_readEnd 58 = .ok (.istore 4, 2) := by decide +kernel
theorem dX2_readEnd_60 : decode cX2_readEnd 60 = .ok (.aload_n 0, 1) := by decide +kernel
theorem dX2_readEnd_61 : decode cX2_readEnd 61 = .ok (.iload 4, 2) := by decide +kernel
theorem dX2_readEnd_63 : decode cX2_readEnd 63 = .ok (.ifCond .eq 7, 3) := by decide +kernel
theorem dX2_readEnd_66 : decode cX2_readEnd 66 = .ok (.iconst 1, 1) := by decide +kernel
theorem dX2_readEnd_67 : decode cX2_readEnd 67 = .ok (.goto 4, 3) := by decide +kernel
theorem dX2_readEnd_70 : decode cX2_readEnd 70 = .ok (.iconst 0, 1) := by decide +kernel
theorem dX2_readEnd_71 : decode cX2_readEnd 71 = .ok (.invokevirtual 63, 3) := by decide +kernel
theorem dX2_readEnd_74 : decode cX2_readEnd 74 = .ok (.aload_n 0, 1) := by decide +kernel
theorem dX2_readEnd_75 : decode cX2_readEnd 75 = .ok (.aload_n 0, 1) := by decide +kernel
theorem dX2_readEnd_76 : decode cX2_readEnd 76 = .ok (.getfield 32, 3) := by decide +kernel
theorem dX2_readEnd_79 : decode cX2_readEnd 79 = .ok (.iconst 4, 1) := by decide +kernel
theorem dX2_readEnd_80 : decode cX2_readEnd 80 = .ok (.if_icmp .ne 7, 3) := by decide +kernel
theorem dX2_readEnd_83 : decode cX2_readEnd 83 = .ok (.iconst 1, 1) := by decide +kernel
theorem dX2_readEnd_84 : decode cX2_readEnd 84 = .ok (.goto 4, 3) := by decide +kernel
theorem dX2_readEnd_87 : decode cX2_readEnd 87 = .ok (.iconst 0, 1) := by decide +kernel
theorem dX2_readEnd_88 : decode cX2_readEnd 88 = .ok (.invokevirtual 63, 3) := by decide +kernel
theorem dX2_readEnd_91 : decode cX2_readEnd 91 = .ok (.aload_n 0, 1) := by decide +kernel
theorem dX2_readEnd_92 : decode cX2_readEnd 92 = .ok (.getfield 20, 3) := by decide +kernel
theorem dX2_readEnd_95 : decode cX2_readEnd 95 = .ok (.ifCond .ne 11, 3) := by decide +kernel
theorem dX2_readEnd_98 : decode cX2_readEnd 98 = .ok (.aload_n 1, 1) := by decide +kernel
theorem dX2_readEnd_99 : decode cX2_readEnd 99 = .ok (.iload_n 2, 1) := by decide +kernel
theorem dX2_readEnd_100 : decode cX2_readEnd 100 = .ok (.iload_n 3, 1) := by decide +kernel
theorem dX2_readEnd_101 : decode cX2_readEnd 101 = .ok (.iload 4, 2) := by decide +kernel
theorem dX2_readEnd_103 : decode cX2_readEnd 103 = .ok (.invokevirtual 87, 3) := by decide +kernel
theorem dX2_readEnd_106 : decode cX2_readEnd 106 = .ok (.return_, 1) := by decide +kernel
set_option maxRecDepth 20000 in
theorem ggX2_goMarkHere_X2_isText : GoodIn wsX2_goMarkHere wsX2_isText := goodIn_r _ [5, 6, 7, 8, 9, 10, 11, 12, 13, 14, 15, 16, 17, 18, 19, 20, 21, 22, 23, 24, 25, 26, 27, 28, 29, 30, 31, 32, 33, 34, 35, 36, 37, 38, 39, 40, 41, 42, 43, 44, 45, 46, 47, 48, 49, 50, 51, 52, 53, 54, 55, 56, 57, 58, 59, 60, 61, 62, 63, 64, 65, 66, 67, 68, 69, 70, 71, 72] (by decide +kernel) (by decide +kernel)
set_option maxRecDepth 20000 in
theorem gX2_goMarkHere_X2_isText : GoodIn wsX2_goMarkHere (wsV RX2 37 RX2 yX2_isText wsX2_isText) := goodIn_app (goodIn_of _ (by decide +kernel)) ggX2_goMarkHere_X2_isText
theorem dX2_goMarkHere_0 : decode cX2_goMarkHere 0 = .ok (.aload_n 0, 1) := by decide +kernel
theorem dX2_goMarkHere_1 : decode cX2_goMarkHere 1 = .ok (.ldc 91, 2) := by decide +kernel
theorem dX2_goMarkHere_3 : decode cX2_goMarkHere 3 = .ok (.invokevirtual 37, 3) := by decide +kernel
theorem dX2_goMarkHere_6 : decode cX2_goMarkHere 6 = .ok (.ifCond .eq 7, 3) := by decide +kernel
theorem dX2_goMarkHere_9 : decode cX2_goMarkHere 9 = .ok (.iconst 1, 1) := by decide +kernel
theorem dX2_goMarkHere_10 : decode cX2_goMarkHere 10 = .ok (.goto 30, 3) := by decide +kernel
theorem dX2_goMarkHere_13 : decode cX2_goMarkHere 13 = .ok (.aload_n 0, 1) := by decide +kernel
theorem dX2_goMarkHere_14 : decode cX2_goMarkHere 14 = .ok (.ldc 93, 2) := by decide +kernel
theorem dX2_goMarkHere_16 : decode cX2_goMarkHere 16 = .ok (.invokevirtual 37, 3) := by decide +kernel
theorem dX2_goMarkHere_19 : decode cX2_goMarkHere 19 = .ok (.ifCond .eq 7, 3) := by decide +kernel
theorem dX2_goMarkHere_22 : decode cX2_goMarkHere 22 = .ok (.iconst 2, 1) := by decide +kernel
theorem dX2_goMarkHere_23 : decode cX2_goMarkHere 23 = .ok (.goto 17, 3) := by decide +kernel
theorem dX2_goMarkHere_26 : decode cX2_goMarkHere 26 = .ok (.aload_n 0, 1) := by decide +kernel
theorem dX2_goMarkHere_27 : decode cX2_goMarkHere 27 = .ok (.ldc 95, 2) := by decide +kernel
theorem dX2_goMarkHere_29 : decode cX2_goMarkHere 29 = .ok (.invokevirtual 37, 3) := by decide +kernel
theorem dX2_goMarkHere_32 : decode cX2_goMarkHere 32 = .ok (.ifCond .eq 7, 3) := by decide +kernel
theorem dX2_goMarkHere_35 : decode cX2_goMarkHere 35 = .ok (.iconst 3, 1) := by decide +kernel
theorem dX2_goMarkHere_36 : decode cX2_goMarkHere 36 = .ok (.goto 4, 3) := by decide +kernel
theorem dX2_goMarkHere_39 : decode cX2_goMarkHere 39 = .ok (.iconst 0, 1) := by decide +kernel
theorem dX2_goMarkHere_40 : decode cX2_goMarkHere 40 = .ok (.ireturn, 1) := by decide +kernel
set_option maxRecDepth 20000 in
theorem ggX2_endMarkHere_X2_isText : GoodIn wsX2_endMarkHere wsX2_isText := goodIn_r _ [5, 6, 7, 8, 9, 10, 11, 12, 13, 14, 15, 16, 17, 18, 19, 20, 21, 22, 23, 24, 25, 26, 27, 28, 29, 30, 31, 32, 33, 34, 35, 36, 37, 38, 39, 40, 41, 42, 43, 44, 45, 46, 47, 48, 49, 50, 51, 52, 53, 54, 55, 56, 57, 58, 59, 60, 61, 62, 63, 64, 65, 66, 67, 68, 69, 70, 71, 72] (by decide +kernel) (by decide +kernel)
set_option maxRecDepth 20000 in
theorem gX2_endMarkHere_X2_isText : GoodIn wsX2_endMarkHere (wsV RX2 37 RX2 yX2_isText wsX2_isText) := goodIn_app (goodIn_of _ (by decide +kernel)) ggX2_endMarkHere_X2_isText
theorem dX2_endMarkHere_0 : decode cX2_endMarkHere 0 = .ok (.aload_n 0, 1) := by decide +kernel
theorem dX2_endMarkHere_1 : decode cX2_endMarkHere 1 = .ok (.ldc 97, 2) := by decide +kernel
theorem dX2_endMarkHere_3 : decode cX2_endMarkHere 3 = .ok (.invokevirtual 37, 3) := by decide +kernel
theorem dX2_endMarkHere_6 : decode cX2_endMarkHere 6 = .ok (.ifCond .eq 7, 3) := by decide +kernel
theorem dX2_endMarkHere_9 : decode cX2_endMarkHere 9 = .ok (.iconst 4, 1) := by decide +kernel
theorem dX2_endMarkHere_10 : decode cX2_endMarkHere 10 = .ok (.goto 31, 3) := by decide +kernel
theorem dX2_endMarkHere_13 : decode cX2_endMarkHere 13 = .ok (.aload_n 0, 1) := by decide +kernel
theorem dX2_endMarkHere_14 : decode cX2_endMarkHere 14 = .ok (.ldc 99, 2) := by decide +kernel
theorem dX2_endMarkHere_16 : decode cX2_endMarkHere 16 = .ok (.invokevirtual 37, 3) := by decide +kernel
theorem dX2_endMarkHere_19 : decode cX2_endMarkHere 19 = .ok (.ifCond .eq 7, 3) := by decide +kernel
theorem dX2_endMarkHere_22 : decode cX2_endMarkHere 22 = .ok (.iconst 5, 1) := by decide +kernel
theorem dX2_endMarkHere_23 : decode cX2_endMarkHere 23 = .ok (.goto 18, 3) := by decide +kernel
theorem dX2_endMarkHere_26 : decode cX2_endMarkHere 26 = .ok (.aload_n 0, 1) := by decide +kernel
theorem dX2_endMarkHere_27 : decode cX2_endMarkHere 27 = .ok (.ldc 101, 2) := by decide +kernel
theorem dX2_endMarkHere_29 : decode cX2_endMarkHere 29 = .ok (.invokevirtual 37, 3) := by decide +kernel
theorem dX2_endMarkHere_32 : decode cX2_endMarkHere 32 = .ok (.ifCond .eq 8, 3) := by decide +kernel
theorem dX2_endMarkHere_35 : decode cX2_endMarkHere 35 = .ok (.bipush 6, 2) := by decide +kernel
theorem dX2_endMarkHere_37 : decode cX2_endMarkHere 37 = .ok (.goto 4, 3) := by decide +kernel
theorem dX2_endMarkHere_40 : decode cX2_endMarkHere 40 = .ok (.iconst 0, 1) := by decide +kernel
theorem dX2_endMarkHere_41 : decode cX2_endMarkHere 41 = .ok (.ireturn, 1) := by decide +kernel
set_option maxRecDepth 20000 in
theorem ggX2_readNumber_X2_numberHere : GoodIn wsX2_readNumber wsX2_numberHere := goodIn_r _ [7, 8, 9, 10, 11, 12, 13, 14, 15, 16, 17, 33, 34, 35, 36, 37, 38, 39] (by decide +kernel) (by decide +kernel)
set_option maxRecDepth 20000 in
theorem gX2_readNumber_X2_numberHere : GoodIn wsX2_readNumber (wsV RX2 103 RX2 yX2_numberHere wsX2_numberHere) := goodIn_app (goodIn_of _ (by decide +kernel)) ggX2_readNumber_X2_numberHere
set_option maxRecDepth 20000 in
theorem ggX2_readNumber_X2_refuse : GoodIn wsX2_readNumber wsX2_refuse := goodIn_r _ [21, 2, 8, 33, 34, 35, 36, 37] (by decide +kernel) (by decide +kernel)
set_option maxRecDepth 20000 in
theorem gX2_readNumber_X2_refuse : GoodIn wsX2_readNumber (wsV RX2 50 RX2 yX2_refuse wsX2_refuse) := goodIn_app (goodIn_of _ (by decide +kernel)) ggX2_readNumber_X2_refuse
set_option maxRecDepth 20000 in
theorem ggX2_readNumber_X2_advance : GoodIn wsX2_readNumber wsX2_advance := goodIn_r _ [25, 9, 8, 10, 1, 26, 27, 28, 6, 29, 11, 12, 13, 14, 15, 16, 17, 30, 31, 32, 33, 34, 35, 36, 37, 38, 39] (by decide +kernel) (by decide +kernel)
set_option maxRecDepth 20000 in
theorem gX2_readNumber_X2_advance : GoodIn wsX2_readNumber (wsV RX2 27 RX2 yX2_advance wsX2_advance) := goodIn_app (goodIn_of _ (by decide +kernel)) ggX2_readNumber_X2_advance
theorem dX2_readNumber_0 : decode cX2_readNumber 0 = .ok (.aload_n 0, 1) := by decide +kernel
theorem dX2_readNumber_1 : decode cX2_readNumber 1 = .ok (.getfield 32, 3) := by decide +kernel
theorem dX2_readNumber_4 : decode cX2_readNumber 4 = .ok (.iconst 3, 1) := by decide +kernel
theorem dX2_readNumber_5 : decode cX2_readNumber 5 = .ok (.if_icmp .ne 10, 3) := by decide +kernel
theorem dX2_readNumber_8 : decode cX2_readNumber 8 = .ok (.aload_n 0, 1) := by decide +kernel
theorem dX2_readNumber_9 : decode cX2_readNumber 9 = .ok (.invokevirtual 103, 3) := by decide +kernel
theorem dX2_readNumber_12 : decode cX2_readNumber 12 = .ok (.goto 4, 3) := by decide +kernel
theorem dX2_readNumber_15 : decode cX2_readNumber 15 = .ok (.iconst 0, 1) := by decide +kernel
theorem dX2_readNumber_16 : decode cX2_readNumber 16 = .ok (.istore_n 2, 1) := by decide +kernel
theorem dX2_readNumber_17 : decode cX2_readNumber 17 = .ok (.aload_n 0, 1) := by decide +kernel
theorem dX2_readNumber_18 : decode cX2_readNumber 18 = .ok (.getfield 32, 3) := by decide +kernel
theorem dX2_readNumber_21 : decode cX2_readNumber 21 = .ok (.iconst 3, 1) := by decide +kernel
theorem dX2_readNumber_22 : decode cX2_readNumber 22 = .ok (.if_icmp .eq 11, 3) := by decide +kernel
theorem dX2_readNumber_25 : decode cX2_readNumber 25 = .ok (.aload_n 0, 1) := by decide +kernel
theorem dX2_readNumber_26 : decode cX2_readNumber 26 = .ok (.iconst 1, 1) := by decide +kernel
theorem dX2_readNumber_27 : decode cX2_readNumber 27 = .ok (.invokevirtual 50, 3) := by decide +kernel
theorem dX2_readNumber_30 : decode cX2_readNumber 30 = .ok (.goto 27, 3) := by decide +kernel
theorem dX2_readNumber_33 : decode cX2_readNumber 33 = .ok (.iload_n 2, 1) := by decide +kernel
theorem dX2_readNumber_34 : decode cX2_readNumber 34 = .ok (.iload_n 1, 1) := by decide +kernel
theorem dX2_readNumber_35 : decode cX2_readNumber 35 = .ok (.if_icmp .le 11, 3) := by decide +kernel
theorem dX2_readNumber_38 : decode cX2_readNumber 38 = .ok (.aload_n 0, 1) := by decide +kernel
theorem dX2_readNumber_39 : decode cX2_readNumber 39 = .ok (.iconst 4, 1) := by decide +kernel
theorem dX2_readNumber_40 : decode cX2_readNumber 40 = .ok (.invokevirtual 50, 3) := by decide +kernel
theorem dX2_readNumber_43 : decode cX2_readNumber 43 = .ok (.goto 14, 3) := by decide +kernel
theorem dX2_readNumber_46 : decode cX2_readNumber 46 = .ok (.aload_n 0, 1) := by decide +kernel
theorem dX2_readNumber_47 : decode cX2_readNumber 47 = .ok (.getfield 20, 3) := by decide +kernel
theorem dX2_readNumber_50 : decode cX2_readNumber 50 = .ok (.ifCond .ne 7, 3) := by decide +kernel
theorem dX2_readNumber_53 : decode cX2_readNumber 53 = .ok (.aload_n 0, 1) := by decide +kernel
theorem dX2_readNumber_54 : decode cX2_readNumber 54 = .ok (.invokevirtual 27, 3) := by decide +kernel
theorem dX2_readNumber_57 : decode cX2_readNumber 57 = .ok (.iload_n 2, 1) := by decide +kernel
theorem dX2_readNumber_58 : decode cX2_readNumber 58 = .ok (.ireturn, 1) := by decide +kernel
set_option maxRecDepth 20000 in
theorem ggX2_passIf_X2_refuse : GoodIn wsX2_passIf wsX2_refuse := goodIn_r _ [6, 1, 7, 29, 30, 31, 32, 33] (by decide +kernel) (by decide +kernel)
set_option maxRecDepth 20000 in
theorem gX2_passIf_X2_refuse : GoodIn wsX2_passIf (wsV RX2 50 RX2 yX2_refuse wsX2_refuse) := goodIn_app (goodIn_of _ (by decide +kernel)) ggX2_passIf_X2_refuse
set_option maxRecDepth 20000 in
theorem ggX2_passIf_X2_advance : GoodIn wsX2_passIf wsX2_advance := goodIn_r _ [11, 12, 7, 13, 14, 15, 16, 17, 5, 18, 19, 20, 21, 22, 23, 24, 25, 26, 27, 28, 29, 30, 31, 32, 33, 34, 35] (by decide +kernel) (by decide +kernel)
set_option maxRecDepth 20000 in
theorem gX2_passIf_X2_advance : GoodIn wsX2_passIf (wsV RX2 27 RX2 yX2_advance wsX2_advance) := goodIn_app (goodIn_of _ (by decide +kernel)) ggX2_passIf_X2_advance
theorem dX2_passIf_0 : decode cX2_passIf 0 = .ok (.iload_n 1, 1) := by decide +kernel
theorem dX2_passIf_1 : decode cX2_passIf 1 = .ok (.ifCond .ne 11, 3) := by decide +kernel
theorem dX2_passIf_4 : decode cX2_passIf 4 = .ok (.aload_n 0, 1) := by decide +kernel
theorem dX2_passIf_5 : decode cX2_passIf 5 = .ok (.iconst 1, 1) := by decide +kernel
theorem dX2_passIf_6 : decode cX2_passIf 6 = .ok (.invokevirtual 50, 3) := by decide +kernel
theorem dX2_passIf_9 : decode cX2_passIf 9 = .ok (.goto 14, 3) := by decide +kernel
theorem dX2_passIf_12 : decode cX2_passIf 12 = .ok (.aload_n 0, 1) := by decide +kernel
theorem dX2_passIf_13 : decode cX2_passIf 13 = .ok (.getfield 20, 3) := by decide +kernel
theorem dX2_passIf_16 : decode cX2_passIf 16 = .ok (.ifCond .ne 7, 3) := by decide +kernel
theorem dX2_passIf_19 : decode cX2_passIf 19 = .ok (.aload_n 0, 1) := by decide +kernel
theorem dX2_passIf_20 : decode cX2_passIf 20 = .ok (.invokevirtual 27, 3) := by decide +kernel
theorem dX2_passIf_23 : decode cX2_passIf 23 = .ok (.return_, 1) := by decide +kernel
theorem dX2_refuse_0 : decode cX2_refuse 0 = .ok (.aload_n 0, 1) := by decide +kernel
theorem dX2_refuse_1 : decode cX2_refuse 1 = .ok (.getfield 20, 3) := by decide +kernel
theorem dX2_refuse_4 : decode cX2_refuse 4 = .ok (.ifCond .ne 16, 3) := by decide +kernel
theorem dX2_refuse_7 : decode cX2_refuse 7 = .ok (.aload_n 0, 1) := by decide +kernel
theorem dX2_refuse_8 : decode cX2_refuse 8 = .ok (.iload_n 1, 1) := by decide +kernel
theorem dX2_refuse_9 : decode cX2_refuse 9 = .ok (.bipush 16, 2) := by decide +kernel
theorem dX2_refuse_11 : decode cX2_refuse 11 = .ok (.aload_n 0, 1) := by decide +kernel
theorem dX2_refuse_12 : decode cX2_refuse 12 = .ok (.getfield 106, 3) := by decide +kernel
theorem dX2_refuse_15 : decode cX2_refuse 15 = .ok (.imul, 1) := by decide +kernel
theorem dX2_refuse_16 : decode cX2_refuse 16 = .ok (.iadd, 1) := by decide +kernel
theorem dX2_refuse_17 : decode cX2_refuse 17 = .ok (.putfield 20, 3) := by decide +kernel
theorem dX2_refuse_20 : decode cX2_refuse 20 = .ok (.return_, 1) := by decide +kernel
set_option maxRecDepth 20000 in
theorem ggX2_advance_X2_runEnd : GoodIn wsX2_advance wsX2_runEnd := goodIn_r _ [9, 3, 10, 11, 12, 13, 14, 15, 16, 17, 18, 8, 19, 20, 21, 22, 23, 24, 25, 26] (by decide +kernel) (by decide +kernel)
set_option maxRecDepth 20000 in
theorem gX2_advance_X2_runEnd : GoodIn wsX2_advance (wsV RX2 109 RX2 yX2_runEnd wsX2_runEnd) := goodIn_app (goodIn_of _ (by decide +kernel)) ggX2_advance_X2_runEnd
set_option maxRecDepth 20000 in
theorem ggX2_advance_X3_signAt : GoodIn wsX2_advance wsX3_signAt := goodIn_r _ [14, 15, 16, 25, 26] (by decide +kernel) (by decide +kernel)
set_option maxRecDepth 20000 in
theorem gX2_advance_X3_signAt : GoodIn wsX2_advance (wsV RX2 113 RX3 yX3_signAt wsX3_signAt) := goodIn_app (goodIn_of _ (by decide +kernel)) ggX2_advance_X3_signAt
set_option maxRecDepth 20000 in
theorem ggX2_advance_X2_sortOf : GoodIn wsX2_advance wsX2_sortOf := goodIn_r _ [19] (by decide +kernel) (by decide +kernel)
set_option maxRecDepth 20000 in
theorem gX2_advance_X2_sortOf : GoodIn wsX2_advance (va_wsS RX2 116 yX2_sortOf wsX2_sortOf) := goodIn_app (goodIn_of _ (by decide +kernel)) ggX2_advance_X2_sortOf
theorem dX2_advance_0 : decode cX2_advance 0 = .ok (.aload_n 0, 1) := by decide +kernel
theorem dX2_advance_1 : decode cX2_advance 1 = .ok (.aload_n 0, 1) := by decide +kernel
theorem dX2_advance_2 : decode cX2_advance 2 = .ok (.aload_n 0, 1) := by decide +kernel
theorem dX2_advance_3 : decode cX2_advance 3 = .ok (.getfield 24, 3) := by decide +kernel
theorem dX2_advance_6 : decode cX2_advance 6 = .ok (.iconst 1, 1) := by decide +kernel
theorem dX2_advance_7 : decode cX2_advance 7 = .ok (.invokevirtual 109, 3) := by decide +kernel
theorem dX2_advance_10 : decode cX2_advance 10 = .ok (.putfield 106, 3) := by decide +kernel
theorem dX2_advance_13 : decode cX2_advance 13 = .ok (.aload_n 0, 1) := by decide +kernel
theorem dX2_advance_14 : decode cX2_advance 14 = .ok (.aload_n 0, 1) := by decide +kernel
theorem dX2_advance_15 : decode cX2_advance 15 = .ok (.getfield 9, 3) := by decide +kernel
theorem dX2_advance_18 : decode cX2_advance 18 = .ok (.aload_n 0, 1) := by decide +kernel
theorem dX2_advance_19 : decode cX2_advance 19 = .ok (.getfield 106, 3) := by decide +kernel
theorem dX2_advance_22 : decode cX2_advance 22 = .ok (.invokevirtual 113, 3) := by decide +kernel
theorem dX2_advance_25 : decode cX2_advance 25 = .ok (.invokestatic 116, 3) := by decide +kernel
theorem dX2_advance_28 : decode cX2_advance 28 = .ok (.putfield 32, 3) := by decide +kernel
theorem dX2_advance_31 : decode cX2_advance 31 = .ok (.aload_n 0, 1) := by decide +kernel
theorem dX2_advance_32 : decode cX2_advance 32 = .ok (.getfield 32, 3) := by decide +kernel
theorem dX2_advance_35 : decode cX2_advance 35 = .ok (.iconst 2, 1) := by decide +kernel
theorem dX2_advance_36 : decode cX2_advance 36 = .ok (.if_icmp .eq 11, 3) := by decide +kernel
theorem dX2_advance_39 : decode cX2_advance 39 = .ok (.aload_n 0, 1) := by decide +kernel
theorem dX2_advance_40 : decode cX2_advance 40 = .ok (.getfield 32, 3) := by decide +kernel
theorem dX2_advance_43 : decode cX2_advance 43 = .ok (.iconst 3, 1) := by decide +kernel
theorem dX2_advance_44 : decode cX2_advance 44 = .ok (.if_icmp .ne 55, 3) := by decide +kernel
theorem dX2_advance_47 : decode cX2_advance 47 = .ok (.aload_n 0, 1) := by decide +kernel
theorem dX2_advance_48 : decode cX2_advance 48 = .ok (.aload_n 0, 1) := by decide +kernel
theorem dX2_advance_49 : decode cX2_advance 49 = .ok (.aload_n 0, 1) := by decide +kernel
theorem dX2_advance_50 : decode cX2_advance 50 = .ok (.getfield 106, 3) := by decide +kernel
theorem dX2_advance_53 : decode cX2_advance 53 = .ok (.aload_n 0, 1) := by decide +kernel
theorem dX2_advance_54 : decode cX2_advance 54 = .ok (.getfield 32, 3) := by decide +kernel
theorem dX2_advance_57 : decode cX2_advance 57 = .ok (.invokevirtual 109, 3) := by decide +kernel
theorem dX2_advance_60 : decode cX2_advance 60 = .ok (.putfield 24, 3) := by decide +kernel
theorem dX2_advance_63 : decode cX2_advance 63 = .ok (.aload_n 0, 1) := by decide +kernel
theorem dX2_advance_64 : decode cX2_advance 64 = .ok (.getfield 32, 3) := by decide +kernel
theorem dX2_advance_67 : decode cX2_advance 67 = .ok (.iconst 2, 1) := by decide +kernel
theorem dX2_advance_68 : decode cX2_advance 68 = .ok (.if_icmp .ne 8, 3) := by decide +kernel
theorem dX2_advance_71 : decode cX2_advance 71 = .ok (.bipush 8, 2) := by decide +kernel
theorem dX2_advance_73 : decode cX2_advance 73 = .ok (.goto 4, 3) := by decide +kernel
theorem dX2_advance_76 : decode cX2_advance 76 = .ok (.iconst 4, 1) := by decide +kernel
theorem dX2_advance_77 : decode cX2_advance 77 = .ok (.istore_n 1, 1) := by decide +kernel
theorem dX2_advance_78 : decode cX2_advance 78 = .ok (.aload_n 0, 1) := by decide +kernel
theorem dX2_advance_79 : decode cX2_advance 79 = .ok (.getfield 24, 3) := by decide +kernel
theorem dX2_advance_82 : decode cX2_advance 82 = .ok (.aload_n 0, 1) := by decide +kernel
theorem dX2_advance_83 : decode cX2_advance 83 = .ok (.getfield 106, 3) := by decide +kernel
theorem dX2_advance_86 : decode cX2_advance 86 = .ok (.isub, 1) := by decide +kernel
theorem dX2_advance_87 : decode cX2_advance 87 = .ok (.iload_n 1, 1) := by decide +kernel
theorem dX2_advance_88 : decode cX2_advance 88 = .ok (.if_icmp .le 8, 3) := by decide +kernel
theorem dX2_advance_91 : decode cX2_advance 91 = .ok (.aload_n 0, 1) := by decide +kernel
theorem dX2_advance_92 : decode cX2_advance 92 = .ok (.iconst 5, 1) := by decide +kernel
theorem dX2_advance_93 : decode cX2_advance 93 = .ok (.putfield 32, 3) := by decide +kernel
theorem dX2_advance_96 : decode cX2_advance 96 = .ok (.goto 27, 3) := by decide +kernel
theorem dX2_advance_99 : decode cX2_advance 99 = .ok (.aload_n 0, 1) := by decide +kernel
theorem dX2_advance_100 : decode cX2_advance 100 = .ok (.aload_n 0, 1) := by decide +kernel
theorem dX2_advance_101 : decode cX2_advance 101 = .ok (.getfield 32, 3) := by decide +kernel
theorem dX2_advance_104 : decode cX2_advance 104 = .ok (.ifCond .ne 10, 3) := by decide +kernel
theorem dX2_advance_107 : decode cX2_advance 107 = .ok (.aload_n 0, 1) := by decide +kernel
theorem dX2_advance_108 : decode cX2_advance 108 = .ok (.getfield 106, 3) := by decide +kernel
theorem dX2_advance_111 : decode cX2_advance 111 = .ok (.goto 9, 3) := by decide +kernel
theorem dX2_advance_114 : decode cX2_advance 114 = .ok (.aload_n 0, 1) := by decide +kernel
theorem dX2_advance_115 : decode cX2_advance 115 = .ok (.getfield 106, 3) := by decide +kernel
theorem dX2_advance_118 : decode cX2_advance 118 = .ok (.iconst 1, 1) := by decide +kernel
theorem dX2_advance_119 : decode cX2_advance 119 = .ok (.iadd, 1) := by decide +kernel
theorem dX2_advance_120 : decode cX2_advance 120 = .ok (.putfield 24, 3) := by decide +kernel
theorem dX2_advance_123 : decode cX2_advance 123 = .ok (.return_, 1) := by decide +kernel
set_option maxRecDepth 20000 in
theorem ggX2_runEnd_X3_signAt : GoodIn wsX2_runEnd wsX3_signAt := goodIn_r _ [6, 7, 8, 18, 19] (by decide +kernel) (by decide +kernel)
set_option maxRecDepth 20000 in
theorem gX2_runEnd_X3_signAt : GoodIn wsX2_runEnd (wsV RX2 113 RX3 yX3_signAt wsX3_signAt) := goodIn_app (goodIn_of _ (by decide +kernel)) ggX2_runEnd_X3_signAt
set_option maxRecDepth 20000 in
theorem ggX2_runEnd_X2_sortOf : GoodIn wsX2_runEnd wsX2_sortOf := goodIn_r _ [12] (by decide +kernel) (by decide +kernel)
set_option maxRecDepth 20000 in
theorem gX2_runEnd_X2_sortOf : GoodIn wsX2_runEnd (va_wsS RX2 116 yX2_sortOf wsX2_sortOf) := goodIn_app (goodIn_of _ (by decide +kernel)) ggX2_runEnd_X2_sortOf
theorem dX2_runEnd_0 : decode cX2_runEnd 0 = .ok (.iload_n 1, 1) := by decide +kernel
theorem dX2_runEnd_1 : decode cX2_runEnd 1 = .ok (.istore_n 3, 1) := by decide +kernel
theorem dX2_runEnd_2 : decode cX2_runEnd 2 = .ok (.iload_n 3, 1) := by decide +kernel
theorem dX2_runEnd_3 : decode cX2_runEnd 3 = .ok (.aload_n 0, 1) := by decide +kernel
theorem dX2_runEnd_4 : decode cX2_runEnd 4 = .ok (.getfield 9, 3) := by decide +kernel
theorem dX2_runEnd_7 : decode cX2_runEnd 7 = .ok (.getfield 119, 3) := by decide +kernel
theorem dX2_runEnd_10 : decode cX2_runEnd 10 = .ok (.if_icmp .ge 26, 3) := by decide +kernel
theorem dX2_runEnd_13 : decode cX2_runEnd 13 = .ok (.aload_n 0, 1) := by decide +kernel
theorem dX2_runEnd_14 : decode cX2_runEnd 14 = .ok (.getfield 9, 3) := by decide +kernel
theorem dX2_runEnd_17 : decode cX2_runEnd 17 = .ok (.iload_n 3, 1) := by decide +kernel
theorem dX2_runEnd_18 : decode cX2_runEnd 18 = .ok (.invokevirtual 113, 3) := by decide +kernel
theorem dX2_runEnd_21 : decode cX2_runEnd 21 = .ok (.invokestatic 116, 3) := by decide +kernel
theorem dX2_runEnd_24 : decode cX2_runEnd 24 = .ok (.iload_n 2, 1) := by decide +kernel
theorem dX2_runEnd_25 : decode cX2_runEnd 25 = .ok (.if_icmp .eq 5, 3) := by decide +kernel
theorem dX2_runEnd_28 : decode cX2_runEnd 28 = .ok (.iload_n 3, 1) := by decide +kernel
theorem dX2_runEnd_29 : decode cX2_runEnd 29 = .ok (.ireturn, 1) := by decide +kernel
theorem dX2_runEnd_30 : decode cX2_runEnd 30 = .ok (.iinc 3 1, 3) := by decide +kernel
theorem dX2_runEnd_33 : decode cX2_runEnd 33 = .ok (.goto (-31), 3) := by decide +kernel
theorem dX2_runEnd_36 : decode cX2_runEnd 36 = .ok (.aload_n 0, 1) := by decide +kernel
theorem dX2_runEnd_37 : decode cX2_runEnd 37 = .ok (.getfield 9, 3) := by decide +kernel
theorem dX2_runEnd_40 : decode cX2_runEnd 40 = .ok (.getfield 119, 3) := by decide +kernel
theorem dX2_runEnd_43 : decode cX2_runEnd 43 = .ok (.ireturn, 1) := by decide +kernel
set_option maxRecDepth 20000 in
theorem ggX2_isText_J0_length_8abf5 : GoodIn wsX2_isText wsJ0_length_8abf5 := goodIn_r _ [9, 10, 11, 12, 13, 8, 14, 15, 16] (by decide +kernel) (by decide +kernel)
set_option maxRecDepth 20000 in
theorem gX2_isText_J0_length_8abf5 : GoodIn wsX2_isText (wsV RX2 122 RJ0 yJ0_length_8abf5 wsJ0_length_8abf5) := goodIn_app (goodIn_of _ (by decide +kernel)) ggX2_isText_J0_length_8abf5
set_option maxRecDepth 20000 in
theorem ggX2_isText_X3_signAt : GoodIn wsX2_isText wsX3_signAt := goodIn_r _ [21, 22, 23, 66, 67] (by decide +kernel) (by decide +kernel)
set_option maxRecDepth 20000 in
theorem gX2_isText_X3_signAt : GoodIn wsX2_isText (wsV RX2 113 RX3 yX3_signAt wsX3_signAt) := goodIn_app (goodIn_of _ (by decide +kernel)) ggX2_isText_X3_signAt
set_option maxRecDepth 20000 in
theorem ggX2_isText_J0_charAt_5068e : GoodIn wsX2_isText wsJ0_charAt_5068e := goodIn_r _ [27, 10, 28, 29, 30, 8, 31, 15, 16, 32, 33, 34, 35, 36, 37, 38, 39, 40, 41, 42, 43, 44, 45, 46, 47, 48, 49, 50, 51, 52, 53, 54, 55, 56, 57, 58, 59, 60] (by decide +kernel) (by decide +kernel)
set_option maxRecDepth 20000 in
theorem gX2_isText_J0_charAt_5068e : GoodIn wsX2_isText (wsV RX2 126 RJ0 yJ0_charAt_5068e wsJ0_charAt_5068e) := goodIn_app (goodIn_of _ (by decide +kernel)) ggX2_isText_J0_charAt_5068e
theorem dX2_isText_0 : decode cX2_isText 0 = .ok (.aload_n 0, 1) := by decide +kernel
theorem dX2_isText_1 : decode cX2_isText 1 = .ok (.getfield 32, 3) := by decide +kernel
theorem dX2_isText_4 : decode cX2_isText 4 = .ok (.iconst 2, 1) := by decide +kernel
theorem dX2_isText_5 : decode cX2_isText 5 = .ok (.if_icmp .ne 19, 3) := by decide +kernel
theorem dX2_isText_8 : decode cX2_isText 8 = .ok (.aload_n 0, 1) := by decide +kernel
theorem dX2_isText_9 : decode cX2_isText 9 = .ok (.getfield 24, 3) := by decide +kernel
theorem dX2_isText_12 : decode cX2_isText 12 = .ok (.aload_n 0, 1) := by decide +kernel
theorem dX2_isText_13 : decode cX2_isText 13 = .ok (.getfield 106, 3) := by decide +kernel
theorem dX2_isText_16 : decode cX2_isText 16 = .ok (.isub, 1) := by decide +kernel
theorem dX2_isText_17 : decode cX2_isText 17 = .ok (.aload_n 1, 1) := by decide +kernel
theorem dX2_isText_18 : decode cX2_isText 18 = .ok (.invokevirtual 122, 3) := by decide +kernel
theorem dX2_isText_21 : decode cX2_isText 21 = .ok (.if_icmp .eq 5, 3) := by decide +kernel
theorem dX2_isText_24 : decode cX2_isText 24 = .ok (.iconst 0, 1) := by decide +kernel
theorem dX2_isText_25 : decode cX2_isText 25 = .ok (.ireturn, 1) := by decide +kernel
theorem dX2_isText_26 : decode cX2_isText 26 = .ok (.iconst 0, 1) := by decide +kernel
theorem dX2_isText_27 : decode cX2_isText 27 = .ok (.istore_n 2, 1) := by decide +kernel
theorem dX2_isText_28 : decode cX2_isText 28 = .ok (.iload_n 2, 1) := by decide +kernel
theorem dX2_isText_29 : decode cX2_isText 29 = .ok (.aload_n 1, 1) := by decide +kernel
theorem dX2_isText_30 : decode cX2_isText 30 = .ok (.invokevirtual 122, 3) := by decide +kernel
theorem dX2_isText_33 : decode cX2_isText 33 = .ok (.if_icmp .ge 32, 3) := by decide +kernel
theorem dX2_isText_36 : decode cX2_isText 36 = .ok (.aload_n 0, 1) := by decide +kernel
theorem dX2_isText_37 : decode cX2_isText 37 = .ok (.getfield 9, 3) := by decide +kernel
theorem dX2_isText_40 : decode cX2_isText 40 = .ok (.aload_n 0, 1) := by decide +kernel
theorem dX2_isText_41 : decode cX2_isText 41 = .ok (.getfield 106, 3) := by decide +kernel
theorem dX2_isText_44 : decode cX2_isText 44 = .ok (.iload_n 2, 1) := by decide +kernel
theorem dX2_isText_45 : decode cX2_isText 45 = .ok (.iadd, 1) := by decide +kernel
theorem dX2_isText_46 : decode cX2_isText 46 = .ok (.invokevirtual 113, 3) := by decide +kernel
theorem dX2_isText_49 : decode cX2_isText 49 = .ok (.aload_n 1, 1) := by decide +kernel
theorem dX2_isText_50 : decode cX2_isText 50 = .ok (.iload_n 2, 1) := by decide +kernel
theorem dX2_isText_51 : decode cX2_isText 51 = .ok (.invokevirtual 126, 3) := by decide +kernel
theorem dX2_isText_54 : decode cX2_isText 54 = .ok (.if_icmp .eq 5, 3) := by decide +kernel
theorem dX2_isText_57 : decode cX2_isText 57 = .ok (.iconst 0, 1) := by decide +kernel
theorem dX2_isText_58 : decode cX2_isText 58 = .ok (.ireturn, 1) := by decide +kernel
theorem dX2_isText_59 : decode cX2_isText 59 = .ok (.iinc 2 1, 3) := by decide +kernel
theorem dX2_isText_62 : decode cX2_isText 62 = .ok (.goto (-34), 3) := by decide +kernel
theorem dX2_isText_65 : decode cX2_isText 65 = .ok (.iconst 1, 1) := by decide +kernel
theorem dX2_isText_66 : decode cX2_isText 66 = .ok (.ireturn, 1) := by decide +kernel
set_option maxRecDepth 20000 in
theorem ggX2_numberHere_X3_signAt : GoodIn wsX2_numberHere wsX3_signAt := goodIn_r _ [8, 9, 10, 16, 17] (by decide +kernel) (by decide +kernel)
set_option maxRecDepth 20000 in
theorem gX2_numberHere_X3_signAt : GoodIn wsX2_numberHere (wsV RX2 113 RX3 yX3_signAt wsX3_signAt) := goodIn_app (goodIn_of _ (by decide +kernel)) ggX2_numberHere_X3_signAt
theorem dX2_numberHere_0 : decode cX2_numberHere 0 = .ok (.iconst 0, 1) := by decide +kernel
theorem dX2_numberHere_1 : decode cX2_numberHere 1 = .ok (.istore_n 1, 1) := by decide +kernel
theorem dX2_numberHere_2 : decode cX2_numberHere 2 = .ok (.aload_n 0, 1) := by decide +kernel
theorem dX2_numberHere_3 : decode cX2_numberHere 3 = .ok (.getfield 106, 3) := by decide +kernel
theorem dX2_numberHere_6 : decode cX2_numberHere 6 = .ok (.istore_n 2, 1) := by decide +kernel
theorem dX2_numberHere_7 : decode cX2_numberHere 7 = .ok (.iload_n 2, 1) := by decide +kernel
theorem dX2_numberHere_8 : decode cX2_numberHere 8 = .ok (.aload_n 0, 1) := by decide +kernel
theorem dX2_numberHere_9 : decode cX2_numberHere 9 = .ok (.getfield 24, 3) := by decide +kernel
theorem dX2_numberHere_12 : decode cX2_numberHere 12 = .ok (.if_icmp .ge 26, 3) := by decide +kernel
theorem dX2_numberHere_15 : decode cX2_numberHere 15 = .ok (.iload_n 1, 1) := by decide +kernel
theorem dX2_numberHere_16 : decode cX2_numberHere 16 = .ok (.bipush 10, 2) := by decide +kernel
theorem dX2_numberHere_18 : decode cX2_numberHere 18 = .ok (.imul, 1) := by decide +kernel
theorem dX2_numberHere_19 : decode cX2_numberHere 19 = .ok (.aload_n 0, 1) := by decide +kernel
theorem dX2_numberHere_20 : decode cX2_numberHere 20 = .ok (.getfield 9, 3) := by decide +kernel
theorem dX2_numberHere_23 : decode cX2_numberHere 23 = .ok (.iload_n 2, 1) := by decide +kernel
theorem dX2_numberHere_24 : decode cX2_numberHere 24 = .ok (.invokevirtual 113, 3) := by decide +kernel
theorem dX2_numberHere_27 : decode cX2_numberHere 27 = .ok (.iadd, 1) := by decide +kernel
theorem dX2_numberHere_28 : decode cX2_numberHere 28 = .ok (.bipush 48, 2) := by decide +kernel
theorem dX2_numberHere_30 : decode cX2_numberHere 30 = .ok (.isub, 1) := by decide +kernel
theorem dX2_numberHere_31 : decode cX2_numberHere 31 = .ok (.istore_n 1, 1) := by decide +kernel
theorem dX2_numberHere_32 : decode cX2_numberHere 32 = .ok (.iinc 2 1, 3) := by decide +kernel
theorem dX2_numberHere_35 : decode cX2_numberHere 35 = .ok (.goto (-28), 3) := by decide +kernel
theorem dX2_numberHere_38 : decode cX2_numberHere 38 = .ok (.iload_n 1, 1) := by decide +kernel
theorem dX2_numberHere_39 : decode cX2_numberHere 39 = .ok (.ireturn, 1) := by decide +kernel
theorem dX2_sortOf_0 : decode cX2_sortOf 0 = .ok (.iload_n 0, 1) := by decide +kernel
theorem dX2_sortOf_1 : decode cX2_sortOf 1 = .ok (.iconst (-1), 1) := by decide +kernel
theorem dX2_sortOf_2 : decode cX2_sortOf 2 = .ok (.if_icmp .ne 5, 3) := by decide +kernel
theorem dX2_sortOf_5 : decode cX2_sortOf 5 = .ok (.iconst 0, 1) := by decide +kernel
theorem dX2_sortOf_6 : decode cX2_sortOf 6 = .ok (.ireturn, 1) := by decide +kernel
theorem dX2_sortOf_7 : decode cX2_sortOf 7 = .ok (.iload_n 0, 1) := by decide +kernel
theorem dX2_sortOf_8 : decode cX2_sortOf 8 = .ok (.bipush 10, 2) := by decide +kernel
theorem dX2_sortOf_10 : decode cX2_sortOf 10 = .ok (.if_icmp .eq 9, 3) := by decide +kernel
theorem dX2_sortOf_13 : decode cX2_sortOf 13 = .ok (.iload_n 0, 1) := by decide +kernel
theorem dX2_sortOf_14 : decode cX2_sortOf 14 = .ok (.bipush 32, 2) := by decide +kernel
theorem dX2_sortOf_16 : decode cX2_sortOf 16 = .ok (.if_icmp .ne 5, 3) := by decide +kernel
theorem dX2_sortOf_19 : decode cX2_sortOf 19 = .ok (.iconst 1, 1) := by decide +kernel
theorem dX2_sortOf_20 : decode cX2_sortOf 20 = .ok (.ireturn, 1) := by decide +kernel
theorem dX2_sortOf_21 : decode cX2_sortOf 21 = .ok (.iload_n 0, 1) := by decide +kernel
theorem dX2_sortOf_22 : decode cX2_sortOf 22 = .ok (.bipush 97, 2) := by decide +kernel
theorem dX2_sortOf_24 : decode cX2_sortOf 24 = .ok (.if_icmp .lt 11, 3) := by decide +kernel
theorem dX2_sortOf_27 : decode cX2_sortOf 27 = .ok (.iload_n 0, 1) := by decide +kernel
theorem dX2_sortOf_28 : decode cX2_sortOf 28 = .ok (.bipush 122, 2) := by decide +kernel
theorem dX2_sortOf_30 : decode cX2_sortOf 30 = .ok (.if_icmp .gt 5, 3) := by decide +kernel
theorem dX2_sortOf_33 : decode cX2_sortOf 33 = .ok (.iconst 2, 1) := by decide +kernel
theorem dX2_sortOf_34 : decode cX2_sortOf 34 = .ok (.ireturn, 1) := by decide +kernel
theorem dX2_sortOf_35 : decode cX2_sortOf 35 = .ok (.iload_n 0, 1) := by decide +kernel
theorem dX2_sortOf_36 : decode cX2_sortOf 36 = .ok (.bipush 48, 2) := by decide +kernel
theorem dX2_sortOf_38 : decode cX2_sortOf 38 = .ok (.if_icmp .lt 11, 3) := by decide +kernel
theorem dX2_sortOf_41 : decode cX2_sortOf 41 = .ok (.iload_n 0, 1) := by decide +kernel
theorem dX2_sortOf_42 : decode cX2_sortOf 42 = .ok (.bipush 57, 2) := by decide +kernel
theorem dX2_sortOf_44 : decode cX2_sortOf 44 = .ok (.if_icmp .gt 5, 3) := by decide +kernel
theorem dX2_sortOf_47 : decode cX2_sortOf 47 = .ok (.iconst 3, 1) := by decide +kernel
theorem dX2_sortOf_48 : decode cX2_sortOf 48 = .ok (.ireturn, 1) := by decide +kernel
theorem dX2_sortOf_49 : decode cX2_sortOf 49 = .ok (.iload_n 0, 1) := by decide +kernel
theorem dX2_sortOf_50 : decode cX2_sortOf 50 = .ok (.bipush 59, 2) := by decide +kernel
theorem dX2_sortOf_52 : decode cX2_sortOf 52 = .ok (.if_icmp .ne 7, 3) := by decide +kernel
theorem dX2_sortOf_55 : decode cX2_sortOf 55 = .ok (.iconst 4, 1) := by decide +kernel
theorem dX2_sortOf_56 : decode cX2_sortOf 56 = .ok (.goto 4, 3) := by decide +kernel
theorem dX2_sortOf_59 : decode cX2_sortOf 59 = .ok (.iconst 5, 1) := by decide +kernel
theorem dX2_sortOf_60 : decode cX2_sortOf 60 = .ok (.ireturn, 1) := by decide +kernel
theorem dX3_init_0 : decode cX3_init 0 = .ok (.aload_n 0, 1) := by decide +kernel
theorem dX3_init_1 : decode cX3_init 1 = .ok (.invokespecial 1, 3) := by decide +kernel
theorem dX3_init_4 : decode cX3_init 4 = .ok (.aload_n 0, 1) := by decide +kernel
theorem dX3_init_5 : decode cX3_init 5 = .ok (.sipush 1600, 3) := by decide +kernel
theorem dX3_init_8 : decode cX3_init 8 = .ok (.newarray .char, 2) := by decide +kernel
theorem dX3_init_10 : decode cX3_init 10 = .ok (.putfield 9, 3) := by decide +kernel
theorem dX3_init_13 : decode cX3_init 13 = .ok (.return_, 1) := by decide +kernel
set_option maxRecDepth 20000 in
theorem ggX3_addBytes_X3_addSign : GoodIn wsX3_addBytes wsX3_addSign := goodIn_r _ [5, 6, 7, 8, 9] (by decide +kernel) (by decide +kernel)
set_option maxRecDepth 20000 in
theorem gX3_addBytes_X3_addSign : GoodIn wsX3_addBytes (wsV RX3 13 RX3 yX3_addSign wsX3_addSign) := goodIn_app (goodIn_of _ (by decide +kernel)) ggX3_addBytes_X3_addSign
theorem dX3_addBytes_0 : decode cX3_addBytes 0 = .ok (.bipush 56, 2) := by decide +kernel
theorem dX3_addBytes_2 : decode cX3_addBytes 2 = .ok (.istore_n 3, 1) := by decide +kernel
theorem dX3_addBytes_3 : decode cX3_addBytes 3 = .ok (.iload_n 3, 1) := by decide +kernel
theorem dX3_addBytes_4 : decode cX3_addBytes 4 = .ok (.ifCond .lt 21, 3) := by decide +kernel
theorem dX3_addBytes_7 : decode cX3_addBytes 7 = .ok (.aload_n 0, 1) := by decide +kernel
theorem dX3_addBytes_8 : decode cX3_addBytes 8 = .ok (.lload_n 1, 1) := by decide +kernel
theorem dX3_addBytes_9 : decode cX3_addBytes 9 = .ok (.iload_n 3, 1) := by decide +kernel
theorem dX3_addBytes_10 : decode cX3_addBytes 10 = .ok (.lushr, 1) := by decide +kernel
theorem dX3_addBytes_11 : decode cX3_addBytes 11 = .ok (.l2i, 1) := by decide +kernel
theorem dX3_addBytes_12 : decode cX3_addBytes 12 = .ok (.sipush 255, 3) := by decide +kernel
theorem dX3_addBytes_15 : decode cX3_addBytes 15 = .ok (.iand, 1) := by decide +kernel
theorem dX3_addBytes_16 : decode cX3_addBytes 16 = .ok (.invokevirtual 13, 3) := by decide +kernel
theorem dX3_addBytes_19 : decode cX3_addBytes 19 = .ok (.iinc 3 (-8), 3) := by decide +kernel
theorem dX3_addBytes_22 : decode cX3_addBytes 22 = .ok (.goto (-19), 3) := by decide +kernel
theorem dX3_addBytes_25 : decode cX3_addBytes 25 = .ok (.return_, 1) := by decide +kernel
theorem dX3_addSign_0 : decode cX3_addSign 0 = .ok (.iload_n 1, 1) := by decide +kernel
theorem dX3_addSign_1 : decode cX3_addSign 1 = .ok (.bipush 10, 2) := by decide +kernel
theorem dX3_addSign_3 : decode cX3_addSign 3 = .ok (.if_icmp .eq 15, 3) := by decide +kernel
theorem dX3_addSign_6 : decode cX3_addSign 6 = .ok (.iload_n 1, 1) := by decide +kernel
theorem dX3_addSign_7 : decode cX3_addSign 7 = .ok (.bipush 32, 2) := by decide +kernel
theorem dX3_addSign_9 : decode cX3_addSign 9 = .ok (.if_icmp .lt 13, 3) := by decide +kernel
theorem dX3_addSign_12 : decode cX3_addSign 12 = .ok (.iload_n 1, 1) := by decide +kernel
theorem dX3_addSign_13 : decode cX3_addSign 13 = .ok (.bipush 126, 2) := by decide +kernel
theorem dX3_addSign_15 : decode cX3_addSign 15 = .ok (.if_icmp .gt 7, 3) := by decide +kernel
theorem dX3_addSign_18 : decode cX3_addSign 18 = .ok (.iconst 1, 1) := by decide +kernel
theorem dX3_addSign_19 : decode cX3_addSign 19 = .ok (.goto 4, 3) := by decide +kernel
theorem dX3_addSign_22 : decode cX3_addSign 22 = .ok (.iconst 0, 1) := by decide +kernel
theorem dX3_addSign_23 : decode cX3_addSign 23 = .ok (.istore_n 2, 1) := by decide +kernel
theorem dX3_addSign_24 : decode cX3_addSign 24 = .ok (.iload_n 2, 1) := by decide +kernel
theorem dX3_addSign_25 : decode cX3_addSign 25 = .ok (.ifCond .eq 41, 3) := by decide +kernel
theorem dX3_addSign_28 : decode cX3_addSign 28 = .ok (.aload_n 0, 1) := by decide +kernel
theorem dX3_addSign_29 : decode cX3_addSign 29 = .ok (.getfield 17, 3) := by decide +kernel
theorem dX3_addSign_32 : decode cX3_addSign 32 = .ok (.ifCond .lt 34, 3) := by decide +kernel
theorem dX3_addSign_35 : decode cX3_addSign 35 = .ok (.aload_n 0, 1) := by decide +kernel
theorem dX3_addSign_36 : decode cX3_addSign 36 = .ok (.getfield 17, 3) := by decide +kernel
theorem dX3_addSign_39 : decode cX3_addSign 39 = .ok (.sipush 1600, 3) := by decide +kernel
theorem dX3_addSign_42 : decode cX3_addSign 42 = .ok (.if_icmp .ge 24, 3) := by decide +kernel
theorem dX3_addSign_45 : decode cX3_addSign 45 = .ok (.aload_n 0, 1) := by decide +kernel
theorem dX3_addSign_46 : decode cX3_addSign 46 = .ok (.getfield 9, 3) := by decide +kernel
theorem dX3_addSign_49 : decode cX3_addSign 49 = .ok (.aload_n 0, 1) := by decide +kernel
theorem dX3_addSign_50 : decode cX3_addSign 50 = .ok (.getfield 17, 3) := by decide +kernel
theorem dX3_addSign_53 : decode cX3_addSign 53 = .ok (.iload_n 1, 1) := by decide +kernel
theorem dX3_addSign_54 : decode cX3_addSign 54 = .ok (.i2c, 1) := by decide +kernel

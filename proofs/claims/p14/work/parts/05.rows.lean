theorem dX3_addSign_55 : decode cX3_addSign 55 = .ok (.castore, 1) := by decide +kernel
theorem dX3_addSign_56 : decode cX3_addSign 56 = .ok (.aload_n 0, 1) := by decide +kernel
theorem dX3_addSign_57 : decode cX3_addSign 57 = .ok (.dup, 1) := by decide +kernel
theorem dX3_addSign_58 : decode cX3_addSign 58 = .ok (.getfield 17, 3) := by decide +kernel
theorem dX3_addSign_61 : decode cX3_addSign 61 = .ok (.iconst 1, 1) := by decide +kernel
theorem dX3_addSign_62 : decode cX3_addSign 62 = .ok (.iadd, 1) := by decide +kernel
theorem dX3_addSign_63 : decode cX3_addSign 63 = .ok (.putfield 17, 3) := by decide +kernel
theorem dX3_addSign_66 : decode cX3_addSign 66 = .ok (.return_, 1) := by decide +kernel
theorem dX3_signAt_0 : decode cX3_signAt 0 = .ok (.iload_n 1, 1) := by decide +kernel
theorem dX3_signAt_1 : decode cX3_signAt 1 = .ok (.ifCond .lt 27, 3) := by decide +kernel
theorem dX3_signAt_4 : decode cX3_signAt 4 = .ok (.iload_n 1, 1) := by decide +kernel
theorem dX3_signAt_5 : decode cX3_signAt 5 = .ok (.aload_n 0, 1) := by decide +kernel
theorem dX3_signAt_6 : decode cX3_signAt 6 = .ok (.getfield 17, 3) := by decide +kernel
theorem dX3_signAt_9 : decode cX3_signAt 9 = .ok (.if_icmp .ge 19, 3) := by decide +kernel
theorem dX3_signAt_12 : decode cX3_signAt 12 = .ok (.iload_n 1, 1) := by decide +kernel
theorem dX3_signAt_13 : decode cX3_signAt 13 = .ok (.sipush 1600, 3) := by decide +kernel
theorem dX3_signAt_16 : decode cX3_signAt 16 = .ok (.if_icmp .ge 12, 3) := by decide +kernel
theorem dX3_signAt_19 : decode cX3_signAt 19 = .ok (.aload_n 0, 1) := by decide +kernel
theorem dX3_signAt_20 : decode cX3_signAt 20 = .ok (.getfield 9, 3) := by decide +kernel
theorem dX3_signAt_23 : decode cX3_signAt 23 = .ok (.iload_n 1, 1) := by decide +kernel
theorem dX3_signAt_24 : decode cX3_signAt 24 = .ok (.caload, 1) := by decide +kernel
theorem dX3_signAt_25 : decode cX3_signAt 25 = .ok (.goto 4, 3) := by decide +kernel
theorem dX3_signAt_28 : decode cX3_signAt 28 = .ok (.iconst (-1), 1) := by decide +kernel
theorem dX3_signAt_29 : decode cX3_signAt 29 = .ok (.ireturn, 1) := by decide +kernel
theorem dX3_empty_0 : decode cX3_empty 0 = .ok (.aload_n 0, 1) := by decide +kernel
theorem dX3_empty_1 : decode cX3_empty 1 = .ok (.iconst 0, 1) := by decide +kernel
theorem dX3_empty_2 : decode cX3_empty 2 = .ok (.putfield 17, 3) := by decide +kernel
theorem dX3_empty_5 : decode cX3_empty 5 = .ok (.return_, 1) := by decide +kernel
set_option maxRecDepth 20000 in
theorem ggX4_init_X3_init : GoodIn wsX4_init wsX3_init := goodIn_r _ [28, 29, 2, 3, 30, 31, 78, 79] (by decide +kernel) (by decide +kernel)
set_option maxRecDepth 20000 in
theorem gX4_init_X3_init_n25 : GoodIn wsX4_init (wsX3_init) := ggX4_init_X3_init
set_option maxRecDepth 20000 in
theorem ggX4_init_X2_init : GoodIn wsX4_init wsX2_init := goodIn_r _ [34, 35, 2, 3, 36, 80, 81, 82, 83, 84] (by decide +kernel) (by decide +kernel)
set_option maxRecDepth 20000 in
theorem gX4_init_X2_init : GoodIn wsX4_init (wsX2_init) := ggX4_init_X2_init
set_option maxRecDepth 20000 in
theorem ggX4_init_X1_init : GoodIn wsX4_init wsX1_init := goodIn_r _ [38, 39, 2, 3, 4, 40, 41, 42, 43, 44, 45, 46, 47, 6, 48, 85, 86, 87, 88, 89, 90, 91, 92, 93, 94, 95] (by decide +kernel) (by decide +kernel)
set_option maxRecDepth 20000 in
theorem gX4_init_X1_init_n41 : GoodIn wsX4_init (wsX1_init) := ggX4_init_X1_init
set_option maxRecDepth 20000 in
theorem ggX4_init_X0_init : GoodIn wsX4_init wsX0_init := goodIn_r _ [51, 52, 2, 3, 4, 53, 54, 55, 56, 57, 58, 59, 60, 61, 62, 63, 64, 65, 66, 96, 97, 98, 99, 100, 101, 102, 103, 104, 105, 106, 107] (by decide +kernel) (by decide +kernel)
set_option maxRecDepth 20000 in
theorem gX4_init_X0_init : GoodIn wsX4_init (wsX0_init) := ggX4_init_X0_init
set_option maxRecDepth 20000 in
theorem ggX4_init_J7_fill_53178 : GoodIn wsX4_init wsJ7_fill_53178 := goodIn_r _ [66] (by decide +kernel) (by decide +kernel)
set_option maxRecDepth 20000 in
theorem gX4_init_J7_fill_53178 : GoodIn wsX4_init (va_wsS RX4 56 yJ7_fill_53178 wsJ7_fill_53178) := goodIn_app (goodIn_of _ (by decide +kernel)) ggX4_init_J7_fill_53178
theorem dX4_init_0 : decode cX4_init 0 = .ok (.aload_n 0, 1) := by decide +kernel
theorem dX4_init_1 : decode cX4_init 1 = .ok (.invokespecial 1, 3) := by decide +kernel
theorem dX4_init_4 : decode cX4_init 4 = .ok (.aload_n 0, 1) := by decide +kernel
theorem dX4_init_5 : decode cX4_init 5 = .ok (.bipush 100, 2) := by decide +kernel
theorem dX4_init_7 : decode cX4_init 7 = .ok (.newarray .int, 2) := by decide +kernel
theorem dX4_init_9 : decode cX4_init 9 = .ok (.putfield 9, 3) := by decide +kernel
theorem dX4_init_12 : decode cX4_init 12 = .ok (.aload_n 0, 1) := by decide +kernel
theorem dX4_init_13 : decode cX4_init 13 = .ok (.bipush 100, 2) := by decide +kernel
theorem dX4_init_15 : decode cX4_init 15 = .ok (.newarray .boolean, 2) := by decide +kernel
theorem dX4_init_17 : decode cX4_init 17 = .ok (.putfield 13, 3) := by decide +kernel
theorem dX4_init_20 : decode cX4_init 20 = .ok (.aload_n 0, 1) := by decide +kernel
theorem dX4_init_21 : decode cX4_init 21 = .ok (.bipush 60, 2) := by decide +kernel
theorem dX4_init_23 : decode cX4_init 23 = .ok (.newarray .int, 2) := by decide +kernel
theorem dX4_init_25 : decode cX4_init 25 = .ok (.putfield 17, 3) := by decide +kernel
theorem dX4_init_28 : decode cX4_init 28 = .ok (.aload_n 0, 1) := by decide +kernel
theorem dX4_init_29 : decode cX4_init 29 = .ok (.bipush 60, 2) := by decide +kernel
theorem dX4_init_31 : decode cX4_init 31 = .ok (.newarray .int, 2) := by decide +kernel
theorem dX4_init_33 : decode cX4_init 33 = .ok (.putfield 20, 3) := by decide +kernel
theorem dX4_init_36 : decode cX4_init 36 = .ok (.aload_n 0, 1) := by decide +kernel
theorem dX4_init_37 : decode cX4_init 37 = .ok (.new 23, 3) := by decide +kernel
theorem dX4_init_40 : decode cX4_init 40 = .ok (.dup, 1) := by decide +kernel
theorem dX4_init_41 : decode cX4_init 41 = .ok (.invokespecial 25, 3) := by decide +kernel
theorem dX4_init_44 : decode cX4_init 44 = .ok (.putfield 26, 3) := by decide +kernel
theorem dX4_init_47 : decode cX4_init 47 = .ok (.aload_n 0, 1) := by decide +kernel
theorem dX4_init_48 : decode cX4_init 48 = .ok (.new 30, 3) := by decide +kernel
theorem dX4_init_51 : decode cX4_init 51 = .ok (.dup, 1) := by decide +kernel
theorem dX4_init_52 : decode cX4_init 52 = .ok (.aload_n 0, 1) := by decide +kernel
theorem dX4_init_53 : decode cX4_init 53 = .ok (.getfield 26, 3) := by decide +kernel
theorem dX4_init_56 : decode cX4_init 56 = .ok (.invokespecial 32, 3) := by decide +kernel
theorem dX4_init_59 : decode cX4_init 59 = .ok (.putfield 35, 3) := by decide +kernel
theorem dX4_init_62 : decode cX4_init 62 = .ok (.aload_n 0, 1) := by decide +kernel
theorem dX4_init_63 : decode cX4_init 63 = .ok (.new 39, 3) := by decide +kernel
theorem dX4_init_66 : decode cX4_init 66 = .ok (.dup, 1) := by decide +kernel
theorem dX4_init_67 : decode cX4_init 67 = .ok (.invokespecial 41, 3) := by decide +kernel
theorem dX4_init_70 : decode cX4_init 70 = .ok (.putfield 42, 3) := by decide +kernel
theorem dX4_init_73 : decode cX4_init 73 = .ok (.aload_n 0, 1) := by decide +kernel
theorem dX4_init_74 : decode cX4_init 74 = .ok (.new 39, 3) := by decide +kernel
theorem dX4_init_77 : decode cX4_init 77 = .ok (.dup, 1) := by decide +kernel
theorem dX4_init_78 : decode cX4_init 78 = .ok (.invokespecial 41, 3) := by decide +kernel
theorem dX4_init_81 : decode cX4_init 81 = .ok (.putfield 46, 3) := by decide +kernel
theorem dX4_init_84 : decode cX4_init 84 = .ok (.aload_n 0, 1) := by decide +kernel
theorem dX4_init_85 : decode cX4_init 85 = .ok (.new 49, 3) := by decide +kernel
theorem dX4_init_88 : decode cX4_init 88 = .ok (.dup, 1) := by decide +kernel
theorem dX4_init_89 : decode cX4_init 89 = .ok (.invokespecial 51, 3) := by decide +kernel
theorem dX4_init_92 : decode cX4_init 92 = .ok (.putfield 52, 3) := by decide +kernel
theorem dX4_init_95 : decode cX4_init 95 = .ok (.aload_n 0, 1) := by decide +kernel
theorem dX4_init_96 : decode cX4_init 96 = .ok (.getfield 9, 3) := by decide +kernel
theorem dX4_init_99 : decode cX4_init 99 = .ok (.iconst 1, 1) := by decide +kernel
theorem dX4_init_100 : decode cX4_init 100 = .ok (.invokestatic 56, 3) := by decide +kernel
theorem dX4_init_103 : decode cX4_init 103 = .ok (.return_, 1) := by decide +kernel
set_option maxRecDepth 20000 in
theorem ggX4_kinds_X4_isWord : GoodIn wsX4_kinds wsX4_isWord := goodIn_r _ [6] (by decide +kernel) (by decide +kernel)
set_option maxRecDepth 20000 in
theorem gX4_kinds_X4_isWord : GoodIn wsX4_kinds (va_wsS RX4 62 yX4_isWord wsX4_isWord) := goodIn_app (goodIn_of _ (by decide +kernel)) ggX4_kinds_X4_isWord
set_option maxRecDepth 20000 in
theorem ggX4_kinds_X4_firstPlaceOf : GoodIn wsX4_kinds wsX4_firstPlaceOf := goodIn_r _ [10, 11, 12, 13, 14, 5, 15, 16, 17, 18, 19, 20, 27, 28, 29, 30, 31, 32, 33, 34, 35, 36] (by decide +kernel) (by decide +kernel)
set_option maxRecDepth 20000 in
theorem gX4_kinds_X4_firstPlaceOf : GoodIn wsX4_kinds (wsV RX4 66 RX4 yX4_firstPlaceOf wsX4_firstPlaceOf) := goodIn_app (goodIn_of _ (by decide +kernel)) ggX4_kinds_X4_firstPlaceOf
set_option maxRecDepth 20000 in
theorem ggX4_kinds_X0_keep : GoodIn wsX4_kinds wsX0_keep := goodIn_r _ [25, 26, 37, 38, 39, 40, 41, 42, 43, 44, 45, 46, 47, 48] (by decide +kernel) (by decide +kernel)
set_option maxRecDepth 20000 in
theorem gX4_kinds_X0_keep : GoodIn wsX4_kinds (wsV RX4 70 RX0 yX0_keep wsX0_keep) := goodIn_app (goodIn_of _ (by decide +kernel)) ggX4_kinds_X0_keep
theorem dX4_kinds_0 : decode cX4_kinds 0 = .ok (.iload_n 1, 1) := by decide +kernel
theorem dX4_kinds_1 : decode cX4_kinds 1 = .ok (.invokestatic 62, 3) := by decide +kernel
theorem dX4_kinds_4 : decode cX4_kinds 4 = .ok (.ifCond .eq 15, 3) := by decide +kernel
theorem dX4_kinds_7 : decode cX4_kinds 7 = .ok (.iload_n 2, 1) := by decide +kernel
theorem dX4_kinds_8 : decode cX4_kinds 8 = .ok (.iconst 1, 1) := by decide +kernel
theorem dX4_kinds_9 : decode cX4_kinds 9 = .ok (.if_icmp .lt 10, 3) := by decide +kernel
theorem dX4_kinds_12 : decode cX4_kinds 12 = .ok (.iload_n 2, 1) := by decide +kernel
theorem dX4_kinds_13 : decode cX4_kinds 13 = .ok (.sipush 255, 3) := by decide +kernel
theorem dX4_kinds_16 : decode cX4_kinds 16 = .ok (.if_icmp .le 5, 3) := by decide +kernel
theorem dX4_kinds_19 : decode cX4_kinds 19 = .ok (.iconst 0, 1) := by decide +kernel
theorem dX4_kinds_20 : decode cX4_kinds 20 = .ok (.ireturn, 1) := by decide +kernel
theorem dX4_kinds_21 : decode cX4_kinds 21 = .ok (.aload_n 0, 1) := by decide +kernel
theorem dX4_kinds_22 : decode cX4_kinds 22 = .ok (.getfield 9, 3) := by decide +kernel
theorem dX4_kinds_25 : decode cX4_kinds 25 = .ok (.iload_n 1, 1) := by decide +kernel
theorem dX4_kinds_26 : decode cX4_kinds 26 = .ok (.iload_n 2, 1) := by decide +kernel
theorem dX4_kinds_27 : decode cX4_kinds 27 = .ok (.iastore, 1) := by decide +kernel
theorem dX4_kinds_28 : decode cX4_kinds 28 = .ok (.aload_n 0, 1) := by decide +kernel
theorem dX4_kinds_29 : decode cX4_kinds 29 = .ok (.getfield 52, 3) := by decide +kernel
theorem dX4_kinds_32 : decode cX4_kinds 32 = .ok (.aload_n 0, 1) := by decide +kernel
theorem dX4_kinds_33 : decode cX4_kinds 33 = .ok (.iload_n 1, 1) := by decide +kernel
theorem dX4_kinds_34 : decode cX4_kinds 34 = .ok (.invokevirtual 66, 3) := by decide +kernel
theorem dX4_kinds_37 : decode cX4_kinds 37 = .ok (.invokevirtual 70, 3) := by decide +kernel
theorem dX4_kinds_40 : decode cX4_kinds 40 = .ok (.iconst 1, 1) := by decide +kernel
theorem dX4_kinds_41 : decode cX4_kinds 41 = .ok (.ireturn, 1) := by decide +kernel
set_option maxRecDepth 20000 in
theorem ggX4_name_X4_isWord : GoodIn wsX4_name wsX4_isWord := goodIn_r _ [5] (by decide +kernel) (by decide +kernel)
set_option maxRecDepth 20000 in
theorem gX4_name_X4_isWord : GoodIn wsX4_name (va_wsS RX4 62 yX4_isWord wsX4_isWord) := goodIn_app (goodIn_of _ (by decide +kernel)) ggX4_name_X4_isWord
theorem dX4_name_0 : decode cX4_name 0 = .ok (.iload_n 1, 1) := by decide +kernel
theorem dX4_name_1 : decode cX4_name 1 = .ok (.invokestatic 62, 3) := by decide +kernel
theorem dX4_name_4 : decode cX4_name 4 = .ok (.ifCond .ne 5, 3) := by decide +kernel
theorem dX4_name_7 : decode cX4_name 7 = .ok (.iconst 0, 1) := by decide +kernel
theorem dX4_name_8 : decode cX4_name 8 = .ok (.ireturn, 1) := by decide +kernel
theorem dX4_name_9 : decode cX4_name 9 = .ok (.aload_n 0, 1) := by decide +kernel
theorem dX4_name_10 : decode cX4_name 10 = .ok (.getfield 13, 3) := by decide +kernel
theorem dX4_name_13 : decode cX4_name 13 = .ok (.iload_n 1, 1) := by decide +kernel
theorem dX4_name_14 : decode cX4_name 14 = .ok (.iload_n 2, 1) := by decide +kernel
theorem dX4_name_15 : decode cX4_name 15 = .ok (.bastore, 1) := by decide +kernel
theorem dX4_name_16 : decode cX4_name 16 = .ok (.iconst 1, 1) := by decide +kernel
theorem dX4_name_17 : decode cX4_name 17 = .ok (.ireturn, 1) := by decide +kernel
set_option maxRecDepth 20000 in
theorem ggX4_word_X4_isWord : GoodIn wsX4_word wsX4_isWord := goodIn_r _ [7] (by decide +kernel) (by decide +kernel)
set_option maxRecDepth 20000 in
theorem gX4_word_X4_isWord : GoodIn wsX4_word (va_wsS RX4 62 yX4_isWord wsX4_isWord) := goodIn_app (goodIn_of _ (by decide +kernel)) ggX4_word_X4_isWord
theorem dX4_word_0 : decode cX4_word 0 = .ok (.iload_n 1, 1) := by decide +kernel
theorem dX4_word_1 : decode cX4_word 1 = .ok (.invokestatic 62, 3) := by decide +kernel
theorem dX4_word_4 : decode cX4_word 4 = .ok (.ifCond .eq 19, 3) := by decide +kernel
theorem dX4_word_7 : decode cX4_word 7 = .ok (.aload_n 0, 1) := by decide +kernel
theorem dX4_word_8 : decode cX4_word 8 = .ok (.getfield 74, 3) := by decide +kernel
theorem dX4_word_11 : decode cX4_word 11 = .ok (.ifCond .lt 12, 3) := by decide +kernel
theorem dX4_word_14 : decode cX4_word 14 = .ok (.aload_n 0, 1) := by decide +kernel
theorem dX4_word_15 : decode cX4_word 15 = .ok (.getfield 74, 3) := by decide +kernel
theorem dX4_word_18 : decode cX4_word 18 = .ok (.bipush 60, 2) := by decide +kernel
theorem dX4_word_20 : decode cX4_word 20 = .ok (.if_icmp .lt 5, 3) := by decide +kernel
theorem dX4_word_23 : decode cX4_word 23 = .ok (.iconst (-1), 1) := by decide +kernel
theorem dX4_word_24 : decode cX4_word 24 = .ok (.ireturn, 1) := by decide +kernel
theorem dX4_word_25 : decode cX4_word 25 = .ok (.aload_n 0, 1) := by decide +kernel
theorem dX4_word_26 : decode cX4_word 26 = .ok (.getfield 17, 3) := by decide +kernel
theorem dX4_word_29 : decode cX4_word 29 = .ok (.aload_n 0, 1) := by decide +kernel
theorem dX4_word_30 : decode cX4_word 30 = .ok (.getfield 74, 3) := by decide +kernel
theorem dX4_word_33 : decode cX4_word 33 = .ok (.iload_n 1, 1) := by decide +kernel
theorem dX4_word_34 : decode cX4_word 34 = .ok (.iastore, 1) := by decide +kernel
theorem dX4_word_35 : decode cX4_word 35 = .ok (.aload_n 0, 1) := by decide +kernel
theorem dX4_word_36 : decode cX4_word 36 = .ok (.getfield 20, 3) := by decide +kernel
theorem dX4_word_39 : decode cX4_word 39 = .ok (.aload_n 0, 1) := by decide +kernel
theorem dX4_word_40 : decode cX4_word 40 = .ok (.getfield 74, 3) := by decide +kernel
theorem dX4_word_43 : decode cX4_word 43 = .ok (.iconst (-1), 1) := by decide +kernel
theorem dX4_word_44 : decode cX4_word 44 = .ok (.iastore, 1) := by decide +kernel
theorem dX4_word_45 : decode cX4_word 45 = .ok (.aload_n 0, 1) := by decide +kernel
theorem dX4_word_46 : decode cX4_word 46 = .ok (.dup, 1) := by decide +kernel
theorem dX4_word_47 : decode cX4_word 47 = .ok (.getfield 74, 3) := by decide +kernel
theorem dX4_word_50 : decode cX4_word 50 = .ok (.iconst 1, 1) := by decide +kernel
theorem dX4_word_51 : decode cX4_word 51 = .ok (.iadd, 1) := by decide +kernel
theorem dX4_word_52 : decode cX4_word 52 = .ok (.putfield 74, 3) := by decide +kernel
theorem dX4_word_55 : decode cX4_word 55 = .ok (.aload_n 0, 1) := by decide +kernel
theorem dX4_word_56 : decode cX4_word 56 = .ok (.getfield 74, 3) := by decide +kernel
theorem dX4_word_59 : decode cX4_word 59 = .ok (.ireturn, 1) := by decide +kernel
set_option maxRecDepth 20000 in
theorem ggX4_drop_X0_keep : GoodIn wsX4_drop wsX0_keep := goodIn_r _ [7, 8, 19, 20, 21, 22, 23, 24, 25, 26, 27, 28, 29, 30] (by decide +kernel) (by decide +kernel)
set_option maxRecDepth 20000 in
theorem gX4_drop_X0_keep : GoodIn wsX4_drop (wsV RX4 70 RX0 yX0_keep wsX0_keep) := goodIn_app (goodIn_of _ (by decide +kernel)) ggX4_drop_X0_keep
theorem dX4_drop_0 : decode cX4_drop 0 = .ok (.aload_n 0, 1) := by decide +kernel
theorem dX4_drop_1 : decode cX4_drop 1 = .ok (.getfield 74, 3) := by decide +kernel
theorem dX4_drop_4 : decode cX4_drop 4 = .ok (.ifCond .gt 5, 3) := by decide +kernel
theorem dX4_drop_7 : decode cX4_drop 7 = .ok (.iconst (-1), 1) := by decide +kernel
theorem dX4_drop_8 : decode cX4_drop 8 = .ok (.ireturn, 1) := by decide +kernel
theorem dX4_drop_9 : decode cX4_drop 9 = .ok (.aload_n 0, 1) := by decide +kernel
theorem dX4_drop_10 : decode cX4_drop 10 = .ok (.dup, 1) := by decide +kernel
theorem dX4_drop_11 : decode cX4_drop 11 = .ok (.getfield 74, 3) := by decide +kernel
theorem dX4_drop_14 : decode cX4_drop 14 = .ok (.iconst 1, 1) := by decide +kernel
theorem dX4_drop_15 : decode cX4_drop 15 = .ok (.isub, 1) := by decide +kernel
theorem dX4_drop_16 : decode cX4_drop 16 = .ok (.putfield 74, 3) := by decide +kernel
theorem dX4_drop_19 : decode cX4_drop 19 = .ok (.aload_n 0, 1) := by decide +kernel
theorem dX4_drop_20 : decode cX4_drop 20 = .ok (.getfield 52, 3) := by decide +kernel
theorem dX4_drop_23 : decode cX4_drop 23 = .ok (.aload_n 0, 1) := by decide +kernel
theorem dX4_drop_24 : decode cX4_drop 24 = .ok (.getfield 74, 3) := by decide +kernel
theorem dX4_drop_27 : decode cX4_drop 27 = .ok (.invokevirtual 70, 3) := by decide +kernel
theorem dX4_drop_30 : decode cX4_drop 30 = .ok (.aload_n 0, 1) := by decide +kernel
theorem dX4_drop_31 : decode cX4_drop 31 = .ok (.getfield 74, 3) := by decide +kernel
theorem dX4_drop_34 : decode cX4_drop 34 = .ok (.ireturn, 1) := by decide +kernel
set_option maxRecDepth 20000 in
theorem ggX4_hand_X4_hasPlace : GoodIn wsX4_hand wsX4_hasPlace := goodIn_r _ [7, 8, 15, 16, 17, 18, 19, 20, 21, 22, 23, 24] (by decide +kernel) (by decide +kernel)
set_option maxRecDepth 20000 in
theorem gX4_hand_X4_hasPlace : GoodIn wsX4_hand (wsV RX4 78 RX4 yX4_hasPlace wsX4_hasPlace) := goodIn_app (goodIn_of _ (by decide +kernel)) ggX4_hand_X4_hasPlace
set_option maxRecDepth 20000 in
theorem ggX4_hand_X0_keep : GoodIn wsX4_hand wsX0_keep := goodIn_r _ [13, 14, 25, 26, 27, 28, 29, 30, 31, 32, 33, 34, 35, 36] (by decide +kernel) (by decide +kernel)
set_option maxRecDepth 20000 in
theorem gX4_hand_X0_keep : GoodIn wsX4_hand (wsV RX4 70 RX0 yX0_keep wsX0_keep) := goodIn_app (goodIn_of _ (by decide +kernel)) ggX4_hand_X0_keep
theorem dX4_hand_0 : decode cX4_hand 0 = .ok (.aload_n 0, 1) := by decide +kernel
theorem dX4_hand_1 : decode cX4_hand 1 = .ok (.iload_n 1, 1) := by decide +kernel
theorem dX4_hand_2 : decode cX4_hand 2 = .ok (.invokevirtual 78, 3) := by decide +kernel
theorem dX4_hand_5 : decode cX4_hand 5 = .ok (.ifCond .eq 23, 3) := by decide +kernel
theorem dX4_hand_8 : decode cX4_hand 8 = .ok (.iload_n 2, 1) := by decide +kernel
theorem dX4_hand_9 : decode cX4_hand 9 = .ok (.iconst (-1), 1) := by decide +kernel
theorem dX4_hand_10 : decode cX4_hand 10 = .ok (.if_icmp .lt 18, 3) := by decide +kernel
theorem dX4_hand_13 : decode cX4_hand 13 = .ok (.iload_n 2, 1) := by decide +kernel
theorem dX4_hand_14 : decode cX4_hand 14 = .ok (.bipush 6, 2) := by decide +kernel
theorem dX4_hand_16 : decode cX4_hand 16 = .ok (.if_icmp .gt 12, 3) := by decide +kernel
theorem dX4_hand_19 : decode cX4_hand 19 = .ok (.iload_n 1, 1) := by decide +kernel
theorem dX4_hand_20 : decode cX4_hand 20 = .ok (.ifCond .ne 10, 3) := by decide +kernel
theorem dX4_hand_23 : decode cX4_hand 23 = .ok (.iload_n 2, 1) := by decide +kernel
theorem dX4_hand_24 : decode cX4_hand 24 = .ok (.iconst 4, 1) := by decide +kernel
theorem dX4_hand_25 : decode cX4_hand 25 = .ok (.if_icmp .lt 5, 3) := by decide +kernel
theorem dX4_hand_28 : decode cX4_hand 28 = .ok (.iconst 0, 1) := by decide +kernel
theorem dX4_hand_29 : decode cX4_hand 29 = .ok (.ireturn, 1) := by decide +kernel
theorem dX4_hand_30 : decode cX4_hand 30 = .ok (.aload_n 0, 1) := by decide +kernel
theorem dX4_hand_31 : decode cX4_hand 31 = .ok (.getfield 20, 3) := by decide +kernel
theorem dX4_hand_34 : decode cX4_hand 34 = .ok (.iload_n 1, 1) := by decide +kernel
theorem dX4_hand_35 : decode cX4_hand 35 = .ok (.iload_n 2, 1) := by decide +kernel
theorem dX4_hand_36 : decode cX4_hand 36 = .ok (.iastore, 1) := by decide +kernel
theorem dX4_hand_37 : decode cX4_hand 37 = .ok (.aload_n 0, 1) := by decide +kernel
theorem dX4_hand_38 : decode cX4_hand 38 = .ok (.getfield 52, 3) := by decide +kernel
theorem dX4_hand_41 : decode cX4_hand 41 = .ok (.iload_n 1, 1) := by decide +kernel
theorem dX4_hand_42 : decode cX4_hand 42 = .ok (.invokevirtual 70, 3) := by decide +kernel
theorem dX4_hand_45 : decode cX4_hand 45 = .ok (.iconst 1, 1) := by decide +kernel
theorem dX4_hand_46 : decode cX4_hand 46 = .ok (.ireturn, 1) := by decide +kernel
set_option maxRecDepth 20000 in
theorem ggX4_feed_X3_addBytes : GoodIn wsX4_feed wsX3_addBytes := goodIn_r _ [6, 7, 8, 9, 5, 10, 11, 12, 23, 24] (by decide +kernel) (by decide +kernel)
set_option maxRecDepth 20000 in
theorem gX4_feed_X3_addBytes : GoodIn wsX4_feed (wsV RX4 81 RX3 yX3_addBytes wsX3_addBytes) := goodIn_app (goodIn_of _ (by decide +kernel)) ggX4_feed_X3_addBytes
theorem dX4_feed_0 : decode cX4_feed 0 = .ok (.aload_n 0, 1) := by decide +kernel
theorem dX4_feed_1 : decode cX4_feed 1 = .ok (.getfield 26, 3) := by decide +kernel
theorem dX4_feed_4 : decode cX4_feed 4 = .ok (.lload_n 1, 1) := by decide +kernel
theorem dX4_feed_5 : decode cX4_feed 5 = .ok (.invokevirtual 81, 3) := by decide +kernel
theorem dX4_feed_8 : decode cX4_feed 8 = .ok (.aload_n 0, 1) := by decide +kernel
theorem dX4_feed_9 : decode cX4_feed 9 = .ok (.getfield 26, 3) := by decide +kernel
theorem dX4_feed_12 : decode cX4_feed 12 = .ok (.lload_n 3, 1) := by decide +kernel
theorem dX4_feed_13 : decode cX4_feed 13 = .ok (.invokevirtual 81, 3) := by decide +kernel
theorem dX4_feed_16 : decode cX4_feed 16 = .ok (.aload_n 0, 1) := by decide +kernel
theorem dX4_feed_17 : decode cX4_feed 17 = .ok (.getfield 26, 3) := by decide +kernel
theorem dX4_feed_20 : decode cX4_feed 20 = .ok (.lload 5, 2) := by decide +kernel
theorem dX4_feed_22 : decode cX4_feed 22 = .ok (.invokevirtual 81, 3) := by decide +kernel
theorem dX4_feed_25 : decode cX4_feed 25 = .ok (.aload_n 0, 1) := by decide +kernel
theorem dX4_feed_26 : decode cX4_feed 26 = .ok (.getfield 26, 3) := by decide +kernel
theorem dX4_feed_29 : decode cX4_feed 29 = .ok (.getfield 85, 3) := by decide +kernel
theorem dX4_feed_32 : decode cX4_feed 32 = .ok (.ireturn, 1) := by decide +kernel
set_option maxRecDepth 20000 in
theorem ggX4_grammar_X2_read : GoodIn wsX4_grammar wsX2_read := goodIn_r _ [10, 11, 12, 13, 14, 15, 16, 17, 18, 19, 20, 21, 22, 23, 9, 24, 25, 26, 27, 28, 29, 30, 31, 32, 33, 34, 35, 36, 37, 38, 39, 40, 41, 42, 43, 44, 45, 46, 47, 48, 49, 50, 51, 52, 53, 54, 55, 56, 57, 58, 59, 60, 61, 62, 63, 64, 65, 66, 67, 68, 69, 70, 71, 72, 73, 74, 75, 76, 77, 78, 79, 80, 81, 82, 83, 84, 85, 86, 87, 88, 89, 90, 91, 92, 93, 94, 95, 96, 97, 98, 99, 100, 101, 102, 103, 104, 105, 106, 107, 108, 109, 110, 111, 112, 113, 114, 115, 116, 117, 118, 119, 120, 121, 122, 123, 124, 125, 126, 127, 128, 129, 130, 131, 132, 133, 134, 135, 136, 137, 138, 139, 140, 141, 194, 195, 196, 197, 198, 199, 200, 201, 202, 203, 204, 205, 206, 207, 208, 209, 210, 211] (by decide +kernel) (by decide +kernel)
set_option maxRecDepth 20000 in
theorem gX4_grammar_X2_read : GoodIn wsX4_grammar (wsV RX4 88 RX2 yX2_read wsX2_read) := goodIn_app (goodIn_of _ (by decide +kernel)) ggX4_grammar_X2_read
set_option maxRecDepth 20000 in
theorem ggX4_grammar_X3_empty : GoodIn wsX4_grammar wsX3_empty := goodIn_r _ [145, 36, 210, 211] (by decide +kernel) (by decide +kernel)
set_option maxRecDepth 20000 in
theorem gX4_grammar_X3_empty : GoodIn wsX4_grammar (wsV RX4 92 RX3 yX3_empty wsX3_empty) := goodIn_app (goodIn_of _ (by decide +kernel)) ggX4_grammar_X3_empty
set_option maxRecDepth 20000 in
theorem ggX4_grammar_X1_findHopeful : GoodIn wsX4_grammar wsX1_findHopeful := goodIn_r _ [149, 150, 20, 139, 19, 151, 152, 153, 17, 154, 155, 156, 157, 158, 159, 160, 161, 162, 163, 164, 165, 122, 166, 167, 168, 169, 170, 171, 172, 173, 126, 124, 174, 175, 176, 177, 199, 200, 201, 202, 203, 204, 205, 206, 207, 208, 209] (by decide +kernel) (by decide +kernel)
set_option maxRecDepth 20000 in
theorem gX4_grammar_X1_findHopeful : GoodIn wsX4_grammar (wsV RX4 95 RX1 yX1_findHopeful wsX1_findHopeful) := goodIn_app (goodIn_of _ (by decide +kernel)) ggX4_grammar_X1_findHopeful
set_option maxRecDepth 20000 in
theorem ggX4_grammar_X0_keep : GoodIn wsX4_grammar wsX0_keep := goodIn_r _ [182, 183, 212, 213, 214, 215, 216, 217, 218, 219, 220, 221, 222, 223] (by decide +kernel) (by decide +kernel)
set_option maxRecDepth 20000 in
theorem gX4_grammar_X0_keep : GoodIn wsX4_grammar (wsV RX4 70 RX0 yX0_keep wsX0_keep) := goodIn_app (goodIn_of _ (by decide +kernel)) ggX4_grammar_X0_keep
theorem dX4_grammar_0 : decode cX4_grammar 0 = .ok (.aload_n 0, 1) := by decide +kernel
theorem dX4_grammar_1 : decode cX4_grammar 1 = .ok (.getfield 35, 3) := by decide +kernel
theorem dX4_grammar_4 : decode cX4_grammar 4 = .ok (.aload_n 0, 1) := by decide +kernel
theorem dX4_grammar_5 : decode cX4_grammar 5 = .ok (.getfield 46, 3) := by decide +kernel
theorem dX4_grammar_8 : decode cX4_grammar 8 = .ok (.invokevirtual 88, 3) := by decide +kernel
theorem dX4_grammar_11 : decode cX4_grammar 11 = .ok (.istore_n 1, 1) := by decide +kernel
theorem dX4_grammar_12 : decode cX4_grammar 12 = .ok (.aload_n 0, 1) := by decide +kernel
theorem dX4_grammar_13 : decode cX4_grammar 13 = .ok (.getfield 26, 3) := by decide +kernel
theorem dX4_grammar_16 : decode cX4_grammar 16 = .ok (.invokevirtual 92, 3) := by decide +kernel
theorem dX4_grammar_19 : decode cX4_grammar 19 = .ok (.iload_n 1, 1) := by decide +kernel
theorem dX4_grammar_20 : decode cX4_grammar 20 = .ok (.ifCond .ne 36, 3) := by decide +kernel
theorem dX4_grammar_23 : decode cX4_grammar 23 = .ok (.aload_n 0, 1) := by decide +kernel
theorem dX4_grammar_24 : decode cX4_grammar 24 = .ok (.getfield 42, 3) := by decide +kernel
theorem dX4_grammar_27 : decode cX4_grammar 27 = .ok (.astore_n 2, 1) := by decide +kernel
theorem dX4_grammar_28 : decode cX4_grammar 28 = .ok (.aload_n 0, 1) := by decide +kernel
theorem dX4_grammar_29 : decode cX4_grammar 29 = .ok (.aload_n 0, 1) := by decide +kernel
theorem dX4_grammar_30 : decode cX4_grammar 30 = .ok (.getfield 46, 3) := by decide +kernel
theorem dX4_grammar_33 : decode cX4_grammar 33 = .ok (.putfield 42, 3) := by decide +kernel
theorem dX4_grammar_36 : decode cX4_grammar 36 = .ok (.aload_n 0, 1) := by decide +kernel
theorem dX4_grammar_37 : decode cX4_grammar 37 = .ok (.aload_n 2, 1) := by decide +kernel
theorem dX4_grammar_38 : decode cX4_grammar 38 = .ok (.putfield 46, 3) := by decide +kernel
theorem dX4_grammar_41 : decode cX4_grammar 41 = .ok (.aload_n 0, 1) := by decide +kernel
theorem dX4_grammar_42 : decode cX4_grammar 42 = .ok (.getfield 42, 3) := by decide +kernel
theorem dX4_grammar_45 : decode cX4_grammar 45 = .ok (.invokevirtual 95, 3) := by decide +kernel
theorem dX4_grammar_48 : decode cX4_grammar 48 = .ok (.aload_n 0, 1) := by decide +kernel
theorem dX4_grammar_49 : decode cX4_grammar 49 = .ok (.getfield 52, 3) := by decide +kernel
theorem dX4_grammar_52 : decode cX4_grammar 52 = .ok (.iconst 0, 1) := by decide +kernel
theorem dX4_grammar_53 : decode cX4_grammar 53 = .ok (.invokevirtual 70, 3) := by decide +kernel
theorem dX4_grammar_56 : decode cX4_grammar 56 = .ok (.iload_n 1, 1) := by decide +kernel
theorem dX4_grammar_57 : decode cX4_grammar 57 = .ok (.ireturn, 1) := by decide +kernel
set_option maxRecDepth 20000 in
theorem ggX4_cost_X4_solve : GoodIn wsX4_cost wsX4_solve := goodIn_r _ [6, 1, 7, 8, 9, 10, 11, 12, 13, 5, 14, 15, 16, 17, 18, 19, 20, 21, 22, 23, 24, 25, 26, 27, 28, 29, 30, 31, 32, 33, 34, 35, 36, 37, 38, 39, 40, 41, 42, 43, 44, 45, 46, 47, 48, 49, 50, 51, 52, 53, 54, 55, 56, 57, 58, 59, 60, 61, 62, 63, 64, 65, 66, 67, 68, 69, 70, 71, 72, 73, 74, 75, 76, 77, 78, 79, 80, 81, 82, 83, 84, 85, 86, 87, 88, 89, 90, 91, 92, 93, 94, 95, 96, 97, 98, 99, 100, 101, 102, 103, 104, 105, 106, 107, 108, 109, 110, 111, 112, 113, 114, 115, 116, 117, 118, 119, 124, 125, 126, 127, 128, 129, 130, 131, 132, 133, 134, 135, 136, 137, 138, 139, 140, 141, 142, 143, 144, 145, 146, 147, 148, 149, 150, 151, 152, 153, 154, 155, 156] (by decide +kernel) (by decide +kernel)
set_option maxRecDepth 20000 in
theorem gX4_cost_X4_solve : GoodIn wsX4_cost (wsV RX4 98 RX4 yX4_solve wsX4_solve) := goodIn_app (goodIn_of _ (by decide +kernel)) ggX4_cost_X4_solve
set_option maxRecDepth 20000 in
theorem ggX4_cost_X0_isParted : GoodIn wsX4_cost wsX0_isParted := goodIn_r _ [123, 112, 30, 134, 135, 136, 137, 138, 139, 140, 141, 142, 143, 144, 145] (by decide +kernel) (by decide +kernel)
set_option maxRecDepth 20000 in
theorem gX4_cost_X0_isParted : GoodIn wsX4_cost (wsV RX4 101 RX0 yX0_isParted wsX0_isParted) := goodIn_app (goodIn_of _ (by decide +kernel)) ggX4_cost_X0_isParted
theorem dX4_cost_0 : decode cX4_cost 0 = .ok (.aload_n 0, 1) := by decide +kernel
theorem dX4_cost_1 : decode cX4_cost 1 = .ok (.invokevirtual 98, 3) := by decide +kernel
theorem dX4_cost_4 : decode cX4_cost 4 = .ok (.aload_n 0, 1) := by decide +kernel
theorem dX4_cost_5 : decode cX4_cost 5 = .ok (.getfield 52, 3) := by decide +kernel
theorem dX4_cost_8 : decode cX4_cost 8 = .ok (.invokevirtual 101, 3) := by decide +kernel
theorem dX4_cost_11 : decode cX4_cost 11 = .ok (.ifCond .eq 13, 3) := by decide +kernel
theorem dX4_cost_14 : decode cX4_cost 14 = .ok (.aload_n 0, 1) := by decide +kernel
theorem dX4_cost_15 : decode cX4_cost 15 = .ok (.getfield 52, 3) := by decide +kernel
theorem dX4_cost_18 : decode cX4_cost 18 = .ok (.getfield 105, 3) := by decide +kernel
theorem dX4_cost_21 : decode cX4_cost 21 = .ok (.goto 4, 3) := by decide +kernel
theorem dX4_cost_24 : decode cX4_cost 24 = .ok (.iconst (-1), 1) := by decide +kernel
theorem dX4_cost_25 : decode cX4_cost 25 = .ok (.ireturn, 1) := by decide +kernel
set_option maxRecDepth 20000 in
theorem ggX4_second_X4_solve : GoodIn wsX4_second wsX4_solve := goodIn_r _ [6, 1, 7, 8, 9, 10, 11, 12, 13, 5, 14, 15, 16, 17, 18, 19, 20, 21, 22, 23, 24, 25, 26, 27, 28, 29, 30, 31, 32, 33, 34, 35, 36, 37, 38, 39, 40, 41, 42, 43, 44, 45, 46, 47, 48, 49, 50, 51, 52, 53, 54, 55, 56, 57, 58, 59, 60, 61, 62, 63, 64, 65, 66, 67, 68, 69, 70, 71, 72, 73, 74, 75, 76, 77, 78, 79, 80, 81, 82, 83, 84, 85, 86, 87, 88, 89, 90, 91, 92, 93, 94, 95, 96, 97, 98, 99, 100, 101, 102, 103, 104, 105, 106, 107, 108, 109, 110, 111, 112, 113, 114, 115, 116, 117, 118, 119, 124, 125, 126, 127, 128, 129, 130, 131, 132, 133, 134, 135, 136, 137, 138, 139, 140, 141, 142, 143, 144, 145, 146, 147, 148, 149, 150, 151, 152, 153, 154, 155, 156] (by decide +kernel) (by decide +kernel)
set_option maxRecDepth 20000 in
theorem gX4_second_X4_solve : GoodIn wsX4_second (wsV RX4 98 RX4 yX4_solve wsX4_solve) := goodIn_app (goodIn_of _ (by decide +kernel)) ggX4_second_X4_solve
set_option maxRecDepth 20000 in
theorem ggX4_second_X0_isPartedTwice : GoodIn wsX4_second wsX0_isPartedTwice := goodIn_r _ [123, 113, 30, 134, 135, 136, 137, 138, 139, 140, 141, 142, 143, 144, 145] (by decide +kernel) (by decide +kernel)
set_option maxRecDepth 20000 in
theorem gX4_second_X0_isPartedTwice : GoodIn wsX4_second (wsV RX4 108 RX0 yX0_isPartedTwice wsX0_isPartedTwice) := goodIn_app (goodIn_of _ (by decide +kernel)) ggX4_second_X0_isPartedTwice
theorem dX4_second_0 : decode cX4_second 0 = .ok (.aload_n 0, 1) := by decide +kernel
theorem dX4_second_1 : decode cX4_second 1 = .ok (.invokevirtual 98, 3) := by decide +kernel
theorem dX4_second_4 : decode cX4_second 4 = .ok (.aload_n 0, 1) := by decide +kernel
theorem dX4_second_5 : decode cX4_second 5 = .ok (.getfield 52, 3) := by decide +kernel
theorem dX4_second_8 : decode cX4_second 8 = .ok (.invokevirtual 108, 3) := by decide +kernel
theorem dX4_second_11 : decode cX4_second 11 = .ok (.ifCond .eq 13, 3) := by decide +kernel
theorem dX4_second_14 : decode cX4_second 14 = .ok (.aload_n 0, 1) := by decide +kernel
theorem dX4_second_15 : decode cX4_second 15 = .ok (.getfield 52, 3) := by decide +kernel
theorem dX4_second_18 : decode cX4_second 18 = .ok (.getfield 111, 3) := by decide +kernel
theorem dX4_second_21 : decode cX4_second 21 = .ok (.goto 4, 3) := by decide +kernel
theorem dX4_second_24 : decode cX4_second 24 = .ok (.iconst (-1), 1) := by decide +kernel
theorem dX4_second_25 : decode cX4_second 25 = .ok (.ireturn, 1) := by decide +kernel
set_option maxRecDepth 20000 in
theorem ggX4_look_X4_solve : GoodIn wsX4_look wsX4_solve := goodIn_r _ [9, 3, 10, 4, 11, 12, 13, 14, 15, 8, 16, 17, 18, 19, 20, 21, 22, 23, 24, 25, 26, 27, 28, 29, 30, 31, 32, 33, 34, 35, 36, 37, 38, 39, 40, 41, 42, 43, 44, 45, 46, 47, 48, 49, 50, 51, 52, 53, 54, 55, 56, 57, 58, 59, 60, 61, 62, 63, 64, 65, 66, 67, 68, 69, 70, 71, 72, 73, 74, 75, 76, 77, 78, 79, 80, 81, 82, 83, 84, 85, 86, 87, 88, 89, 90, 91, 92, 93, 94, 95, 96, 97, 98, 99, 100, 101, 102, 103, 104, 105, 106, 107, 108, 109, 110, 111, 112, 113, 114, 115, 116, 117, 118, 119, 120, 121, 153, 154, 155, 156, 157, 158, 159, 160, 161, 162, 163, 164, 165, 166, 167, 168, 169, 170, 171, 172, 173, 174, 175, 176, 177, 178, 179, 180, 181, 182, 183, 184, 185] (by decide +kernel) (by decide +kernel)
set_option maxRecDepth 20000 in
theorem gX4_look_X4_solve : GoodIn wsX4_look (wsV RX4 98 RX4 yX4_solve wsX4_solve) := goodIn_app (goodIn_of _ (by decide +kernel)) ggX4_look_X4_solve
set_option maxRecDepth 20000 in
theorem ggX4_look_X4_hasPlace : GoodIn wsX4_look wsX4_hasPlace := goodIn_r _ [21, 10, 153, 154, 155, 156, 157, 158, 159, 160, 161, 162] (by decide +kernel) (by decide +kernel)
set_option maxRecDepth 20000 in
theorem gX4_look_X4_hasPlace : GoodIn wsX4_look (wsV RX4 78 RX4 yX4_hasPlace wsX4_hasPlace) := goodIn_app (goodIn_of _ (by decide +kernel)) ggX4_look_X4_hasPlace
set_option maxRecDepth 20000 in
theorem ggX4_look_X0_isParted : GoodIn wsX4_look wsX0_isParted := goodIn_r _ [125, 114, 32, 163, 164, 165, 166, 167, 168, 169, 170, 171, 172, 173, 174] (by decide +kernel) (by decide +kernel)
set_option maxRecDepth 20000 in
theorem gX4_look_X0_isParted : GoodIn wsX4_look (wsV RX4 101 RX0 yX0_isParted wsX0_isParted) := goodIn_app (goodIn_of _ (by decide +kernel)) ggX4_look_X0_isParted
set_option maxRecDepth 20000 in
theorem ggX4_look_X0_nodeBehind : GoodIn wsX4_look wsX0_nodeBehind := goodIn_r _ [129, 116, 30, 89, 34, 35, 28, 36, 163, 164, 165, 166, 167, 168, 169, 170, 171, 172, 173, 174] (by decide +kernel) (by decide +kernel)
set_option maxRecDepth 20000 in
theorem gX4_look_X0_nodeBehind : GoodIn wsX4_look (wsV RX4 117 RX0 yX0_nodeBehind wsX0_nodeBehind) := goodIn_app (goodIn_of _ (by decide +kernel)) ggX4_look_X0_nodeBehind
set_option maxRecDepth 20000 in
theorem ggX4_look_X0_endInto : GoodIn wsX4_look wsX0_endInto := goodIn_r _ [133, 90, 34, 35, 28, 36, 163, 164, 165, 166, 167, 168, 169, 170, 171, 172, 173, 174] (by decide +kernel) (by decide +kernel)
set_option maxRecDepth 20000 in
theorem gX4_look_X0_endInto : GoodIn wsX4_look (wsV RX4 120 RX0 yX0_endInto wsX0_endInto) := goodIn_app (goodIn_of _ (by decide +kernel)) ggX4_look_X0_endInto
set_option maxRecDepth 20000 in
theorem ggX4_look_X0_goInto : GoodIn wsX4_look wsX0_goInto := goodIn_r _ [137, 91, 34, 35, 28, 36, 163, 164, 165, 166, 167, 168, 169, 170, 171, 172, 173, 174] (by decide +kernel) (by decide +kernel)
set_option maxRecDepth 20000 in
theorem gX4_look_X0_goInto : GoodIn wsX4_look (wsV RX4 124 RX0 yX0_goInto wsX0_goInto) := goodIn_app (goodIn_of _ (by decide +kernel)) ggX4_look_X0_goInto
set_option maxRecDepth 20000 in
theorem ggX4_look_X1_markOfEnd : GoodIn wsX4_look wsX1_markOfEnd := goodIn_r _ [141, 101, 78, 79, 80, 54, 81, 82, 175, 176, 177, 178, 179, 180, 181, 182, 183, 184, 185] (by decide +kernel) (by decide +kernel)
set_option maxRecDepth 20000 in
theorem gX4_look_X1_markOfEnd : GoodIn wsX4_look (wsV RX4 127 RX1 yX1_markOfEnd wsX1_markOfEnd) := goodIn_app (goodIn_of _ (by decide +kernel)) ggX4_look_X1_markOfEnd
set_option maxRecDepth 20000 in
theorem ggX4_look_X1_markOfGo : GoodIn wsX4_look wsX1_markOfGo := goodIn_r _ [145, 58, 59, 60, 61, 54, 62, 63, 175, 176, 177, 178, 179, 180, 181, 182, 183, 184, 185] (by decide +kernel) (by decide +kernel)
set_option maxRecDepth 20000 in
theorem gX4_look_X1_markOfGo : GoodIn wsX4_look (wsV RX4 130 RX1 yX1_markOfGo wsX1_markOfGo) := goodIn_app (goodIn_of _ (by decide +kernel)) ggX4_look_X1_markOfGo
set_option maxRecDepth 20000 in
theorem ggX4_look_X4_isRaised : GoodIn wsX4_look wsX4_isRaised := goodIn_r _ [149, 150, 13, 14, 15, 8, 16, 17, 18, 19, 20, 21, 10, 22, 23, 24, 153, 154, 155, 156, 157, 158, 159, 160, 161, 162] (by decide +kernel) (by decide +kernel)
set_option maxRecDepth 20000 in
theorem gX4_look_X4_isRaised : GoodIn wsX4_look (wsV RX4 133 RX4 yX4_isRaised wsX4_isRaised) := goodIn_app (goodIn_of _ (by decide +kernel)) ggX4_look_X4_isRaised
set_option maxRecDepth 20000 in
theorem ggX4_look_X4_stateOf : GoodIn wsX4_look wsX4_stateOf := goodIn_r _ [50] (by decide +kernel) (by decide +kernel)
set_option maxRecDepth 20000 in
theorem gX4_look_X4_stateOf : GoodIn wsX4_look (va_wsS RX4 137 yX4_stateOf wsX4_stateOf) := goodIn_app (goodIn_of _ (by decide +kernel)) ggX4_look_X4_stateOf
set_option maxRecDepth 20000 in
theorem ggX4_look_X4_quotesOf : GoodIn wsX4_look wsX4_quotesOf := goodIn_r _ [65] (by decide +kernel) (by decide +kernel)
set_option maxRecDepth 20000 in
theorem gX4_look_X4_quotesOf : GoodIn wsX4_look (va_wsS RX4 140 yX4_quotesOf wsX4_quotesOf) := goodIn_app (goodIn_of _ (by decide +kernel)) ggX4_look_X4_quotesOf
theorem dX4_look_0 : decode cX4_look 0 = .ok (.aload_n 0, 1) := by decide +kernel
theorem dX4_look_1 : decode cX4_look 1 = .ok (.invokevirtual 98, 3) := by decide +kernel
theorem dX4_look_4 : decode cX4_look 4 = .ok (.aload_n 0, 1) := by decide +kernel
theorem dX4_look_5 : decode cX4_look 5 = .ok (.iload_n 1, 1) := by decide +kernel
theorem dX4_look_6 : decode cX4_look 6 = .ok (.invokevirtual 78, 3) := by decide +kernel
theorem dX4_look_9 : decode cX4_look 9 = .ok (.ifCond .eq 13, 3) := by decide +kernel
theorem dX4_look_12 : decode cX4_look 12 = .ok (.aload_n 0, 1) := by decide +kernel
theorem dX4_look_13 : decode cX4_look 13 = .ok (.getfield 52, 3) := by decide +kernel
theorem dX4_look_16 : decode cX4_look 16 = .ok (.invokevirtual 101, 3) := by decide +kernel
theorem dX4_look_19 : decode cX4_look 19 = .ok (.ifCond .ne 11, 3) := by decide +kernel
theorem dX4_look_22 : decode cX4_look 22 = .ok (.new 114, 3) := by decide +kernel
theorem dX4_look_25 : decode cX4_look 25 = .ok (.dup, 1) := by decide +kernel
theorem dX4_look_26 : decode cX4_look 26 = .ok (.invokespecial 116, 3) := by decide +kernel
theorem dX4_look_29 : decode cX4_look 29 = .ok (.athrow, 1) := by decide +kernel
theorem dX4_look_30 : decode cX4_look 30 = .ok (.aload_n 0, 1) := by decide +kernel
theorem dX4_look_31 : decode cX4_look 31 = .ok (.getfield 52, 3) := by decide +kernel
theorem dX4_look_34 : decode cX4_look 34 = .ok (.iload_n 1, 1) := by decide +kernel
theorem dX4_look_35 : decode cX4_look 35 = .ok (.invokevirtual 117, 3) := by decide +kernel
theorem dX4_look_38 : decode cX4_look 38 = .ok (.istore_n 3, 1) := by decide +kernel
theorem dX4_look_39 : decode cX4_look 39 = .ok (.aload_n 0, 1) := by decide +kernel
theorem dX4_look_40 : decode cX4_look 40 = .ok (.getfield 52, 3) := by decide +kernel
theorem dX4_look_43 : decode cX4_look 43 = .ok (.iload_n 1, 1) := by decide +kernel
theorem dX4_look_44 : decode cX4_look 44 = .ok (.iconst 1, 1) := by decide +kernel
theorem dX4_look_45 : decode cX4_look 45 = .ok (.iadd, 1) := by decide +kernel
theorem dX4_look_46 : decode cX4_look 46 = .ok (.iload_n 3, 1) := by decide +kernel
theorem dX4_look_47 : decode cX4_look 47 = .ok (.invokevirtual 120, 3) := by decide +kernel
theorem dX4_look_50 : decode cX4_look 50 = .ok (.istore 4, 2) := by decide +kernel
theorem dX4_look_52 : decode cX4_look 52 = .ok (.aload_n 0, 1) := by decide +kernel
theorem dX4_look_53 : decode cX4_look 53 = .ok (.getfield 52, 3) := by decide +kernel
theorem dX4_look_56 : decode cX4_look 56 = .ok (.iload_n 1, 1) := by decide +kernel
theorem dX4_look_57 : decode cX4_look 57 = .ok (.iconst 1, 1) := by decide +kernel
theorem dX4_look_58 : decode cX4_look 58 = .ok (.iadd, 1) := by decide +kernel
theorem dX4_look_59 : decode cX4_look 59 = .ok (.iload_n 3, 1) := by decide +kernel
theorem dX4_look_60 : decode cX4_look 60 = .ok (.invokevirtual 124, 3) := by decide +kernel
theorem dX4_look_63 : decode cX4_look 63 = .ok (.istore 5, 2) := by decide +kernel
theorem dX4_look_65 : decode cX4_look 65 = .ok (.iload_n 2, 1) := by decide +kernel
theorem dX4_look_66 : decode cX4_look 66 = .ok (.tableswitch 110 0 6 #[42, 45, 48, 58, 68, 100, 105], 42) := by decide +kernel
theorem dX4_look_108 : decode cX4_look 108 = .ok (.iload 4, 2) := by decide +kernel
theorem dX4_look_110 : decode cX4_look 110 = .ok (.ireturn, 1) := by decide +kernel
theorem dX4_look_111 : decode cX4_look 111 = .ok (.iload 5, 2) := by decide +kernel
theorem dX4_look_113 : decode cX4_look 113 = .ok (.ireturn, 1) := by decide +kernel
theorem dX4_look_114 : decode cX4_look 114 = .ok (.aload_n 0, 1) := by decide +kernel
theorem dX4_look_115 : decode cX4_look 115 = .ok (.getfield 42, 3) := by decide +kernel
theorem dX4_look_118 : decode cX4_look 118 = .ok (.iload 4, 2) := by decide +kernel
theorem dX4_look_120 : decode cX4_look 120 = .ok (.invokevirtual 127, 3) := by decide +kernel
theorem dX4_look_123 : decode cX4_look 123 = .ok (.ireturn, 1) := by decide +kernel
theorem dX4_look_124 : decode cX4_look 124 = .ok (.aload_n 0, 1) := by decide +kernel
theorem dX4_look_125 : decode cX4_look 125 = .ok (.getfield 42, 3) := by decide +kernel
theorem dX4_look_128 : decode cX4_look 128 = .ok (.iload 5, 2) := by decide +kernel
theorem dX4_look_130 : decode cX4_look 130 = .ok (.invokevirtual 130, 3) := by decide +kernel
theorem dX4_look_133 : decode cX4_look 133 = .ok (.ireturn, 1) := by decide +kernel
theorem dX4_look_134 : decode cX4_look 134 = .ok (.aload_n 0, 1) := by decide +kernel
theorem dX4_look_135 : decode cX4_look 135 = .ok (.iload_n 1, 1) := by decide +kernel
theorem dX4_look_136 : decode cX4_look 136 = .ok (.aload_n 0, 1) := by decide +kernel
theorem dX4_look_137 : decode cX4_look 137 = .ok (.getfield 42, 3) := by decide +kernel
theorem dX4_look_140 : decode cX4_look 140 = .ok (.iload 4, 2) := by decide +kernel
theorem dX4_look_142 : decode cX4_look 142 = .ok (.invokevirtual 127, 3) := by decide +kernel
theorem dX4_look_145 : decode cX4_look 145 = .ok (.aload_n 0, 1) := by decide +kernel
theorem dX4_look_146 : decode cX4_look 146 = .ok (.getfield 42, 3) := by decide +kernel
theorem dX4_look_149 : decode cX4_look 149 = .ok (.iload 5, 2) := by decide +kernel
theorem dX4_look_151 : decode cX4_look 151 = .ok (.invokevirtual 130, 3) := by decide +kernel
theorem dX4_look_154 : decode cX4_look 154 = .ok (.invokevirtual 133, 3) := by decide +kernel
theorem dX4_look_157 : decode cX4_look 157 = .ok (.ifCond .eq 7, 3) := by decide +kernel
theorem dX4_look_160 : decode cX4_look 160 = .ok (.iconst 1, 1) := by decide +kernel
theorem dX4_look_161 : decode cX4_look 161 = .ok (.goto 4, 3) := by decide +kernel
theorem dX4_look_164 : decode cX4_look 164 = .ok (.iconst 0, 1) := by decide +kernel
theorem dX4_look_165 : decode cX4_look 165 = .ok (.ireturn, 1) := by decide +kernel
theorem dX4_look_166 : decode cX4_look 166 = .ok (.iload_n 3, 1) := by decide +kernel
theorem dX4_look_167 : decode cX4_look 167 = .ok (.invokestatic 137, 3) := by decide +kernel
theorem dX4_look_170 : decode cX4_look 170 = .ok (.ireturn, 1) := by decide +kernel
theorem dX4_look_171 : decode cX4_look 171 = .ok (.iload_n 3, 1) := by decide +kernel
theorem dX4_look_172 : decode cX4_look 172 = .ok (.invokestatic 140, 3) := by decide +kernel
theorem dX4_look_175 : decode cX4_look 175 = .ok (.ireturn, 1) := by decide +kernel
theorem dX4_look_176 : decode cX4_look 176 = .ok (.iconst (-1), 1) := by decide +kernel
theorem dX4_look_177 : decode cX4_look 177 = .ok (.ireturn, 1) := by decide +kernel
set_option maxRecDepth 20000 in
theorem ggX4_last_X4_solve : GoodIn wsX4_last wsX4_solve := goodIn_r _ [6, 1, 7, 8, 9, 10, 11, 12, 13, 5, 14, 15, 16, 17, 18, 19, 20, 21, 22, 23, 24, 25, 26, 27, 28, 29, 30, 31, 32, 33, 34, 35, 36, 37, 38, 39, 40, 41, 42, 43, 44, 45, 46, 47, 48, 49, 50, 51, 52, 53, 54, 55, 56, 57, 58, 59, 60, 61, 62, 63, 64, 65, 66, 67, 68, 69, 70, 71, 72, 73, 74, 75, 76, 77, 78, 79, 80, 81, 82, 83, 84, 85, 86, 87, 88, 89, 90, 91, 92, 93, 94, 95, 96, 97, 98, 99, 100, 101, 102, 103, 104, 105, 106, 107, 108, 109, 110, 111, 112, 113, 114, 115, 116, 117, 118, 119, 124, 125, 126, 127, 128, 129, 130, 131, 132, 133, 134, 135, 136, 137, 138, 139, 140, 141, 142, 143, 144, 145, 146, 147, 148, 149, 150, 151, 152, 153, 154, 155, 156] (by decide +kernel) (by decide +kernel)
set_option maxRecDepth 20000 in
theorem gX4_last_X4_solve : GoodIn wsX4_last (wsV RX4 98 RX4 yX4_solve wsX4_solve) := goodIn_app (goodIn_of _ (by decide +kernel)) ggX4_last_X4_solve
set_option maxRecDepth 20000 in
theorem ggX4_last_X0_isParted : GoodIn wsX4_last wsX0_isParted := goodIn_r _ [123, 112, 30, 134, 135, 136, 137, 138, 139, 140, 141, 142, 143, 144, 145] (by decide +kernel) (by decide +kernel)
set_option maxRecDepth 20000 in
theorem gX4_last_X0_isParted : GoodIn wsX4_last (wsV RX4 101 RX0 yX0_isParted wsX0_isParted) := goodIn_app (goodIn_of _ (by decide +kernel)) ggX4_last_X0_isParted
theorem dX4_last_0 : decode cX4_last 0 = .ok (.aload_n 0, 1) := by decide +kernel
theorem dX4_last_1 : decode cX4_last 1 = .ok (.invokevirtual 98, 3) := by decide +kernel
theorem dX4_last_4 : decode cX4_last 4 = .ok (.aload_n 0, 1) := by decide +kernel
theorem dX4_last_5 : decode cX4_last 5 = .ok (.getfield 52, 3) := by decide +kernel
theorem dX4_last_8 : decode cX4_last 8 = .ok (.invokevirtual 101, 3) := by decide +kernel
theorem dX4_last_11 : decode cX4_last 11 = .ok (.ifCond .eq 13, 3) := by decide +kernel
theorem dX4_last_14 : decode cX4_last 14 = .ok (.aload_n 0, 1) := by decide +kernel
theorem dX4_last_15 : decode cX4_last 15 = .ok (.getfield 52, 3) := by decide +kernel
theorem dX4_last_18 : decode cX4_last 18 = .ok (.getfield 143, 3) := by decide +kernel
theorem dX4_last_21 : decode cX4_last 21 = .ok (.goto 4, 3) := by decide +kernel
theorem dX4_last_24 : decode cX4_last 24 = .ok (.iconst (-1), 1) := by decide +kernel
theorem dX4_last_25 : decode cX4_last 25 = .ok (.ireturn, 1) := by decide +kernel
set_option maxRecDepth 20000 in
theorem ggX4_sentences_X4_solve : GoodIn wsX4_sentences wsX4_solve := goodIn_r _ [6, 1, 7, 8, 9, 10, 11, 12, 13, 5, 14, 15, 16, 17, 18, 19, 20, 21, 22, 23, 24, 25, 26, 27, 28, 29, 30, 31, 32, 33, 34, 35, 36, 37, 38, 39, 40, 41, 42, 43, 44, 45, 46, 47, 48, 49, 50, 51, 52, 53, 54, 55, 56, 57, 58, 59, 60, 61, 62, 63, 64, 65, 66, 67, 68, 69, 70, 71, 72, 73, 74, 75, 76, 77, 78, 79, 80, 81, 82, 83, 84, 85, 86, 87, 88, 89, 90, 91, 92, 93, 94, 95, 96, 97, 98, 99, 100, 101, 102, 103, 104, 105, 106, 107, 108, 109, 110, 111, 112, 113, 114, 115, 116, 117, 118, 119, 132, 133, 134, 135, 136, 137, 138, 139, 140, 141, 142, 143, 144, 145, 146, 147, 148, 149, 150, 151, 152, 153, 154, 155, 156, 157, 158, 159, 160, 161, 162, 163, 164] (by decide +kernel) (by decide +kernel)
set_option maxRecDepth 20000 in
theorem gX4_sentences_X4_solve : GoodIn wsX4_sentences (wsV RX4 98 RX4 yX4_solve wsX4_solve) := goodIn_app (goodIn_of _ (by decide +kernel)) ggX4_sentences_X4_solve
set_option maxRecDepth 20000 in
theorem ggX4_sentences_X0_isParted : GoodIn wsX4_sentences wsX0_isParted := goodIn_r _ [123, 112, 30, 142, 143, 144, 145, 146, 147, 148, 149, 150, 151, 152, 153] (by decide +kernel) (by decide +kernel)
set_option maxRecDepth 20000 in
theorem gX4_sentences_X0_isParted : GoodIn wsX4_sentences (wsV RX4 101 RX0 yX0_isParted wsX0_isParted) := goodIn_app (goodIn_of _ (by decide +kernel)) ggX4_sentences_X0_isParted
set_option maxRecDepth 20000 in
theorem ggX4_sentences_X0_endsInside : GoodIn wsX4_sentences wsX0_endsInside := goodIn_r _ [127, 114, 28, 87, 128, 129, 130, 26, 131, 88, 32, 33, 34, 142, 143, 144, 145, 146, 147, 148, 149, 150, 151, 152, 153] (by decide +kernel) (by decide +kernel)
set_option maxRecDepth 20000 in
theorem gX4_sentences_X0_endsInside : GoodIn wsX4_sentences (wsV RX4 146 RX0 yX0_endsInside wsX0_endsInside) := goodIn_app (goodIn_of _ (by decide +kernel)) ggX4_sentences_X0_endsInside
theorem dX4_sentences_0 : decode cX4_sentences 0 = .ok (.aload_n 0, 1) := by decide +kernel
theorem dX4_sentences_1 : decode cX4_sentences 1 = .ok (.invokevirtual 98, 3) := by decide +kernel
theorem dX4_sentences_4 : decode cX4_sentences 4 = .ok (.aload_n 0, 1) := by decide +kernel
theorem dX4_sentences_5 : decode cX4_sentences 5 = .ok (.getfield 52, 3) := by decide +kernel
theorem dX4_sentences_8 : decode cX4_sentences 8 = .ok (.invokevirtual 101, 3) := by decide +kernel
theorem dX4_sentences_11 : decode cX4_sentences 11 = .ok (.ifCond .eq 15, 3) := by decide +kernel
theorem dX4_sentences_14 : decode cX4_sentences 14 = .ok (.aload_n 0, 1) := by decide +kernel
theorem dX4_sentences_15 : decode cX4_sentences 15 = .ok (.getfield 52, 3) := by decide +kernel
theorem dX4_sentences_18 : decode cX4_sentences 18 = .ok (.invokevirtual 146, 3) := by decide +kernel
theorem dX4_sentences_21 : decode cX4_sentences 21 = .ok (.iconst 1, 1) := by decide +kernel
theorem dX4_sentences_22 : decode cX4_sentences 22 = .ok (.iadd, 1) := by decide +kernel
theorem dX4_sentences_23 : decode cX4_sentences 23 = .ok (.goto 4, 3) := by decide +kernel
theorem dX4_sentences_26 : decode cX4_sentences 26 = .ok (.iconst (-1), 1) := by decide +kernel
theorem dX4_sentences_27 : decode cX4_sentences 27 = .ok (.ireturn, 1) := by decide +kernel
set_option maxRecDepth 20000 in
theorem ggX4_settled_X4_solve : GoodIn wsX4_settled wsX4_solve := goodIn_r _ [7, 1, 8, 2, 9, 10, 11, 12, 13, 6, 14, 15, 16, 17, 18, 19, 20, 21, 22, 23, 24, 25, 26, 27, 28, 29, 30, 31, 32, 33, 34, 35, 36, 37, 38, 39, 40, 41, 42, 43, 44, 45, 46, 47, 48, 49, 50, 51, 52, 53, 54, 55, 56, 57, 58, 59, 60, 61, 62, 63, 64, 65, 66, 67, 68, 69, 70, 71, 72, 73, 74, 75, 76, 77, 78, 79, 80, 81, 82, 83, 84, 85, 86, 87, 88, 89, 90, 91, 92, 93, 94, 95, 96, 97, 98, 99, 100, 101, 102, 103, 104, 105, 106, 107, 108, 109, 110, 111, 112, 113, 114, 115, 116, 117, 118, 119, 133, 134, 135, 136, 137, 138, 139, 140, 141, 142, 143, 144, 145, 146, 147, 148, 149, 150, 151, 152, 153, 154, 155, 156, 157, 158, 159, 160, 161, 162, 163, 164, 165] (by decide +kernel) (by decide +kernel)
set_option maxRecDepth 20000 in
theorem gX4_settled_X4_solve : GoodIn wsX4_settled (wsV RX4 98 RX4 yX4_solve wsX4_solve) := goodIn_app (goodIn_of _ (by decide +kernel)) ggX4_settled_X4_solve
set_option maxRecDepth 20000 in
theorem ggX4_settled_X0_sharedSteps : GoodIn wsX4_settled wsX0_sharedSteps := goodIn_r _ [123, 28, 90, 91, 92, 93, 35, 36, 37, 26, 38, 29, 30, 32, 33, 34, 124, 125, 126, 52, 127, 128, 129, 130, 131, 132, 87, 143, 144, 145, 146, 147, 148, 149, 150, 151, 152, 153, 154, 155, 156, 157, 158, 159, 160, 161, 162, 163, 164, 165] (by decide +kernel) (by decide +kernel)
set_option maxRecDepth 20000 in
theorem gX4_settled_X0_sharedSteps : GoodIn wsX4_settled (wsV RX4 150 RX0 yX0_sharedSteps wsX0_sharedSteps) := goodIn_app (goodIn_of _ (by decide +kernel)) ggX4_settled_X0_sharedSteps
theorem dX4_settled_0 : decode cX4_settled 0 = .ok (.aload_n 0, 1) := by decide +kernel
theorem dX4_settled_1 : decode cX4_settled 1 = .ok (.invokevirtual 98, 3) := by decide +kernel
theorem dX4_settled_4 : decode cX4_settled 4 = .ok (.aload_n 0, 1) := by decide +kernel
theorem dX4_settled_5 : decode cX4_settled 5 = .ok (.getfield 52, 3) := by decide +kernel
theorem dX4_settled_8 : decode cX4_settled 8 = .ok (.aload_n 0, 1) := by decide +kernel
theorem dX4_settled_9 : decode cX4_settled 9 = .ok (.getfield 42, 3) := by decide +kernel
theorem dX4_settled_12 : decode cX4_settled 12 = .ok (.invokevirtual 150, 3) := by decide +kernel
theorem dX4_settled_15 : decode cX4_settled 15 = .ok (.ireturn, 1) := by decide +kernel
set_option maxRecDepth 20000 in
theorem ggX4_go_X1_hasGo : GoodIn wsX4_go wsX1_hasGo := goodIn_r _ [6, 7, 18, 19, 20, 21, 22, 23, 24, 25, 26, 27, 28] (by decide +kernel) (by decide +kernel)
set_option maxRecDepth 20000 in
theorem gX4_go_X1_hasGo : GoodIn wsX4_go (wsV RX4 153 RX1 yX1_hasGo wsX1_hasGo) := goodIn_app (goodIn_of _ (by decide +kernel)) ggX4_go_X1_hasGo
theorem dX4_go_0 : decode cX4_go 0 = .ok (.aload_n 0, 1) := by decide +kernel
theorem dX4_go_1 : decode cX4_go 1 = .ok (.getfield 42, 3) := by decide +kernel
theorem dX4_go_4 : decode cX4_go 4 = .ok (.iload_n 1, 1) := by decide +kernel
theorem dX4_go_5 : decode cX4_go 5 = .ok (.invokevirtual 153, 3) := by decide +kernel
theorem dX4_go_8 : decode cX4_go 8 = .ok (.ifCond .ne 5, 3) := by decide +kernel
theorem dX4_go_11 : decode cX4_go 11 = .ok (.iconst (-1), 1) := by decide +kernel
theorem dX4_go_12 : decode cX4_go 12 = .ok (.ireturn, 1) := by decide +kernel
theorem dX4_go_13 : decode cX4_go 13 = .ok (.iload_n 2, 1) := by decide +kernel
theorem dX4_go_14 : decode cX4_go 14 = .ok (.tableswitch 84 0 4 #[34, 44, 54, 64, 74], 34) := by decide +kernel
theorem dX4_go_48 : decode cX4_go 48 = .ok (.aload_n 0, 1) := by decide +kernel
theorem dX4_go_49 : decode cX4_go 49 = .ok (.getfield 42, 3) := by decide +kernel
theorem dX4_go_52 : decode cX4_go 52 = .ok (.getfield 156, 3) := by decide +kernel
theorem dX4_go_55 : decode cX4_go 55 = .ok (.iload_n 1, 1) := by decide +kernel
theorem dX4_go_56 : decode cX4_go 56 = .ok (.iaload, 1) := by decide +kernel
theorem dX4_go_57 : decode cX4_go 57 = .ok (.ireturn, 1) := by decide +kernel
theorem dX4_go_58 : decode cX4_go 58 = .ok (.aload_n 0, 1) := by decide +kernel
theorem dX4_go_59 : decode cX4_go 59 = .ok (.getfield 42, 3) := by decide +kernel
theorem dX4_go_62 : decode cX4_go 62 = .ok (.getfield 159, 3) := by decide +kernel
theorem dX4_go_65 : decode cX4_go 65 = .ok (.iload_n 1, 1) := by decide +kernel
theorem dX4_go_66 : decode cX4_go 66 = .ok (.iaload, 1) := by decide +kernel
theorem dX4_go_67 : decode cX4_go 67 = .ok (.ireturn, 1) := by decide +kernel
theorem dX4_go_68 : decode cX4_go 68 = .ok (.aload_n 0, 1) := by decide +kernel
theorem dX4_go_69 : decode cX4_go 69 = .ok (.getfield 42, 3) := by decide +kernel
theorem dX4_go_72 : decode cX4_go 72 = .ok (.getfield 162, 3) := by decide +kernel
theorem dX4_go_75 : decode cX4_go 75 = .ok (.iload_n 1, 1) := by decide +kernel
theorem dX4_go_76 : decode cX4_go 76 = .ok (.iaload, 1) := by decide +kernel
theorem dX4_go_77 : decode cX4_go 77 = .ok (.ireturn, 1) := by decide +kernel
theorem dX4_go_78 : decode cX4_go 78 = .ok (.aload_n 0, 1) := by decide +kernel
theorem dX4_go_79 : decode cX4_go 79 = .ok (.getfield 42, 3) := by decide +kernel
theorem dX4_go_82 : decode cX4_go 82 = .ok (.getfield 165, 3) := by decide +kernel
theorem dX4_go_85 : decode cX4_go 85 = .ok (.iload_n 1, 1) := by decide +kernel
theorem dX4_go_86 : decode cX4_go 86 = .ok (.iaload, 1) := by decide +kernel
theorem dX4_go_87 : decode cX4_go 87 = .ok (.ireturn, 1) := by decide +kernel
theorem dX4_go_88 : decode cX4_go 88 = .ok (.aload_n 0, 1) := by decide +kernel
theorem dX4_go_89 : decode cX4_go 89 = .ok (.getfield 42, 3) := by decide +kernel
theorem dX4_go_92 : decode cX4_go 92 = .ok (.getfield 168, 3) := by decide +kernel
theorem dX4_go_95 : decode cX4_go 95 = .ok (.iload_n 1, 1) := by decide +kernel
theorem dX4_go_96 : decode cX4_go 96 = .ok (.iaload, 1) := by decide +kernel
theorem dX4_go_97 : decode cX4_go 97 = .ok (.ireturn, 1) := by decide +kernel
theorem dX4_go_98 : decode cX4_go 98 = .ok (.iconst (-1), 1) := by decide +kernel
theorem dX4_go_99 : decode cX4_go 99 = .ok (.ireturn, 1) := by decide +kernel
set_option maxRecDepth 20000 in
theorem ggX4_count_X4_handMarks : GoodIn wsX4_count wsX4_handMarks := goodIn_r _ [8, 1, 9, 10, 11, 12, 13, 14, 15, 16, 17, 18, 19] (by decide +kernel) (by decide +kernel)
set_option maxRecDepth 20000 in
theorem gX4_count_X4_handMarks : GoodIn wsX4_count (wsV RX4 177 RX4 yX4_handMarks wsX4_handMarks) := goodIn_app (goodIn_of _ (by decide +kernel)) ggX4_count_X4_handMarks
theorem dX4_count_0 : decode cX4_count 0 = .ok (.iload_n 1, 1) := by decide +kernel
theorem dX4_count_1 : decode cX4_count 1 = .ok (.tableswitch 69 0 4 #[35, 40, 48, 56, 64], 35) := by decide +kernel
theorem dX4_count_36 : decode cX4_count 36 = .ok (.aload_n 0, 1) := by decide +kernel
theorem dX4_count_37 : decode cX4_count 37 = .ok (.getfield 74, 3) := by decide +kernel
theorem dX4_count_40 : decode cX4_count 40 = .ok (.ireturn, 1) := by decide +kernel
theorem dX4_count_41 : decode cX4_count 41 = .ok (.aload_n 0, 1) := by decide +kernel
theorem dX4_count_42 : decode cX4_count 42 = .ok (.getfield 42, 3) := by decide +kernel
theorem dX4_count_45 : decode cX4_count 45 = .ok (.getfield 171, 3) := by decide +kernel
theorem dX4_count_48 : decode cX4_count 48 = .ok (.ireturn, 1) := by decide +kernel
theorem dX4_count_49 : decode cX4_count 49 = .ok (.aload_n 0, 1) := by decide +kernel
theorem dX4_count_50 : decode cX4_count 50 = .ok (.getfield 42, 3) := by decide +kernel
theorem dX4_count_53 : decode cX4_count 53 = .ok (.getfield 174, 3) := by decide +kernel
theorem dX4_count_56 : decode cX4_count 56 = .ok (.ireturn, 1) := by decide +kernel
theorem dX4_count_57 : decode cX4_count 57 = .ok (.aload_n 0, 1) := by decide +kernel
theorem dX4_count_58 : decode cX4_count 58 = .ok (.getfield 26, 3) := by decide +kernel
theorem dX4_count_61 : decode cX4_count 61 = .ok (.getfield 85, 3) := by decide +kernel
theorem dX4_count_64 : decode cX4_count 64 = .ok (.ireturn, 1) := by decide +kernel
theorem dX4_count_65 : decode cX4_count 65 = .ok (.aload_n 0, 1) := by decide +kernel
theorem dX4_count_66 : decode cX4_count 66 = .ok (.invokevirtual 177, 3) := by decide +kernel
theorem dX4_count_69 : decode cX4_count 69 = .ok (.ireturn, 1) := by decide +kernel
theorem dX4_count_70 : decode cX4_count 70 = .ok (.iconst (-1), 1) := by decide +kernel
theorem dX4_count_71 : decode cX4_count 71 = .ok (.ireturn, 1) := by decide +kernel
theorem dX4_isWord_0 : decode cX4_isWord 0 = .ok (.iload_n 0, 1) := by decide +kernel
theorem dX4_isWord_1 : decode cX4_isWord 1 = .ok (.iconst 1, 1) := by decide +kernel
theorem dX4_isWord_2 : decode cX4_isWord 2 = .ok (.if_icmp .lt 13, 3) := by decide +kernel
theorem dX4_isWord_5 : decode cX4_isWord 5 = .ok (.iload_n 0, 1) := by decide +kernel
theorem dX4_isWord_6 : decode cX4_isWord 6 = .ok (.bipush 99, 2) := by decide +kernel
theorem dX4_isWord_8 : decode cX4_isWord 8 = .ok (.if_icmp .gt 7, 3) := by decide +kernel
theorem dX4_isWord_11 : decode cX4_isWord 11 = .ok (.iconst 1, 1) := by decide +kernel
theorem dX4_isWord_12 : decode cX4_isWord 12 = .ok (.goto 4, 3) := by decide +kernel
theorem dX4_isWord_15 : decode cX4_isWord 15 = .ok (.iconst 0, 1) := by decide +kernel
theorem dX4_isWord_16 : decode cX4_isWord 16 = .ok (.ireturn, 1) := by decide +kernel
theorem dX4_hasPlace_0 : decode cX4_hasPlace 0 = .ok (.iload_n 1, 1) := by decide +kernel
theorem dX4_hasPlace_1 : decode cX4_hasPlace 1 = .ok (.ifCond .lt 21, 3) := by decide +kernel
theorem dX4_hasPlace_4 : decode cX4_hasPlace 4 = .ok (.iload_n 1, 1) := by decide +kernel
theorem dX4_hasPlace_5 : decode cX4_hasPlace 5 = .ok (.aload_n 0, 1) := by decide +kernel
theorem dX4_hasPlace_6 : decode cX4_hasPlace 6 = .ok (.getfield 74, 3) := by decide +kernel
theorem dX4_hasPlace_9 : decode cX4_hasPlace 9 = .ok (.if_icmp .ge 13, 3) := by decide +kernel
theorem dX4_hasPlace_12 : decode cX4_hasPlace 12 = .ok (.iload_n 1, 1) := by decide +kernel
theorem dX4_hasPlace_13 : decode cX4_hasPlace 13 = .ok (.bipush 60, 2) := by decide +kernel
theorem dX4_hasPlace_15 : decode cX4_hasPlace 15 = .ok (.if_icmp .ge 7, 3) := by decide +kernel
theorem dX4_hasPlace_18 : decode cX4_hasPlace 18 = .ok (.iconst 1, 1) := by decide +kernel
theorem dX4_hasPlace_19 : decode cX4_hasPlace 19 = .ok (.goto 4, 3) := by decide +kernel
theorem dX4_hasPlace_22 : decode cX4_hasPlace 22 = .ok (.iconst 0, 1) := by decide +kernel
theorem dX4_hasPlace_23 : decode cX4_hasPlace 23 = .ok (.ireturn, 1) := by decide +kernel
set_option maxRecDepth 20000 in
theorem ggX4_wordAt_X4_hasPlace : GoodIn wsX4_wordAt wsX4_hasPlace := goodIn_r _ [6, 7, 8, 9, 10, 11, 12, 13, 14, 15, 16, 17] (by decide +kernel) (by decide +kernel)
set_option maxRecDepth 20000 in
theorem gX4_wordAt_X4_hasPlace : GoodIn wsX4_wordAt (wsV RX4 78 RX4 yX4_hasPlace wsX4_hasPlace) := goodIn_app (goodIn_of _ (by decide +kernel)) ggX4_wordAt_X4_hasPlace
theorem dX4_wordAt_0 : decode cX4_wordAt 0 = .ok (.aload_n 0, 1) := by decide +kernel
theorem dX4_wordAt_1 : decode cX4_wordAt 1 = .ok (.iload_n 1, 1) := by decide +kernel
theorem dX4_wordAt_2 : decode cX4_wordAt 2 = .ok (.invokevirtual 78, 3) := by decide +kernel
theorem dX4_wordAt_5 : decode cX4_wordAt 5 = .ok (.ifCond .eq 12, 3) := by decide +kernel
theorem dX4_wordAt_8 : decode cX4_wordAt 8 = .ok (.aload_n 0, 1) := by decide +kernel
theorem dX4_wordAt_9 : decode cX4_wordAt 9 = .ok (.getfield 17, 3) := by decide +kernel
theorem dX4_wordAt_12 : decode cX4_wordAt 12 = .ok (.iload_n 1, 1) := by decide +kernel
theorem dX4_wordAt_13 : decode cX4_wordAt 13 = .ok (.iaload, 1) := by decide +kernel
theorem dX4_wordAt_14 : decode cX4_wordAt 14 = .ok (.goto 4, 3) := by decide +kernel
theorem dX4_wordAt_17 : decode cX4_wordAt 17 = .ok (.iconst 0, 1) := by decide +kernel
theorem dX4_wordAt_18 : decode cX4_wordAt 18 = .ok (.ireturn, 1) := by decide +kernel
set_option maxRecDepth 20000 in
theorem ggX4_firstPlaceOf_X4_wordAt : GoodIn wsX4_firstPlaceOf wsX4_wordAt := goodIn_r _ [6, 7, 8, 9, 10, 5, 11, 1, 12, 13, 14, 15, 16, 17, 18, 19, 20, 21] (by decide +kernel) (by decide +kernel)
set_option maxRecDepth 20000 in
theorem gX4_firstPlaceOf_X4_wordAt : GoodIn wsX4_firstPlaceOf (wsV RX4 180 RX4 yX4_wordAt wsX4_wordAt) := goodIn_app (goodIn_of _ (by decide +kernel)) ggX4_firstPlaceOf_X4_wordAt
theorem dX4_firstPlaceOf_0 : decode cX4_firstPlaceOf 0 = .ok (.iconst 0, 1) := by decide +kernel
theorem dX4_firstPlaceOf_1 : decode cX4_firstPlaceOf 1 = .ok (.istore_n 2, 1) := by decide +kernel
theorem dX4_firstPlaceOf_2 : decode cX4_firstPlaceOf 2 = .ok (.iload_n 2, 1) := by decide +kernel
theorem dX4_firstPlaceOf_3 : decode cX4_firstPlaceOf 3 = .ok (.aload_n 0, 1) := by decide +kernel
theorem dX4_firstPlaceOf_4 : decode cX4_firstPlaceOf 4 = .ok (.getfield 74, 3) := by decide +kernel
theorem dX4_firstPlaceOf_7 : decode cX4_firstPlaceOf 7 = .ok (.if_icmp .ge 20, 3) := by decide +kernel
theorem dX4_firstPlaceOf_10 : decode cX4_firstPlaceOf 10 = .ok (.aload_n 0, 1) := by decide +kernel
theorem dX4_firstPlaceOf_11 : decode cX4_firstPlaceOf 11 = .ok (.iload_n 2, 1) := by decide +kernel
theorem dX4_firstPlaceOf_12 : decode cX4_firstPlaceOf 12 = .ok (.invokevirtual 180, 3) := by decide +kernel
theorem dX4_firstPlaceOf_15 : decode cX4_firstPlaceOf 15 = .ok (.iload_n 1, 1) := by decide +kernel
theorem dX4_firstPlaceOf_16 : decode cX4_firstPlaceOf 16 = .ok (.if_icmp .ne 5, 3) := by decide +kernel
theorem dX4_firstPlaceOf_19 : decode cX4_firstPlaceOf 19 = .ok (.iload_n 2, 1) := by decide +kernel
theorem dX4_firstPlaceOf_20 : decode cX4_firstPlaceOf 20 = .ok (.ireturn, 1) := by decide +kernel
theorem dX4_firstPlaceOf_21 : decode cX4_firstPlaceOf 21 = .ok (.iinc 2 1, 3) := by decide +kernel
theorem dX4_firstPlaceOf_24 : decode cX4_firstPlaceOf 24 = .ok (.goto (-22), 3) := by decide +kernel
theorem dX4_firstPlaceOf_27 : decode cX4_firstPlaceOf 27 = .ok (.aload_n 0, 1) := by decide +kernel
theorem dX4_firstPlaceOf_28 : decode cX4_firstPlaceOf 28 = .ok (.getfield 74, 3) := by decide +kernel
theorem dX4_firstPlaceOf_31 : decode cX4_firstPlaceOf 31 = .ok (.ireturn, 1) := by decide +kernel
theorem dX4_handMarks_0 : decode cX4_handMarks 0 = .ok (.iconst 0, 1) := by decide +kernel
theorem dX4_handMarks_1 : decode cX4_handMarks 1 = .ok (.istore_n 1, 1) := by decide +kernel
theorem dX4_handMarks_2 : decode cX4_handMarks 2 = .ok (.iconst 0, 1) := by decide +kernel
theorem dX4_handMarks_3 : decode cX4_handMarks 3 = .ok (.istore_n 2, 1) := by decide +kernel
theorem dX4_handMarks_4 : decode cX4_handMarks 4 = .ok (.iload_n 2, 1) := by decide +kernel
theorem dX4_handMarks_5 : decode cX4_handMarks 5 = .ok (.aload_n 0, 1) := by decide +kernel
theorem dX4_handMarks_6 : decode cX4_handMarks 6 = .ok (.getfield 74, 3) := by decide +kernel
theorem dX4_handMarks_9 : decode cX4_handMarks 9 = .ok (.if_icmp .ge 28, 3) := by decide +kernel
theorem dX4_handMarks_12 : decode cX4_handMarks 12 = .ok (.iload_n 2, 1) := by decide +kernel
theorem dX4_handMarks_13 : decode cX4_handMarks 13 = .ok (.bipush 60, 2) := by decide +kernel
theorem dX4_handMarks_15 : decode cX4_handMarks 15 = .ok (.if_icmp .ge 22, 3) := by decide +kernel
theorem dX4_handMarks_18 : decode cX4_handMarks 18 = .ok (.aload_n 0, 1) := by decide +kernel
theorem dX4_handMarks_19 : decode cX4_handMarks 19 = .ok (.getfield 20, 3) := by decide +kernel
theorem dX4_handMarks_22 : decode cX4_handMarks 22 = .ok (.iload_n 2, 1) := by decide +kernel
theorem dX4_handMarks_23 : decode cX4_handMarks 23 = .ok (.iaload, 1) := by decide +kernel
theorem dX4_handMarks_24 : decode cX4_handMarks 24 = .ok (.iconst (-1), 1) := by decide +kernel
theorem dX4_handMarks_25 : decode cX4_handMarks 25 = .ok (.if_icmp .eq 6, 3) := by decide +kernel
theorem dX4_handMarks_28 : decode cX4_handMarks 28 = .ok (.iinc 1 1, 3) := by decide +kernel
theorem dX4_handMarks_31 : decode cX4_handMarks 31 = .ok (.iinc 2 1, 3) := by decide +kernel
theorem dX4_handMarks_34 : decode cX4_handMarks 34 = .ok (.goto (-30), 3) := by decide +kernel
theorem dX4_handMarks_37 : decode cX4_handMarks 37 = .ok (.iload_n 1, 1) := by decide +kernel
theorem dX4_handMarks_38 : decode cX4_handMarks 38 = .ok (.ireturn, 1) := by decide +kernel
set_option maxRecDepth 20000 in
theorem ggX4_isRaised_X4_wordAt : GoodIn wsX4_isRaised wsX4_wordAt := goodIn_r _ [6, 7, 8, 9, 10, 5, 11, 12, 16, 17, 18, 19, 20, 21, 22, 23, 24, 25] (by decide +kernel) (by decide +kernel)
set_option maxRecDepth 20000 in
theorem gX4_isRaised_X4_wordAt : GoodIn wsX4_isRaised (wsV RX4 180 RX4 yX4_wordAt wsX4_wordAt) := goodIn_app (goodIn_of _ (by decide +kernel)) ggX4_isRaised_X4_wordAt
set_option maxRecDepth 20000 in
theorem ggX4_isRaised_X4_isWord : GoodIn wsX4_isRaised wsX4_isWord := goodIn_r _ [15] (by decide +kernel) (by decide +kernel)
set_option maxRecDepth 20000 in
theorem gX4_isRaised_X4_isWord : GoodIn wsX4_isRaised (va_wsS RX4 62 yX4_isWord wsX4_isWord) := goodIn_app (goodIn_of _ (by decide +kernel)) ggX4_isRaised_X4_isWord
theorem dX4_isRaised_0 : decode cX4_isRaised 0 = .ok (.aload_n 0, 1) := by decide +kernel
theorem dX4_isRaised_1 : decode cX4_isRaised 1 = .ok (.iload_n 1, 1) := by decide +kernel
theorem dX4_isRaised_2 : decode cX4_isRaised 2 = .ok (.invokevirtual 180, 3) := by decide +kernel
theorem dX4_isRaised_5 : decode cX4_isRaised 5 = .ok (.istore 4, 2) := by decide +kernel
theorem dX4_isRaised_7 : decode cX4_isRaised 7 = .ok (.iload 4, 2) := by decide +kernel
theorem dX4_isRaised_9 : decode cX4_isRaised 9 = .ok (.invokestatic 62, 3) := by decide +kernel
theorem dX4_isRaised_12 : decode cX4_isRaised 12 = .ok (.ifCond .eq 17, 3) := by decide +kernel
theorem dX4_isRaised_15 : decode cX4_isRaised 15 = .ok (.aload_n 0, 1) := by decide +kernel
theorem dX4_isRaised_16 : decode cX4_isRaised 16 = .ok (.getfield 13, 3) := by decide +kernel
theorem dX4_isRaised_19 : decode cX4_isRaised 19 = .ok (.iload 4, 2) := by decide +kernel
theorem dX4_isRaised_21 : decode cX4_isRaised 21 = .ok (.baload, 1) := by decide +kernel
theorem dX4_isRaised_22 : decode cX4_isRaised 22 = .ok (.ifCond .eq 7, 3) := by decide +kernel
theorem dX4_isRaised_25 : decode cX4_isRaised 25 = .ok (.iconst 1, 1) := by decide +kernel
theorem dX4_isRaised_26 : decode cX4_isRaised 26 = .ok (.goto 4, 3) := by decide +kernel
theorem dX4_isRaised_29 : decode cX4_isRaised 29 = .ok (.iconst 0, 1) := by decide +kernel
theorem dX4_isRaised_30 : decode cX4_isRaised 30 = .ok (.istore 5, 2) := by decide +kernel
theorem dX4_isRaised_32 : decode cX4_isRaised 32 = .ok (.iload 5, 2) := by decide +kernel
theorem dX4_isRaised_34 : decode cX4_isRaised 34 = .ok (.ifCond .ne 22, 3) := by decide +kernel
theorem dX4_isRaised_37 : decode cX4_isRaised 37 = .ok (.iload_n 1, 1) := by decide +kernel
theorem dX4_isRaised_38 : decode cX4_isRaised 38 = .ok (.ifCond .eq 18, 3) := by decide +kernel
theorem dX4_isRaised_41 : decode cX4_isRaised 41 = .ok (.iload_n 2, 1) := by decide +kernel
theorem dX4_isRaised_42 : decode cX4_isRaised 42 = .ok (.iconst 4, 1) := by decide +kernel
theorem dX4_isRaised_43 : decode cX4_isRaised 43 = .ok (.if_icmp .eq 13, 3) := by decide +kernel
theorem dX4_isRaised_46 : decode cX4_isRaised 46 = .ok (.iload_n 2, 1) := by decide +kernel
theorem dX4_isRaised_47 : decode cX4_isRaised 47 = .ok (.iconst 5, 1) := by decide +kernel
theorem dX4_isRaised_48 : decode cX4_isRaised 48 = .ok (.if_icmp .eq 8, 3) := by decide +kernel
theorem dX4_isRaised_51 : decode cX4_isRaised 51 = .ok (.iload_n 3, 1) := by decide +kernel
theorem dX4_isRaised_52 : decode cX4_isRaised 52 = .ok (.iconst 2, 1) := by decide +kernel
theorem dX4_isRaised_53 : decode cX4_isRaised 53 = .ok (.if_icmp .ne 7, 3) := by decide +kernel
theorem dX4_isRaised_56 : decode cX4_isRaised 56 = .ok (.iconst 1, 1) := by decide +kernel
theorem dX4_isRaised_57 : decode cX4_isRaised 57 = .ok (.goto 4, 3) := by decide +kernel
theorem dX4_isRaised_60 : decode cX4_isRaised 60 = .ok (.iconst 0, 1) := by decide +kernel
theorem dX4_isRaised_61 : decode cX4_isRaised 61 = .ok (.ireturn, 1) := by decide +kernel
set_option maxRecDepth 20000 in
theorem ggX4_solve_X4_wordAt : GoodIn wsX4_solve wsX4_wordAt := goodIn_r _ [10, 11, 12, 13, 14, 9, 15, 2, 116, 117, 118, 119, 120, 121, 122, 123, 124, 125] (by decide +kernel) (by decide +kernel)
set_option maxRecDepth 20000 in
theorem gX4_solve_X4_wordAt : GoodIn wsX4_solve (wsV RX4 180 RX4 yX4_wordAt wsX4_wordAt) := goodIn_app (goodIn_of _ (by decide +kernel)) ggX4_solve_X4_wordAt
set_option maxRecDepth 20000 in
theorem ggX4_solve_X4_isWord : GoodIn wsX4_solve wsX4_isWord := goodIn_r _ [18] (by decide +kernel) (by decide +kernel)
set_option maxRecDepth 20000 in
theorem gX4_solve_X4_isWord : GoodIn wsX4_solve (va_wsS RX4 62 yX4_isWord wsX4_isWord) := goodIn_app (goodIn_of _ (by decide +kernel)) ggX4_solve_X4_isWord
set_option maxRecDepth 20000 in
theorem ggX4_solve_X0_extend : GoodIn wsX4_solve wsX0_extend := goodIn_r _ [23, 24, 25, 26, 27, 28, 29, 22, 30, 31, 32, 33, 34, 35, 36, 37, 38, 39, 40, 41, 42, 43, 9, 44, 45, 46, 47, 48, 49, 50, 51, 52, 53, 54, 55, 56, 57, 58, 59, 60, 61, 62, 63, 64, 65, 66, 67, 68, 69, 70, 71, 72, 73, 74, 75, 76, 77, 78, 79, 80, 81, 82, 83, 84, 85, 86, 87, 88, 89, 90, 91, 92, 93, 94, 95, 96, 97, 98, 99, 100, 101, 102, 103, 126, 127, 128, 129, 130, 131, 132, 133, 134, 135, 136, 137, 138, 139, 140, 141, 142, 143, 144, 145, 146, 147, 148] (by decide +kernel) (by decide +kernel)
set_option maxRecDepth 20000 in
theorem gX4_solve_X0_extend : GoodIn wsX4_solve (wsV RX4 186 RX0 yX0_extend wsX0_extend) := goodIn_app (goodIn_of _ (by decide +kernel)) ggX4_solve_X0_extend
set_option maxRecDepth 20000 in
theorem ggX4_solve_X0_finish : GoodIn wsX4_solve wsX0_finish := goodIn_r _ [107, 26, 108, 109, 110, 111, 24, 65, 9, 66, 31, 32, 33, 22, 34, 25, 28, 29, 30, 90, 91, 92, 48, 93, 94, 95, 72, 73, 74, 75, 76, 67, 68, 69, 70, 71, 112, 113, 114, 115, 81, 86, 87, 88, 89, 27, 126, 127, 128, 129, 130, 131, 132, 133, 134, 135, 136, 137, 138, 139, 140, 141, 142, 143, 144, 145, 146, 147, 148] (by decide +kernel) (by decide +kernel)
set_option maxRecDepth 20000 in
theorem gX4_solve_X0_finish : GoodIn wsX4_solve (wsV RX4 190 RX0 yX0_finish wsX0_finish) := goodIn_app (goodIn_of _ (by decide +kernel)) ggX4_solve_X0_finish
theorem dX4_solve_0 : decode cX4_solve 0 = .ok (.aload_n 0, 1) := by decide +kernel
theorem dX4_solve_1 : decode cX4_solve 1 = .ok (.getfield 52, 3) := by decide +kernel
theorem dX4_solve_4 : decode cX4_solve 4 = .ok (.getfield 183, 3) := by decide +kernel
theorem dX4_solve_7 : decode cX4_solve 7 = .ok (.istore_n 1, 1) := by decide +kernel
theorem dX4_solve_8 : decode cX4_solve 8 = .ok (.iload_n 1, 1) := by decide +kernel
theorem dX4_solve_9 : decode cX4_solve 9 = .ok (.aload_n 0, 1) := by decide +kernel
theorem dX4_solve_10 : decode cX4_solve 10 = .ok (.getfield 74, 3) := by decide +kernel
theorem dX4_solve_13 : decode cX4_solve 13 = .ok (.if_icmp .ge 55, 3) := by decide +kernel
theorem dX4_solve_16 : decode cX4_solve 16 = .ok (.iload_n 1, 1) := by decide +kernel
theorem dX4_solve_17 : decode cX4_solve 17 = .ok (.bipush 60, 2) := by decide +kernel
theorem dX4_solve_19 : decode cX4_solve 19 = .ok (.if_icmp .ge 49, 3) := by decide +kernel
theorem dX4_solve_22 : decode cX4_solve 22 = .ok (.aload_n 0, 1) := by decide +kernel
theorem dX4_solve_23 : decode cX4_solve 23 = .ok (.iload_n 1, 1) := by decide +kernel
theorem dX4_solve_24 : decode cX4_solve 24 = .ok (.invokevirtual 180, 3) := by decide +kernel
theorem dX4_solve_27 : decode cX4_solve 27 = .ok (.istore_n 2, 1) := by decide +kernel
theorem dX4_solve_28 : decode cX4_solve 28 = .ok (.aload_n 0, 1) := by decide +kernel
theorem dX4_solve_29 : decode cX4_solve 29 = .ok (.getfield 52, 3) := by decide +kernel
theorem dX4_solve_32 : decode cX4_solve 32 = .ok (.aload_n 0, 1) := by decide +kernel
theorem dX4_solve_33 : decode cX4_solve 33 = .ok (.getfield 42, 3) := by decide +kernel
theorem dX4_solve_36 : decode cX4_solve 36 = .ok (.iload_n 2, 1) := by decide +kernel
theorem dX4_solve_37 : decode cX4_solve 37 = .ok (.invokestatic 62, 3) := by decide +kernel
theorem dX4_solve_40 : decode cX4_solve 40 = .ok (.ifCond .eq 12, 3) := by decide +kernel
theorem dX4_solve_43 : decode cX4_solve 43 = .ok (.aload_n 0, 1) := by decide +kernel
theorem dX4_solve_44 : decode cX4_solve 44 = .ok (.getfield 9, 3) := by decide +kernel
theorem dX4_solve_47 : decode cX4_solve 47 = .ok (.iload_n 2, 1) := by decide +kernel
theorem dX4_solve_48 : decode cX4_solve 48 = .ok (.iaload, 1) := by decide +kernel
theorem dX4_solve_49 : decode cX4_solve 49 = .ok (.goto 4, 3) := by decide +kernel
theorem dX4_solve_52 : decode cX4_solve 52 = .ok (.iconst 0, 1) := by decide +kernel
theorem dX4_solve_53 : decode cX4_solve 53 = .ok (.aload_n 0, 1) := by decide +kernel
theorem dX4_solve_54 : decode cX4_solve 54 = .ok (.getfield 20, 3) := by decide +kernel
theorem dX4_solve_57 : decode cX4_solve 57 = .ok (.iload_n 1, 1) := by decide +kernel
theorem dX4_solve_58 : decode cX4_solve 58 = .ok (.iaload, 1) := by decide +kernel
theorem dX4_solve_59 : decode cX4_solve 59 = .ok (.invokevirtual 186, 3) := by decide +kernel
theorem dX4_solve_62 : decode cX4_solve 62 = .ok (.iinc 1 1, 3) := by decide +kernel
theorem dX4_solve_65 : decode cX4_solve 65 = .ok (.goto (-57), 3) := by decide +kernel
theorem dX4_solve_68 : decode cX4_solve 68 = .ok (.aload_n 0, 1) := by decide +kernel
theorem dX4_solve_69 : decode cX4_solve 69 = .ok (.getfield 52, 3) := by decide +kernel
theorem dX4_solve_72 : decode cX4_solve 72 = .ok (.aload_n 0, 1) := by decide +kernel
theorem dX4_solve_73 : decode cX4_solve 73 = .ok (.getfield 42, 3) := by decide +kernel
theorem dX4_solve_76 : decode cX4_solve 76 = .ok (.invokevirtual 190, 3) := by decide +kernel
theorem dX4_solve_79 : decode cX4_solve 79 = .ok (.return_, 1) := by decide +kernel
theorem dX4_nodeOf_0 : decode cX4_nodeOf 0 = .ok (.iload_n 0, 1) := by decide +kernel
theorem dX4_nodeOf_1 : decode cX4_nodeOf 1 = .ok (.iconst 2, 1) := by decide +kernel
theorem dX4_nodeOf_2 : decode cX4_nodeOf 2 = .ok (.imul, 1) := by decide +kernel
theorem dX4_nodeOf_3 : decode cX4_nodeOf 3 = .ok (.iload_n 1, 1) := by decide +kernel
theorem dX4_nodeOf_4 : decode cX4_nodeOf 4 = .ok (.iadd, 1) := by decide +kernel
theorem dX4_nodeOf_5 : decode cX4_nodeOf 5 = .ok (.ireturn, 1) := by decide +kernel
theorem dX4_stateOf_0 : decode cX4_stateOf 0 = .ok (.iload_n 0, 1) := by decide +kernel
theorem dX4_stateOf_1 : decode cX4_stateOf 1 = .ok (.iconst 1, 1) := by decide +kernel
theorem dX4_stateOf_2 : decode cX4_stateOf 2 = .ok (.ishr, 1) := by decide +kernel
theorem dX4_stateOf_3 : decode cX4_stateOf 3 = .ok (.ireturn, 1) := by decide +kernel
theorem dX4_quotesOf_0 : decode cX4_quotesOf 0 = .ok (.iload_n 0, 1) := by decide +kernel
theorem dX4_quotesOf_1 : decode cX4_quotesOf 1 = .ok (.iconst 1, 1) := by decide +kernel
theorem dX4_quotesOf_2 : decode cX4_quotesOf 2 = .ok (.iand, 1) := by decide +kernel
theorem dX4_quotesOf_3 : decode cX4_quotesOf 3 = .ok (.ireturn, 1) := by decide +kernel
set_option maxRecDepth 20000 in
theorem ggX5_feed_X5_lay : GoodIn wsX5_feed wsX5_lay := goodIn_r _ [7, 2, 8, 9, 10, 11, 12, 13, 14, 15, 16, 17, 18, 19, 20, 21, 22, 23, 24, 25, 26, 27, 28, 29, 30, 31, 32, 33, 34, 35, 36, 37, 38] (by decide +kernel) (by decide +kernel)
set_option maxRecDepth 20000 in
theorem gX5_feed_X5_lay : GoodIn wsX5_feed (wsV RX5 7 RX5 yX5_lay wsX5_lay) := goodIn_app (goodIn_of _ (by decide +kernel)) ggX5_feed_X5_lay
theorem dX5_feed_0 : decode cX5_feed 0 = .ok (.aload_n 0, 1) := by decide +kernel
theorem dX5_feed_1 : decode cX5_feed 1 = .ok (.iconst 0, 1) := by decide +kernel
theorem dX5_feed_2 : decode cX5_feed 2 = .ok (.putfield 1, 3) := by decide +kernel
theorem dX5_feed_5 : decode cX5_feed 5 = .ok (.aload_n 0, 1) := by decide +kernel
theorem dX5_feed_6 : decode cX5_feed 6 = .ok (.lload_n 1, 1) := by decide +kernel
theorem dX5_feed_7 : decode cX5_feed 7 = .ok (.invokevirtual 7, 3) := by decide +kernel
theorem dX5_feed_10 : decode cX5_feed 10 = .ok (.aload_n 0, 1) := by decide +kernel
theorem dX5_feed_11 : decode cX5_feed 11 = .ok (.lload_n 3, 1) := by decide +kernel
theorem dX5_feed_12 : decode cX5_feed 12 = .ok (.invokevirtual 7, 3) := by decide +kernel
theorem dX5_feed_15 : decode cX5_feed 15 = .ok (.aload_n 0, 1) := by decide +kernel
theorem dX5_feed_16 : decode cX5_feed 16 = .ok (.lload 5, 2) := by decide +kernel
theorem dX5_feed_18 : decode cX5_feed 18 = .ok (.invokevirtual 7, 3) := by decide +kernel
theorem dX5_feed_21 : decode cX5_feed 21 = .ok (.aload_n 0, 1) := by decide +kernel
theorem dX5_feed_22 : decode cX5_feed 22 = .ok (.getfield 11, 3) := by decide +kernel
theorem dX5_feed_25 : decode cX5_feed 25 = .ok (.ireturn, 1) := by decide +kernel
theorem dX5_lay_0 : decode cX5_lay 0 = .ok (.bipush 56, 2) := by decide +kernel
theorem dX5_lay_2 : decode cX5_lay 2 = .ok (.istore_n 3, 1) := by decide +kernel
theorem dX5_lay_3 : decode cX5_lay 3 = .ok (.iload_n 3, 1) := by decide +kernel
theorem dX5_lay_4 : decode cX5_lay 4 = .ok (.ifCond .lt 71, 3) := by decide +kernel
theorem dX5_lay_7 : decode cX5_lay 7 = .ok (.lload_n 1, 1) := by decide +kernel
theorem dX5_lay_8 : decode cX5_lay 8 = .ok (.iload_n 3, 1) := by decide +kernel
theorem dX5_lay_9 : decode cX5_lay 9 = .ok (.lshr, 1) := by decide +kernel
theorem dX5_lay_10 : decode cX5_lay 10 = .ok (.l2i, 1) := by decide +kernel
theorem dX5_lay_11 : decode cX5_lay 11 = .ok (.sipush 255, 3) := by decide +kernel
theorem dX5_lay_14 : decode cX5_lay 14 = .ok (.iand, 1) := by decide +kernel
theorem dX5_lay_15 : decode cX5_lay 15 = .ok (.istore 4, 2) := by decide +kernel
theorem dX5_lay_17 : decode cX5_lay 17 = .ok (.iload 4, 2) := by decide +kernel
theorem dX5_lay_19 : decode cX5_lay 19 = .ok (.bipush 10, 2) := by decide +kernel
theorem dX5_lay_21 : decode cX5_lay 21 = .ok (.if_icmp .eq 17, 3) := by decide +kernel
theorem dX5_lay_24 : decode cX5_lay 24 = .ok (.iload 4, 2) := by decide +kernel
theorem dX5_lay_26 : decode cX5_lay 26 = .ok (.bipush 32, 2) := by decide +kernel
theorem dX5_lay_28 : decode cX5_lay 28 = .ok (.if_icmp .lt 41, 3) := by decide +kernel
theorem dX5_lay_31 : decode cX5_lay 31 = .ok (.iload 4, 2) := by decide +kernel
theorem dX5_lay_33 : decode cX5_lay 33 = .ok (.bipush 126, 2) := by decide +kernel
theorem dX5_lay_35 : decode cX5_lay 35 = .ok (.if_icmp .gt 34, 3) := by decide +kernel
theorem dX5_lay_38 : decode cX5_lay 38 = .ok (.aload_n 0, 1) := by decide +kernel
theorem dX5_lay_39 : decode cX5_lay 39 = .ok (.getfield 11, 3) := by decide +kernel
theorem dX5_lay_42 : decode cX5_lay 42 = .ok (.sipush 1600, 3) := by decide +kernel
theorem dX5_lay_45 : decode cX5_lay 45 = .ok (.if_icmp .ge 24, 3) := by decide +kernel
theorem dX5_lay_48 : decode cX5_lay 48 = .ok (.aload_n 0, 1) := by decide +kernel
theorem dX5_lay_49 : decode cX5_lay 49 = .ok (.getfield 14, 3) := by decide +kernel
theorem dX5_lay_52 : decode cX5_lay 52 = .ok (.aload_n 0, 1) := by decide +kernel
theorem dX5_lay_53 : decode cX5_lay 53 = .ok (.getfield 11, 3) := by decide +kernel
theorem dX5_lay_56 : decode cX5_lay 56 = .ok (.iload 4, 2) := by decide +kernel
theorem dX5_lay_58 : decode cX5_lay 58 = .ok (.iastore, 1) := by decide +kernel
theorem dX5_lay_59 : decode cX5_lay 59 = .ok (.aload_n 0, 1) := by decide +kernel
theorem dX5_lay_60 : decode cX5_lay 60 = .ok (.dup, 1) := by decide +kernel
theorem dX5_lay_61 : decode cX5_lay 61 = .ok (.getfield 11, 3) := by decide +kernel
theorem dX5_lay_64 : decode cX5_lay 64 = .ok (.iconst 1, 1) := by decide +kernel
theorem dX5_lay_65 : decode cX5_lay 65 = .ok (.iadd, 1) := by decide +kernel
theorem dX5_lay_66 : decode cX5_lay 66 = .ok (.putfield 11, 3) := by decide +kernel
theorem dX5_lay_69 : decode cX5_lay 69 = .ok (.iinc 3 (-8), 3) := by decide +kernel
theorem dX5_lay_72 : decode cX5_lay 72 = .ok (.goto (-69), 3) := by decide +kernel
theorem dX5_lay_75 : decode cX5_lay 75 = .ok (.return_, 1) := by decide +kernel
theorem dX5_init_0 : decode cX5_init 0 = .ok (.aload_n 0, 1) := by decide +kernel
theorem dX5_init_1 : decode cX5_init 1 = .ok (.invokespecial 18, 3) := by decide +kernel
theorem dX5_init_4 : decode cX5_init 4 = .ok (.aload_n 0, 1) := by decide +kernel
theorem dX5_init_5 : decode cX5_init 5 = .ok (.sipush 1600, 3) := by decide +kernel
theorem dX5_init_8 : decode cX5_init 8 = .ok (.newarray .int, 2) := by decide +kernel
theorem dX5_init_10 : decode cX5_init 10 = .ok (.putfield 14, 3) := by decide +kernel
theorem dX5_init_13 : decode cX5_init 13 = .ok (.aload_n 0, 1) := by decide +kernel
theorem dX5_init_14 : decode cX5_init 14 = .ok (.sipush 1602, 3) := by decide +kernel
theorem dX5_init_17 : decode cX5_init 17 = .ok (.newarray .int, 2) := by decide +kernel
theorem dX5_init_19 : decode cX5_init 19 = .ok (.putfield 24, 3) := by decide +kernel
theorem dX5_init_22 : decode cX5_init 22 = .ok (.aload_n 0, 1) := by decide +kernel
theorem dX5_init_23 : decode cX5_init 23 = .ok (.sipush 1602, 3) := by decide +kernel
theorem dX5_init_26 : decode cX5_init 26 = .ok (.newarray .int, 2) := by decide +kernel
theorem dX5_init_28 : decode cX5_init 28 = .ok (.putfield 27, 3) := by decide +kernel
theorem dX5_init_31 : decode cX5_init 31 = .ok (.aload_n 0, 1) := by decide +kernel
theorem dX5_init_32 : decode cX5_init 32 = .ok (.sipush 1602, 3) := by decide +kernel
theorem dX5_init_35 : decode cX5_init 35 = .ok (.newarray .long, 2) := by decide +kernel
theorem dX5_init_37 : decode cX5_init 37 = .ok (.putfield 30, 3) := by decide +kernel
theorem dX5_init_40 : decode cX5_init 40 = .ok (.aload_n 0, 1) := by decide +kernel
theorem dX5_init_41 : decode cX5_init 41 = .ok (.bipush 12, 2) := by decide +kernel
theorem dX5_init_43 : decode cX5_init 43 = .ok (.newarray .long, 2) := by decide +kernel
theorem dX5_init_45 : decode cX5_init 45 = .ok (.dup, 1) := by decide +kernel
theorem dX5_init_46 : decode cX5_init 46 = .ok (.iconst 0, 1) := by decide +kernel
theorem dX5_init_47 : decode cX5_init 47 = .ok (.ldc2_w 34, 3) := by decide +kernel
theorem dX5_init_50 : decode cX5_init 50 = .ok (.lastore, 1) := by decide +kernel
theorem dX5_init_51 : decode cX5_init 51 = .ok (.dup, 1) := by decide +kernel
theorem dX5_init_52 : decode cX5_init 52 = .ok (.iconst 1, 1) := by decide +kernel
theorem dX5_init_53 : decode cX5_init 53 = .ok (.ldc2_w 36, 3) := by decide +kernel
theorem dX5_init_56 : decode cX5_init 56 = .ok (.lastore, 1) := by decide +kernel
theorem dX5_init_57 : decode cX5_init 57 = .ok (.dup, 1) := by decide +kernel
theorem dX5_init_58 : decode cX5_init 58 = .ok (.iconst 2, 1) := by decide +kernel
theorem dX5_init_59 : decode cX5_init 59 = .ok (.ldc2_w 38, 3) := by decide +kernel
theorem dX5_init_62 : decode cX5_init 62 = .ok (.lastore, 1) := by decide +kernel
theorem dX5_init_63 : decode cX5_init 63 = .ok (.dup, 1) := by decide +kernel
theorem dX5_init_64 : decode cX5_init 64 = .ok (.iconst 3, 1) := by decide +kernel
theorem dX5_init_65 : decode cX5_init 65 = .ok (.ldc2_w 40, 3) := by decide +kernel
theorem dX5_init_68 : decode cX5_init 68 = .ok (.lastore, 1) := by decide +kernel
theorem dX5_init_69 : decode cX5_init 69 = .ok (.dup, 1) := by decide +kernel
theorem dX5_init_70 : decode cX5_init 70 = .ok (.iconst 4, 1) := by decide +kernel
theorem dX5_init_71 : decode cX5_init 71 = .ok (.ldc2_w 42, 3) := by decide +kernel
theorem dX5_init_74 : decode cX5_init 74 = .ok (.lastore, 1) := by decide +kernel
theorem dX5_init_75 : decode cX5_init 75 = .ok (.dup, 1) := by decide +kernel
theorem dX5_init_76 : decode cX5_init 76 = .ok (.iconst 5, 1) := by decide +kernel
theorem dX5_init_77 : decode cX5_init 77 = .ok (.ldc2_w 44, 3) := by decide +kernel
theorem dX5_init_80 : decode cX5_init 80 = .ok (.lastore, 1) := by decide +kernel
theorem dX5_init_81 : decode cX5_init 81 = .ok (.dup, 1) := by decide +kernel
theorem dX5_init_82 : decode cX5_init 82 = .ok (.bipush 6, 2) := by decide +kernel
theorem dX5_init_84 : decode cX5_init 84 = .ok (.ldc2_w 46, 3) := by decide +kernel
theorem dX5_init_87 : decode cX5_init 87 = .ok (.lastore, 1) := by decide +kernel
theorem dX5_init_88 : decode cX5_init 88 = .ok (.dup, 1) := by decide +kernel
theorem dX5_init_89 : decode cX5_init 89 = .ok (.bipush 7, 2) := by decide +kernel
theorem dX5_init_91 : decode cX5_init 91 = .ok (.ldc2_w 48, 3) := by decide +kernel
theorem dX5_init_94 : decode cX5_init 94 = .ok (.lastore, 1) := by decide +kernel
theorem dX5_init_95 : decode cX5_init 95 = .ok (.dup, 1) := by decide +kernel
theorem dX5_init_96 : decode cX5_init 96 = .ok (.bipush 8, 2) := by decide +kernel
theorem dX5_init_98 : decode cX5_init 98 = .ok (.ldc2_w 50, 3) := by decide +kernel
theorem dX5_init_101 : decode cX5_init 101 = .ok (.lastore, 1) := by decide +kernel
theorem dX5_init_102 : decode cX5_init 102 = .ok (.dup, 1) := by decide +kernel
theorem dX5_init_103 : decode cX5_init 103 = .ok (.bipush 9, 2) := by decide +kernel
theorem dX5_init_105 : decode cX5_init 105 = .ok (.ldc2_w 52, 3) := by decide +kernel
theorem dX5_init_108 : decode cX5_init 108 = .ok (.lastore, 1) := by decide +kernel
theorem dX5_init_109 : decode cX5_init 109 = .ok (.dup, 1) := by decide +kernel
theorem dX5_init_110 : decode cX5_init 110 = .ok (.bipush 10, 2) := by decide +kernel
theorem dX5_init_112 : decode cX5_init 112 = .ok (.ldc2_w 54, 3) := by decide +kernel
theorem dX5_init_115 : decode cX5_init 115 = .ok (.lastore, 1) := by decide +kernel
theorem dX5_init_116 : decode cX5_init 116 = .ok (.dup, 1) := by decide +kernel
theorem dX5_init_117 : decode cX5_init 117 = .ok (.bipush 11, 2) := by decide +kernel
theorem dX5_init_119 : decode cX5_init 119 = .ok (.ldc2_w 56, 3) := by decide +kernel
theorem dX5_init_122 : decode cX5_init 122 = .ok (.lastore, 1) := by decide +kernel
theorem dX5_init_123 : decode cX5_init 123 = .ok (.putfield 58, 3) := by decide +kernel
theorem dX5_init_126 : decode cX5_init 126 = .ok (.aload_n 0, 1) := by decide +kernel
theorem dX5_init_127 : decode cX5_init 127 = .ok (.iconst 2, 1) := by decide +kernel
theorem dX5_init_128 : decode cX5_init 128 = .ok (.newarray .int, 2) := by decide +kernel
theorem dX5_init_130 : decode cX5_init 130 = .ok (.putfield 61, 3) := by decide +kernel
theorem dX5_init_133 : decode cX5_init 133 = .ok (.aload_n 0, 1) := by decide +kernel
theorem dX5_init_134 : decode cX5_init 134 = .ok (.sipush 400, 3) := by decide +kernel
theorem dX5_init_137 : decode cX5_init 137 = .ok (.newarray .int, 2) := by decide +kernel
theorem dX5_init_139 : decode cX5_init 139 = .ok (.putfield 64, 3) := by decide +kernel
theorem dX5_init_142 : decode cX5_init 142 = .ok (.aload_n 0, 1) := by decide +kernel
theorem dX5_init_143 : decode cX5_init 143 = .ok (.iconst 2, 1) := by decide +kernel
theorem dX5_init_144 : decode cX5_init 144 = .ok (.newarray .int, 2) := by decide +kernel
theorem dX5_init_146 : decode cX5_init 146 = .ok (.putfield 67, 3) := by decide +kernel
theorem dX5_init_149 : decode cX5_init 149 = .ok (.aload_n 0, 1) := by decide +kernel
theorem dX5_init_150 : decode cX5_init 150 = .ok (.bipush 60, 2) := by decide +kernel
theorem dX5_init_152 : decode cX5_init 152 = .ok (.newarray .int, 2) := by decide +kernel
theorem dX5_init_154 : decode cX5_init 154 = .ok (.putfield 70, 3) := by decide +kernel
theorem dX5_init_157 : decode cX5_init 157 = .ok (.aload_n 0, 1) := by decide +kernel
theorem dX5_init_158 : decode cX5_init 158 = .ok (.bipush 100, 2) := by decide +kernel
theorem dX5_init_160 : decode cX5_init 160 = .ok (.newarray .int, 2) := by decide +kernel
theorem dX5_init_162 : decode cX5_init 162 = .ok (.putfield 73, 3) := by decide +kernel
theorem dX5_init_165 : decode cX5_init 165 = .ok (.aload_n 0, 1) := by decide +kernel
theorem dX5_init_166 : decode cX5_init 166 = .ok (.bipush 100, 2) := by decide +kernel
theorem dX5_init_168 : decode cX5_init 168 = .ok (.newarray .boolean, 2) := by decide +kernel
theorem dX5_init_170 : decode cX5_init 170 = .ok (.putfield 76, 3) := by decide +kernel
theorem dX5_init_173 : decode cX5_init 173 = .ok (.aload_n 0, 1) := by decide +kernel
theorem dX5_init_174 : decode cX5_init 174 = .ok (.bipush 60, 2) := by decide +kernel
theorem dX5_init_176 : decode cX5_init 176 = .ok (.newarray .int, 2) := by decide +kernel
theorem dX5_init_178 : decode cX5_init 178 = .ok (.putfield 80, 3) := by decide +kernel
theorem dX5_init_181 : decode cX5_init 181 = .ok (.aload_n 0, 1) := by decide +kernel
theorem dX5_init_182 : decode cX5_init 182 = .ok (.bipush 60, 2) := by decide +kernel
theorem dX5_init_184 : decode cX5_init 184 = .ok (.newarray .int, 2) := by decide +kernel
theorem dX5_init_186 : decode cX5_init 186 = .ok (.putfield 83, 3) := by decide +kernel
theorem dX5_init_189 : decode cX5_init 189 = .ok (.aload_n 0, 1) := by decide +kernel
theorem dX5_init_190 : decode cX5_init 190 = .ok (.sipush 1220, 3) := by decide +kernel
theorem dX5_init_193 : decode cX5_init 193 = .ok (.newarray .int, 2) := by decide +kernel
theorem dX5_init_195 : decode cX5_init 195 = .ok (.putfield 86, 3) := by decide +kernel
theorem dX5_init_198 : decode cX5_init 198 = .ok (.aload_n 0, 1) := by decide +kernel
theorem dX5_init_199 : decode cX5_init 199 = .ok (.sipush 1220, 3) := by decide +kernel
theorem dX5_init_202 : decode cX5_init 202 = .ok (.newarray .int, 2) := by decide +kernel
theorem dX5_init_204 : decode cX5_init 204 = .ok (.putfield 89, 3) := by decide +kernel
theorem dX5_init_207 : decode cX5_init 207 = .ok (.aload_n 0, 1) := by decide +kernel
theorem dX5_init_208 : decode cX5_init 208 = .ok (.bipush 60, 2) := by decide +kernel
theorem dX5_init_210 : decode cX5_init 210 = .ok (.newarray .int, 2) := by decide +kernel
theorem dX5_init_212 : decode cX5_init 212 = .ok (.putfield 92, 3) := by decide +kernel
theorem dX5_init_215 : decode cX5_init 215 = .ok (.aload_n 0, 1) := by decide +kernel
theorem dX5_init_216 : decode cX5_init 216 = .ok (.bipush 60, 2) := by decide +kernel
theorem dX5_init_218 : decode cX5_init 218 = .ok (.newarray .int, 2) := by decide +kernel
theorem dX5_init_220 : decode cX5_init 220 = .ok (.putfield 95, 3) := by decide +kernel
theorem dX5_init_223 : decode cX5_init 223 = .ok (.aload_n 0, 1) := by decide +kernel
theorem dX5_init_224 : decode cX5_init 224 = .ok (.bipush 60, 2) := by decide +kernel
theorem dX5_init_226 : decode cX5_init 226 = .ok (.newarray .int, 2) := by decide +kernel
theorem dX5_init_228 : decode cX5_init 228 = .ok (.putfield 98, 3) := by decide +kernel
theorem dX5_init_231 : decode cX5_init 231 = .ok (.aload_n 0, 1) := by decide +kernel
theorem dX5_init_232 : decode cX5_init 232 = .ok (.bipush 20, 2) := by decide +kernel
theorem dX5_init_234 : decode cX5_init 234 = .ok (.newarray .boolean, 2) := by decide +kernel
theorem dX5_init_236 : decode cX5_init 236 = .ok (.putfield 101, 3) := by decide +kernel
theorem dX5_init_239 : decode cX5_init 239 = .ok (.aload_n 0, 1) := by decide +kernel
theorem dX5_init_240 : decode cX5_init 240 = .ok (.bipush 60, 2) := by decide +kernel
theorem dX5_init_242 : decode cX5_init 242 = .ok (.newarray .int, 2) := by decide +kernel
theorem dX5_init_244 : decode cX5_init 244 = .ok (.putfield 104, 3) := by decide +kernel
theorem dX5_init_247 : decode cX5_init 247 = .ok (.aload_n 0, 1) := by decide +kernel
theorem dX5_init_248 : decode cX5_init 248 = .ok (.bipush 60, 2) := by decide +kernel
theorem dX5_init_250 : decode cX5_init 250 = .ok (.newarray .int, 2) := by decide +kernel
theorem dX5_init_252 : decode cX5_init 252 = .ok (.putfield 107, 3) := by decide +kernel
theorem dX5_init_255 : decode cX5_init 255 = .ok (.iconst 1, 1) := by decide +kernel
theorem dX5_init_256 : decode cX5_init 256 = .ok (.istore_n 1, 1) := by decide +kernel
theorem dX5_init_257 : decode cX5_init 257 = .ok (.iload_n 1, 1) := by decide +kernel
theorem dX5_init_258 : decode cX5_init 258 = .ok (.bipush 100, 2) := by decide +kernel
theorem dX5_init_260 : decode cX5_init 260 = .ok (.if_icmp .ge 16, 3) := by decide +kernel
theorem dX5_init_263 : decode cX5_init 263 = .ok (.aload_n 0, 1) := by decide +kernel
theorem dX5_init_264 : decode cX5_init 264 = .ok (.getfield 73, 3) := by decide +kernel
theorem dX5_init_267 : decode cX5_init 267 = .ok (.iload_n 1, 1) := by decide +kernel
theorem dX5_init_268 : decode cX5_init 268 = .ok (.iconst 1, 1) := by decide +kernel
theorem dX5_init_269 : decode cX5_init 269 = .ok (.iastore, 1) := by decide +kernel
theorem dX5_init_270 : decode cX5_init 270 = .ok (.iinc 1 1, 3) := by decide +kernel
theorem dX5_init_273 : decode cX5_init 273 = .ok (.goto (-16), 3) := by decide +kernel

theorem dX4_init_0 : decode cX4_init 0 = .ok (.aload_n 0, 1) := by decide +kernel
theorem dX4_init_1 : decode cX4_init 1 = .ok (.invokespecial 3, 3) := by decide +kernel
theorem dX4_init_4 : decode cX4_init 4 = .ok (.aload_n 0, 1) := by decide +kernel
theorem dX4_init_5 : decode cX4_init 5 = .ok (.new 9, 3) := by decide +kernel
theorem dX4_init_8 : decode cX4_init 8 = .ok (.dup, 1) := by decide +kernel
theorem dX4_init_9 : decode cX4_init 9 = .ok (.invokespecial 11, 3) := by decide +kernel
theorem dX4_init_12 : decode cX4_init 12 = .ok (.putfield 12, 3) := by decide +kernel
theorem dX4_init_15 : decode cX4_init 15 = .ok (.aload_n 0, 1) := by decide +kernel
theorem dX4_init_16 : decode cX4_init 16 = .ok (.bipush 6, 2) := by decide +kernel
theorem dX4_init_18 : decode cX4_init 18 = .ok (.newarray .int, 2) := by decide +kernel
theorem dX4_init_20 : decode cX4_init 20 = .ok (.putfield 16, 3) := by decide +kernel
theorem dX4_init_23 : decode cX4_init 23 = .ok (.aload_n 0, 1) := by decide +kernel
theorem dX4_init_24 : decode cX4_init 24 = .ok (.iconst 0, 1) := by decide +kernel
theorem dX4_init_25 : decode cX4_init 25 = .ok (.putfield 20, 3) := by decide +kernel
theorem dX4_init_28 : decode cX4_init 28 = .ok (.aload_n 0, 1) := by decide +kernel
theorem dX4_init_29 : decode cX4_init 29 = .ok (.bipush 6, 2) := by decide +kernel
theorem dX4_init_31 : decode cX4_init 31 = .ok (.newarray .int, 2) := by decide +kernel
theorem dX4_init_33 : decode cX4_init 33 = .ok (.putfield 24, 3) := by decide +kernel
theorem dX4_init_36 : decode cX4_init 36 = .ok (.aload_n 0, 1) := by decide +kernel
theorem dX4_init_37 : decode cX4_init 37 = .ok (.new 27, 3) := by decide +kernel
theorem dX4_init_40 : decode cX4_init 40 = .ok (.dup, 1) := by decide +kernel
theorem dX4_init_41 : decode cX4_init 41 = .ok (.invokespecial 29, 3) := by decide +kernel
theorem dX4_init_44 : decode cX4_init 44 = .ok (.putfield 30, 3) := by decide +kernel
theorem dX4_init_47 : decode cX4_init 47 = .ok (.aload_n 0, 1) := by decide +kernel
theorem dX4_init_48 : decode cX4_init 48 = .ok (.new 34, 3) := by decide +kernel
theorem dX4_init_51 : decode cX4_init 51 = .ok (.dup, 1) := by decide +kernel
theorem dX4_init_52 : decode cX4_init 52 = .ok (.invokespecial 36, 3) := by decide +kernel
theorem dX4_init_55 : decode cX4_init 55 = .ok (.putfield 37, 3) := by decide +kernel
theorem dX4_init_58 : decode cX4_init 58 = .ok (.aload_n 0, 1) := by decide +kernel
theorem dX4_init_59 : decode cX4_init 59 = .ok (.new 41, 3) := by decide +kernel
theorem dX4_init_62 : decode cX4_init 62 = .ok (.dup, 1) := by decide +kernel
theorem dX4_init_63 : decode cX4_init 63 = .ok (.invokespecial 43, 3) := by decide +kernel
theorem dX4_init_66 : decode cX4_init 66 = .ok (.putfield 44, 3) := by decide +kernel
theorem dX4_init_69 : decode cX4_init 69 = .ok (.return_, 1) := by decide +kernel
set_option maxRecDepth 20000 in
theorem ggX4_addWord_X4_isNoKind : GoodIn wsX4_addWord wsX4_isNoKind := goodIn_r _ [9, 10, 11, 8, 12] (by decide +kernel) (by decide +kernel)
set_option maxRecDepth 20000 in
theorem gX4_addWord_X4_isNoKind : GoodIn wsX4_addWord (va_wsS RX4 48 yX4_isNoKind wsX4_isNoKind) := goodIn_app (goodIn_of _ (by decide +kernel)) ggX4_addWord_X4_isNoKind
set_option maxRecDepth 20000 in
theorem ggX4_addWord_X4_pairOf : GoodIn wsX4_addWord wsX4_pairOf := goodIn_r _ [15] (by decide +kernel) (by decide +kernel)
set_option maxRecDepth 20000 in
theorem gX4_addWord_X4_pairOf : GoodIn wsX4_addWord (va_wsS RX4 67 yX4_pairOf wsX4_pairOf) := goodIn_app (goodIn_of _ (by decide +kernel)) ggX4_addWord_X4_pairOf
set_option maxRecDepth 20000 in
theorem ggX4_addWord_X1_defineWord : GoodIn wsX4_addWord wsX1_defineWord := goodIn_r _ [19, 20, 21, 29, 30, 31, 32, 33, 34, 35, 36] (by decide +kernel) (by decide +kernel)
set_option maxRecDepth 20000 in
theorem gX4_addWord_X1_defineWord_n71 : GoodIn wsX4_addWord (wsX1_defineWord) := ggX4_addWord_X1_defineWord
theorem dX4_addWord_0 : decode cX4_addWord 0 = .ok (.iload_n 1, 1) := by decide +kernel
theorem dX4_addWord_1 : decode cX4_addWord 1 = .ok (.iload_n 2, 1) := by decide +kernel
theorem dX4_addWord_2 : decode cX4_addWord 2 = .ok (.iload_n 3, 1) := by decide +kernel
theorem dX4_addWord_3 : decode cX4_addWord 3 = .ok (.invokestatic 48, 3) := by decide +kernel
theorem dX4_addWord_6 : decode cX4_addWord 6 = .ok (.ifCond .eq 13, 3) := by decide +kernel
theorem dX4_addWord_9 : decode cX4_addWord 9 = .ok (.new 52, 3) := by decide +kernel
theorem dX4_addWord_12 : decode cX4_addWord 12 = .ok (.dup, 1) := by decide +kernel
theorem dX4_addWord_13 : decode cX4_addWord 13 = .ok (.ldc 54, 2) := by decide +kernel
theorem dX4_addWord_15 : decode cX4_addWord 15 = .ok (.invokespecial 56, 3) := by decide +kernel
theorem dX4_addWord_18 : decode cX4_addWord 18 = .ok (.athrow, 1) := by decide +kernel
theorem dX4_addWord_19 : decode cX4_addWord 19 = .ok (.aload_n 0, 1) := by decide +kernel
theorem dX4_addWord_20 : decode cX4_addWord 20 = .ok (.getfield 12, 3) := by decide +kernel
theorem dX4_addWord_23 : decode cX4_addWord 23 = .ok (.getfield 59, 3) := by decide +kernel
theorem dX4_addWord_26 : decode cX4_addWord 26 = .ok (.bipush 9, 2) := by decide +kernel
theorem dX4_addWord_28 : decode cX4_addWord 28 = .ok (.if_icmp .lt 13, 3) := by decide +kernel
theorem dX4_addWord_31 : decode cX4_addWord 31 = .ok (.new 62, 3) := by decide +kernel
theorem dX4_addWord_34 : decode cX4_addWord 34 = .ok (.dup, 1) := by decide +kernel
theorem dX4_addWord_35 : decode cX4_addWord 35 = .ok (.ldc 64, 2) := by decide +kernel
theorem dX4_addWord_37 : decode cX4_addWord 37 = .ok (.invokespecial 66, 3) := by decide +kernel
theorem dX4_addWord_40 : decode cX4_addWord 40 = .ok (.athrow, 1) := by decide +kernel
theorem dX4_addWord_41 : decode cX4_addWord 41 = .ok (.aload_n 0, 1) := by decide +kernel
theorem dX4_addWord_42 : decode cX4_addWord 42 = .ok (.getfield 12, 3) := by decide +kernel
theorem dX4_addWord_45 : decode cX4_addWord 45 = .ok (.getfield 59, 3) := by decide +kernel
theorem dX4_addWord_48 : decode cX4_addWord 48 = .ok (.istore 4, 2) := by decide +kernel
theorem dX4_addWord_50 : decode cX4_addWord 50 = .ok (.aload_n 0, 1) := by decide +kernel
theorem dX4_addWord_51 : decode cX4_addWord 51 = .ok (.getfield 12, 3) := by decide +kernel
theorem dX4_addWord_54 : decode cX4_addWord 54 = .ok (.dup, 1) := by decide +kernel
theorem dX4_addWord_55 : decode cX4_addWord 55 = .ok (.getfield 59, 3) := by decide +kernel
theorem dX4_addWord_58 : decode cX4_addWord 58 = .ok (.iconst 1, 1) := by decide +kernel
theorem dX4_addWord_59 : decode cX4_addWord 59 = .ok (.iadd, 1) := by decide +kernel
theorem dX4_addWord_60 : decode cX4_addWord 60 = .ok (.putfield 59, 3) := by decide +kernel
theorem dX4_addWord_63 : decode cX4_addWord 63 = .ok (.aload_n 0, 1) := by decide +kernel
theorem dX4_addWord_64 : decode cX4_addWord 64 = .ok (.getfield 12, 3) := by decide +kernel
theorem dX4_addWord_67 : decode cX4_addWord 67 = .ok (.iload 4, 2) := by decide +kernel
theorem dX4_addWord_69 : decode cX4_addWord 69 = .ok (.iload_n 1, 1) := by decide +kernel
theorem dX4_addWord_70 : decode cX4_addWord 70 = .ok (.iload_n 2, 1) := by decide +kernel
theorem dX4_addWord_71 : decode cX4_addWord 71 = .ok (.iload_n 3, 1) := by decide +kernel
theorem dX4_addWord_72 : decode cX4_addWord 72 = .ok (.invokestatic 67, 3) := by decide +kernel
theorem dX4_addWord_75 : decode cX4_addWord 75 = .ok (.invokevirtual 71, 3) := by decide +kernel
theorem dX4_addWord_78 : decode cX4_addWord 78 = .ok (.iload 4, 2) := by decide +kernel
theorem dX4_addWord_80 : decode cX4_addWord 80 = .ok (.ireturn, 1) := by decide +kernel
set_option maxRecDepth 20000 in
theorem ggX4_setWord_X4_isOutside : GoodIn wsX4_setWord wsX4_isOutside := goodIn_r _ [9] (by decide +kernel) (by decide +kernel)
set_option maxRecDepth 20000 in
theorem gX4_setWord_X4_isOutside : GoodIn wsX4_setWord (va_wsS RX4 75 yX4_isOutside wsX4_isOutside) := goodIn_app (goodIn_of _ (by decide +kernel)) ggX4_setWord_X4_isOutside
set_option maxRecDepth 20000 in
theorem ggX4_setWord_X4_isNoKind : GoodIn wsX4_setWord wsX4_isNoKind := goodIn_r _ [12, 6, 7, 8, 9] (by decide +kernel) (by decide +kernel)
set_option maxRecDepth 20000 in
theorem gX4_setWord_X4_isNoKind : GoodIn wsX4_setWord (va_wsS RX4 48 yX4_isNoKind wsX4_isNoKind) := goodIn_app (goodIn_of _ (by decide +kernel)) ggX4_setWord_X4_isNoKind
set_option maxRecDepth 20000 in
theorem ggX4_setWord_X4_pairOf : GoodIn wsX4_setWord wsX4_pairOf := goodIn_r _ [15] (by decide +kernel) (by decide +kernel)
set_option maxRecDepth 20000 in
theorem gX4_setWord_X4_pairOf : GoodIn wsX4_setWord (va_wsS RX4 67 yX4_pairOf wsX4_pairOf) := goodIn_app (goodIn_of _ (by decide +kernel)) ggX4_setWord_X4_pairOf
set_option maxRecDepth 20000 in
theorem ggX4_setWord_X1_defineWord : GoodIn wsX4_setWord wsX1_defineWord := goodIn_r _ [19, 20, 21, 29, 30, 31, 32, 33, 34, 35, 36] (by decide +kernel) (by decide +kernel)
set_option maxRecDepth 20000 in
theorem gX4_setWord_X1_defineWord_n71 : GoodIn wsX4_setWord (wsX1_defineWord) := ggX4_setWord_X1_defineWord
theorem dX4_setWord_0 : decode cX4_setWord 0 = .ok (.iload_n 1, 1) := by decide +kernel
theorem dX4_setWord_1 : decode cX4_setWord 1 = .ok (.aload_n 0, 1) := by decide +kernel
theorem dX4_setWord_2 : decode cX4_setWord 2 = .ok (.getfield 12, 3) := by decide +kernel
theorem dX4_setWord_5 : decode cX4_setWord 5 = .ok (.getfield 59, 3) := by decide +kernel
theorem dX4_setWord_8 : decode cX4_setWord 8 = .ok (.invokestatic 75, 3) := by decide +kernel
theorem dX4_setWord_11 : decode cX4_setWord 11 = .ok (.ifCond .eq 13, 3) := by decide +kernel
theorem dX4_setWord_14 : decode cX4_setWord 14 = .ok (.new 79, 3) := by decide +kernel
theorem dX4_setWord_17 : decode cX4_setWord 17 = .ok (.dup, 1) := by decide +kernel
theorem dX4_setWord_18 : decode cX4_setWord 18 = .ok (.ldc 81, 2) := by decide +kernel
theorem dX4_setWord_20 : decode cX4_setWord 20 = .ok (.invokespecial 83, 3) := by decide +kernel
theorem dX4_setWord_23 : decode cX4_setWord 23 = .ok (.athrow, 1) := by decide +kernel
theorem dX4_setWord_24 : decode cX4_setWord 24 = .ok (.iload_n 2, 1) := by decide +kernel
theorem dX4_setWord_25 : decode cX4_setWord 25 = .ok (.iload_n 3, 1) := by decide +kernel
theorem dX4_setWord_26 : decode cX4_setWord 26 = .ok (.iload 4, 2) := by decide +kernel
theorem dX4_setWord_28 : decode cX4_setWord 28 = .ok (.invokestatic 48, 3) := by decide +kernel
theorem dX4_setWord_31 : decode cX4_setWord 31 = .ok (.ifCond .eq 13, 3) := by decide +kernel
theorem dX4_setWord_34 : decode cX4_setWord 34 = .ok (.new 52, 3) := by decide +kernel
theorem dX4_setWord_37 : decode cX4_setWord 37 = .ok (.dup, 1) := by decide +kernel
theorem dX4_setWord_38 : decode cX4_setWord 38 = .ok (.ldc 54, 2) := by decide +kernel
theorem dX4_setWord_40 : decode cX4_setWord 40 = .ok (.invokespecial 56, 3) := by decide +kernel
theorem dX4_setWord_43 : decode cX4_setWord 43 = .ok (.athrow, 1) := by decide +kernel
theorem dX4_setWord_44 : decode cX4_setWord 44 = .ok (.aload_n 0, 1) := by decide +kernel
theorem dX4_setWord_45 : decode cX4_setWord 45 = .ok (.getfield 12, 3) := by decide +kernel
theorem dX4_setWord_48 : decode cX4_setWord 48 = .ok (.getfield 84, 3) := by decide +kernel
theorem dX4_setWord_51 : decode cX4_setWord 51 = .ok (.iload_n 1, 1) := by decide +kernel
theorem dX4_setWord_52 : decode cX4_setWord 52 = .ok (.iaload, 1) := by decide +kernel
theorem dX4_setWord_53 : decode cX4_setWord 53 = .ok (.istore 5, 2) := by decide +kernel
theorem dX4_setWord_55 : decode cX4_setWord 55 = .ok (.aload_n 0, 1) := by decide +kernel
theorem dX4_setWord_56 : decode cX4_setWord 56 = .ok (.getfield 12, 3) := by decide +kernel
theorem dX4_setWord_59 : decode cX4_setWord 59 = .ok (.iload_n 1, 1) := by decide +kernel
theorem dX4_setWord_60 : decode cX4_setWord 60 = .ok (.iload_n 2, 1) := by decide +kernel
theorem dX4_setWord_61 : decode cX4_setWord 61 = .ok (.iload_n 3, 1) := by decide +kernel
theorem dX4_setWord_62 : decode cX4_setWord 62 = .ok (.iload 4, 2) := by decide +kernel
theorem dX4_setWord_64 : decode cX4_setWord 64 = .ok (.invokestatic 67, 3) := by decide +kernel
theorem dX4_setWord_67 : decode cX4_setWord 67 = .ok (.invokevirtual 71, 3) := by decide +kernel
theorem dX4_setWord_70 : decode cX4_setWord 70 = .ok (.iload 5, 2) := by decide +kernel
theorem dX4_setWord_72 : decode cX4_setWord 72 = .ok (.ireturn, 1) := by decide +kernel
set_option maxRecDepth 20000 in
theorem ggX4_addRule_X4_isOutside : GoodIn wsX4_addRule wsX4_isOutside := goodIn_r _ [9] (by decide +kernel) (by decide +kernel)
set_option maxRecDepth 20000 in
theorem gX4_addRule_X4_isOutside : GoodIn wsX4_addRule (va_wsS RX4 75 yX4_isOutside wsX4_isOutside) := goodIn_app (goodIn_of _ (by decide +kernel)) ggX4_addRule_X4_isOutside
set_option maxRecDepth 20000 in
theorem ggX4_addRule_X4_isNoDigitPair : GoodIn wsX4_addRule wsX4_isNoDigitPair := goodIn_r _ [12] (by decide +kernel) (by decide +kernel)
set_option maxRecDepth 20000 in
theorem gX4_addRule_X4_isNoDigitPair : GoodIn wsX4_addRule (va_wsS RX4 87 yX4_isNoDigitPair wsX4_isNoDigitPair) := goodIn_app (goodIn_of _ (by decide +kernel)) ggX4_addRule_X4_isNoDigitPair
set_option maxRecDepth 20000 in
theorem ggX4_addRule_X1_defineRule : GoodIn wsX4_addRule wsX1_defineRule := goodIn_r _ [16, 17, 18, 19, 20, 21, 22, 14, 23, 24, 25, 26, 27, 8, 28, 36, 37, 38, 39, 40, 41, 42, 43] (by decide +kernel) (by decide +kernel)
set_option maxRecDepth 20000 in
theorem gX4_addRule_X1_defineRule_n98 : GoodIn wsX4_addRule (wsX1_defineRule) := ggX4_addRule_X1_defineRule
theorem dX4_addRule_0 : decode cX4_addRule 0 = .ok (.iload_n 1, 1) := by decide +kernel
theorem dX4_addRule_1 : decode cX4_addRule 1 = .ok (.bipush 8, 2) := by decide +kernel
theorem dX4_addRule_3 : decode cX4_addRule 3 = .ok (.invokestatic 75, 3) := by decide +kernel
theorem dX4_addRule_6 : decode cX4_addRule 6 = .ok (.ifCond .ne 29, 3) := by decide +kernel
theorem dX4_addRule_9 : decode cX4_addRule 9 = .ok (.iload_n 2, 1) := by decide +kernel
theorem dX4_addRule_10 : decode cX4_addRule 10 = .ok (.bipush 8, 2) := by decide +kernel
theorem dX4_addRule_12 : decode cX4_addRule 12 = .ok (.invokestatic 75, 3) := by decide +kernel
theorem dX4_addRule_15 : decode cX4_addRule 15 = .ok (.ifCond .ne 20, 3) := by decide +kernel
theorem dX4_addRule_18 : decode cX4_addRule 18 = .ok (.iload_n 3, 1) := by decide +kernel
theorem dX4_addRule_19 : decode cX4_addRule 19 = .ok (.bipush 8, 2) := by decide +kernel
theorem dX4_addRule_21 : decode cX4_addRule 21 = .ok (.invokestatic 75, 3) := by decide +kernel
theorem dX4_addRule_24 : decode cX4_addRule 24 = .ok (.ifCond .ne 11, 3) := by decide +kernel
theorem dX4_addRule_27 : decode cX4_addRule 27 = .ok (.iload 4, 2) := by decide +kernel
theorem dX4_addRule_29 : decode cX4_addRule 29 = .ok (.invokestatic 87, 3) := by decide +kernel
theorem dX4_addRule_32 : decode cX4_addRule 32 = .ok (.ifCond .eq 13, 3) := by decide +kernel
theorem dX4_addRule_35 : decode cX4_addRule 35 = .ok (.new 52, 3) := by decide +kernel
theorem dX4_addRule_38 : decode cX4_addRule 38 = .ok (.dup, 1) := by decide +kernel
theorem dX4_addRule_39 : decode cX4_addRule 39 = .ok (.ldc 91, 2) := by decide +kernel
theorem dX4_addRule_41 : decode cX4_addRule 41 = .ok (.invokespecial 56, 3) := by decide +kernel
theorem dX4_addRule_44 : decode cX4_addRule 44 = .ok (.athrow, 1) := by decide +kernel
theorem dX4_addRule_45 : decode cX4_addRule 45 = .ok (.aload_n 0, 1) := by decide +kernel
theorem dX4_addRule_46 : decode cX4_addRule 46 = .ok (.getfield 12, 3) := by decide +kernel
theorem dX4_addRule_49 : decode cX4_addRule 49 = .ok (.getfield 93, 3) := by decide +kernel
theorem dX4_addRule_52 : decode cX4_addRule 52 = .ok (.bipush 8, 2) := by decide +kernel
theorem dX4_addRule_54 : decode cX4_addRule 54 = .ok (.if_icmp .lt 13, 3) := by decide +kernel
theorem dX4_addRule_57 : decode cX4_addRule 57 = .ok (.new 62, 3) := by decide +kernel
theorem dX4_addRule_60 : decode cX4_addRule 60 = .ok (.dup, 1) := by decide +kernel
theorem dX4_addRule_61 : decode cX4_addRule 61 = .ok (.ldc 96, 2) := by decide +kernel
theorem dX4_addRule_63 : decode cX4_addRule 63 = .ok (.invokespecial 66, 3) := by decide +kernel
theorem dX4_addRule_66 : decode cX4_addRule 66 = .ok (.athrow, 1) := by decide +kernel
theorem dX4_addRule_67 : decode cX4_addRule 67 = .ok (.aload_n 0, 1) := by decide +kernel
theorem dX4_addRule_68 : decode cX4_addRule 68 = .ok (.getfield 12, 3) := by decide +kernel
theorem dX4_addRule_71 : decode cX4_addRule 71 = .ok (.getfield 93, 3) := by decide +kernel
theorem dX4_addRule_74 : decode cX4_addRule 74 = .ok (.istore 5, 2) := by decide +kernel
theorem dX4_addRule_76 : decode cX4_addRule 76 = .ok (.aload_n 0, 1) := by decide +kernel
theorem dX4_addRule_77 : decode cX4_addRule 77 = .ok (.getfield 12, 3) := by decide +kernel
theorem dX4_addRule_80 : decode cX4_addRule 80 = .ok (.dup, 1) := by decide +kernel
theorem dX4_addRule_81 : decode cX4_addRule 81 = .ok (.getfield 93, 3) := by decide +kernel
theorem dX4_addRule_84 : decode cX4_addRule 84 = .ok (.iconst 1, 1) := by decide +kernel
theorem dX4_addRule_85 : decode cX4_addRule 85 = .ok (.iadd, 1) := by decide +kernel
theorem dX4_addRule_86 : decode cX4_addRule 86 = .ok (.putfield 93, 3) := by decide +kernel
theorem dX4_addRule_89 : decode cX4_addRule 89 = .ok (.aload_n 0, 1) := by decide +kernel
theorem dX4_addRule_90 : decode cX4_addRule 90 = .ok (.getfield 12, 3) := by decide +kernel
theorem dX4_addRule_93 : decode cX4_addRule 93 = .ok (.iload 5, 2) := by decide +kernel
theorem dX4_addRule_95 : decode cX4_addRule 95 = .ok (.iload_n 1, 1) := by decide +kernel
theorem dX4_addRule_96 : decode cX4_addRule 96 = .ok (.iload_n 2, 1) := by decide +kernel
theorem dX4_addRule_97 : decode cX4_addRule 97 = .ok (.iload_n 3, 1) := by decide +kernel
theorem dX4_addRule_98 : decode cX4_addRule 98 = .ok (.iload 4, 2) := by decide +kernel
theorem dX4_addRule_100 : decode cX4_addRule 100 = .ok (.invokevirtual 98, 3) := by decide +kernel
theorem dX4_addRule_103 : decode cX4_addRule 103 = .ok (.iload 5, 2) := by decide +kernel
theorem dX4_addRule_105 : decode cX4_addRule 105 = .ok (.ireturn, 1) := by decide +kernel
theorem dX4_dropRule_0 : decode cX4_dropRule 0 = .ok (.aload_n 0, 1) := by decide +kernel
theorem dX4_dropRule_1 : decode cX4_dropRule 1 = .ok (.getfield 12, 3) := by decide +kernel
theorem dX4_dropRule_4 : decode cX4_dropRule 4 = .ok (.getfield 93, 3) := by decide +kernel
theorem dX4_dropRule_7 : decode cX4_dropRule 7 = .ok (.ifCond .ne 13, 3) := by decide +kernel
theorem dX4_dropRule_10 : decode cX4_dropRule 10 = .ok (.new 62, 3) := by decide +kernel
theorem dX4_dropRule_13 : decode cX4_dropRule 13 = .ok (.dup, 1) := by decide +kernel
theorem dX4_dropRule_14 : decode cX4_dropRule 14 = .ok (.ldc 102, 2) := by decide +kernel
theorem dX4_dropRule_16 : decode cX4_dropRule 16 = .ok (.invokespecial 66, 3) := by decide +kernel
theorem dX4_dropRule_19 : decode cX4_dropRule 19 = .ok (.athrow, 1) := by decide +kernel
theorem dX4_dropRule_20 : decode cX4_dropRule 20 = .ok (.aload_n 0, 1) := by decide +kernel
theorem dX4_dropRule_21 : decode cX4_dropRule 21 = .ok (.getfield 12, 3) := by decide +kernel
theorem dX4_dropRule_24 : decode cX4_dropRule 24 = .ok (.dup, 1) := by decide +kernel
theorem dX4_dropRule_25 : decode cX4_dropRule 25 = .ok (.getfield 93, 3) := by decide +kernel
theorem dX4_dropRule_28 : decode cX4_dropRule 28 = .ok (.iconst 1, 1) := by decide +kernel
theorem dX4_dropRule_29 : decode cX4_dropRule 29 = .ok (.isub, 1) := by decide +kernel
theorem dX4_dropRule_30 : decode cX4_dropRule 30 = .ok (.putfield 93, 3) := by decide +kernel
theorem dX4_dropRule_33 : decode cX4_dropRule 33 = .ok (.aload_n 0, 1) := by decide +kernel
theorem dX4_dropRule_34 : decode cX4_dropRule 34 = .ok (.getfield 12, 3) := by decide +kernel
theorem dX4_dropRule_37 : decode cX4_dropRule 37 = .ok (.getfield 93, 3) := by decide +kernel
theorem dX4_dropRule_40 : decode cX4_dropRule 40 = .ok (.ireturn, 1) := by decide +kernel
set_option maxRecDepth 20000 in
theorem ggX4_say_X4_isOutside : GoodIn wsX4_say wsX4_isOutside := goodIn_r _ [11] (by decide +kernel) (by decide +kernel)
set_option maxRecDepth 20000 in
theorem gX4_say_X4_isOutside : GoodIn wsX4_say (va_wsS RX4 75 yX4_isOutside wsX4_isOutside) := goodIn_app (goodIn_of _ (by decide +kernel)) ggX4_say_X4_isOutside
theorem dX4_say_0 : decode cX4_say 0 = .ok (.iload_n 1, 1) := by decide +kernel
theorem dX4_say_1 : decode cX4_say 1 = .ok (.aload_n 0, 1) := by decide +kernel
theorem dX4_say_2 : decode cX4_say 2 = .ok (.getfield 12, 3) := by decide +kernel
theorem dX4_say_5 : decode cX4_say 5 = .ok (.getfield 59, 3) := by decide +kernel
theorem dX4_say_8 : decode cX4_say 8 = .ok (.invokestatic 75, 3) := by decide +kernel
theorem dX4_say_11 : decode cX4_say 11 = .ok (.ifCond .eq 13, 3) := by decide +kernel
theorem dX4_say_14 : decode cX4_say 14 = .ok (.new 79, 3) := by decide +kernel
theorem dX4_say_17 : decode cX4_say 17 = .ok (.dup, 1) := by decide +kernel
theorem dX4_say_18 : decode cX4_say 18 = .ok (.ldc 81, 2) := by decide +kernel
theorem dX4_say_20 : decode cX4_say 20 = .ok (.invokespecial 83, 3) := by decide +kernel
theorem dX4_say_23 : decode cX4_say 23 = .ok (.athrow, 1) := by decide +kernel
theorem dX4_say_24 : decode cX4_say 24 = .ok (.aload_n 0, 1) := by decide +kernel
theorem dX4_say_25 : decode cX4_say 25 = .ok (.getfield 20, 3) := by decide +kernel
theorem dX4_say_28 : decode cX4_say 28 = .ok (.bipush 6, 2) := by decide +kernel
theorem dX4_say_30 : decode cX4_say 30 = .ok (.if_icmp .lt 13, 3) := by decide +kernel
theorem dX4_say_33 : decode cX4_say 33 = .ok (.new 62, 3) := by decide +kernel
theorem dX4_say_36 : decode cX4_say 36 = .ok (.dup, 1) := by decide +kernel
theorem dX4_say_37 : decode cX4_say 37 = .ok (.ldc 104, 2) := by decide +kernel
theorem dX4_say_39 : decode cX4_say 39 = .ok (.invokespecial 66, 3) := by decide +kernel
theorem dX4_say_42 : decode cX4_say 42 = .ok (.athrow, 1) := by decide +kernel
theorem dX4_say_43 : decode cX4_say 43 = .ok (.aload_n 0, 1) := by decide +kernel
theorem dX4_say_44 : decode cX4_say 44 = .ok (.getfield 16, 3) := by decide +kernel
theorem dX4_say_47 : decode cX4_say 47 = .ok (.aload_n 0, 1) := by decide +kernel
theorem dX4_say_48 : decode cX4_say 48 = .ok (.getfield 20, 3) := by decide +kernel
theorem dX4_say_51 : decode cX4_say 51 = .ok (.iload_n 1, 1) := by decide +kernel
theorem dX4_say_52 : decode cX4_say 52 = .ok (.iastore, 1) := by decide +kernel
theorem dX4_say_53 : decode cX4_say 53 = .ok (.aload_n 0, 1) := by decide +kernel
theorem dX4_say_54 : decode cX4_say 54 = .ok (.dup, 1) := by decide +kernel
theorem dX4_say_55 : decode cX4_say 55 = .ok (.getfield 20, 3) := by decide +kernel
theorem dX4_say_58 : decode cX4_say 58 = .ok (.iconst 1, 1) := by decide +kernel
theorem dX4_say_59 : decode cX4_say 59 = .ok (.iadd, 1) := by decide +kernel
theorem dX4_say_60 : decode cX4_say 60 = .ok (.putfield 20, 3) := by decide +kernel
theorem dX4_say_63 : decode cX4_say 63 = .ok (.aload_n 0, 1) := by decide +kernel
theorem dX4_say_64 : decode cX4_say 64 = .ok (.getfield 20, 3) := by decide +kernel
theorem dX4_say_67 : decode cX4_say 67 = .ok (.ireturn, 1) := by decide +kernel
set_option maxRecDepth 20000 in
theorem ggX4_change_X4_isOutside : GoodIn wsX4_change wsX4_isOutside := goodIn_r _ [9] (by decide +kernel) (by decide +kernel)
set_option maxRecDepth 20000 in
theorem gX4_change_X4_isOutside : GoodIn wsX4_change (va_wsS RX4 75 yX4_isOutside wsX4_isOutside) := goodIn_app (goodIn_of _ (by decide +kernel)) ggX4_change_X4_isOutside
theorem dX4_change_0 : decode cX4_change 0 = .ok (.iload_n 1, 1) := by decide +kernel
theorem dX4_change_1 : decode cX4_change 1 = .ok (.aload_n 0, 1) := by decide +kernel
theorem dX4_change_2 : decode cX4_change 2 = .ok (.getfield 20, 3) := by decide +kernel
theorem dX4_change_5 : decode cX4_change 5 = .ok (.invokestatic 75, 3) := by decide +kernel
theorem dX4_change_8 : decode cX4_change 8 = .ok (.ifCond .ne 17, 3) := by decide +kernel
theorem dX4_change_11 : decode cX4_change 11 = .ok (.iload_n 2, 1) := by decide +kernel
theorem dX4_change_12 : decode cX4_change 12 = .ok (.aload_n 0, 1) := by decide +kernel
theorem dX4_change_13 : decode cX4_change 13 = .ok (.getfield 12, 3) := by decide +kernel
theorem dX4_change_16 : decode cX4_change 16 = .ok (.getfield 59, 3) := by decide +kernel
theorem dX4_change_19 : decode cX4_change 19 = .ok (.invokestatic 75, 3) := by decide +kernel
theorem dX4_change_22 : decode cX4_change 22 = .ok (.ifCond .eq 13, 3) := by decide +kernel
theorem dX4_change_25 : decode cX4_change 25 = .ok (.new 79, 3) := by decide +kernel
theorem dX4_change_28 : decode cX4_change 28 = .ok (.dup, 1) := by decide +kernel
theorem dX4_change_29 : decode cX4_change 29 = .ok (.ldc 106, 2) := by decide +kernel
theorem dX4_change_31 : decode cX4_change 31 = .ok (.invokespecial 83, 3) := by decide +kernel
theorem dX4_change_34 : decode cX4_change 34 = .ok (.athrow, 1) := by decide +kernel
theorem dX4_change_35 : decode cX4_change 35 = .ok (.aload_n 0, 1) := by decide +kernel
theorem dX4_change_36 : decode cX4_change 36 = .ok (.getfield 16, 3) := by decide +kernel
theorem dX4_change_39 : decode cX4_change 39 = .ok (.iload_n 1, 1) := by decide +kernel
theorem dX4_change_40 : decode cX4_change 40 = .ok (.iaload, 1) := by decide +kernel
theorem dX4_change_41 : decode cX4_change 41 = .ok (.istore_n 3, 1) := by decide +kernel
theorem dX4_change_42 : decode cX4_change 42 = .ok (.aload_n 0, 1) := by decide +kernel
theorem dX4_change_43 : decode cX4_change 43 = .ok (.getfield 16, 3) := by decide +kernel
theorem dX4_change_46 : decode cX4_change 46 = .ok (.iload_n 1, 1) := by decide +kernel
theorem dX4_change_47 : decode cX4_change 47 = .ok (.iload_n 2, 1) := by decide +kernel
theorem dX4_change_48 : decode cX4_change 48 = .ok (.iastore, 1) := by decide +kernel
theorem dX4_change_49 : decode cX4_change 49 = .ok (.iload_n 3, 1) := by decide +kernel
theorem dX4_change_50 : decode cX4_change 50 = .ok (.ireturn, 1) := by decide +kernel
theorem dX4_hush_0 : decode cX4_hush 0 = .ok (.aload_n 0, 1) := by decide +kernel
theorem dX4_hush_1 : decode cX4_hush 1 = .ok (.getfield 20, 3) := by decide +kernel
theorem dX4_hush_4 : decode cX4_hush 4 = .ok (.istore_n 1, 1) := by decide +kernel
theorem dX4_hush_5 : decode cX4_hush 5 = .ok (.aload_n 0, 1) := by decide +kernel
theorem dX4_hush_6 : decode cX4_hush 6 = .ok (.iconst 0, 1) := by decide +kernel
theorem dX4_hush_7 : decode cX4_hush 7 = .ok (.putfield 20, 3) := by decide +kernel
theorem dX4_hush_10 : decode cX4_hush 10 = .ok (.iload_n 1, 1) := by decide +kernel
theorem dX4_hush_11 : decode cX4_hush 11 = .ok (.ireturn, 1) := by decide +kernel
theorem dX4_said_0 : decode cX4_said 0 = .ok (.aload_n 0, 1) := by decide +kernel
theorem dX4_said_1 : decode cX4_said 1 = .ok (.getfield 20, 3) := by decide +kernel
theorem dX4_said_4 : decode cX4_said 4 = .ok (.ireturn, 1) := by decide +kernel
set_option maxRecDepth 20000 in
theorem ggX4_wordAt_X4_isOutside : GoodIn wsX4_wordAt wsX4_isOutside := goodIn_r _ [8] (by decide +kernel) (by decide +kernel)
set_option maxRecDepth 20000 in
theorem gX4_wordAt_X4_isOutside : GoodIn wsX4_wordAt (va_wsS RX4 75 yX4_isOutside wsX4_isOutside) := goodIn_app (goodIn_of _ (by decide +kernel)) ggX4_wordAt_X4_isOutside
theorem dX4_wordAt_0 : decode cX4_wordAt 0 = .ok (.iload_n 1, 1) := by decide +kernel
theorem dX4_wordAt_1 : decode cX4_wordAt 1 = .ok (.aload_n 0, 1) := by decide +kernel
theorem dX4_wordAt_2 : decode cX4_wordAt 2 = .ok (.getfield 20, 3) := by decide +kernel
theorem dX4_wordAt_5 : decode cX4_wordAt 5 = .ok (.invokestatic 75, 3) := by decide +kernel
theorem dX4_wordAt_8 : decode cX4_wordAt 8 = .ok (.ifCond .eq 13, 3) := by decide +kernel
theorem dX4_wordAt_11 : decode cX4_wordAt 11 = .ok (.new 79, 3) := by decide +kernel
theorem dX4_wordAt_14 : decode cX4_wordAt 14 = .ok (.dup, 1) := by decide +kernel
theorem dX4_wordAt_15 : decode cX4_wordAt 15 = .ok (.ldc 108, 2) := by decide +kernel
theorem dX4_wordAt_17 : decode cX4_wordAt 17 = .ok (.invokespecial 83, 3) := by decide +kernel
theorem dX4_wordAt_20 : decode cX4_wordAt 20 = .ok (.athrow, 1) := by decide +kernel
theorem dX4_wordAt_21 : decode cX4_wordAt 21 = .ok (.aload_n 0, 1) := by decide +kernel
theorem dX4_wordAt_22 : decode cX4_wordAt 22 = .ok (.getfield 16, 3) := by decide +kernel
theorem dX4_wordAt_25 : decode cX4_wordAt 25 = .ok (.iload_n 1, 1) := by decide +kernel
theorem dX4_wordAt_26 : decode cX4_wordAt 26 = .ok (.iaload, 1) := by decide +kernel
theorem dX4_wordAt_27 : decode cX4_wordAt 27 = .ok (.ireturn, 1) := by decide +kernel
set_option maxRecDepth 20000 in
theorem ggX4_readings_X4_countReadings : GoodIn wsX4_readings wsX4_countReadings := goodIn_r _ [6, 7, 8, 9, 1, 10, 11, 12, 13, 14, 15, 16, 17, 18, 19, 5, 20, 21, 22, 23, 24, 25, 26, 27, 28, 29, 30, 31, 32, 33, 34, 35, 36, 37, 38, 39, 40, 41, 42, 43, 44, 45, 46, 47, 48, 49, 50, 51, 52, 53, 54, 55, 56, 57, 58, 59, 60, 61, 62, 63, 64, 65, 66, 67] (by decide +kernel) (by decide +kernel)
set_option maxRecDepth 20000 in
theorem gX4_readings_X4_countReadings : GoodIn wsX4_readings (wsV RX4 110 RX4 yX4_countReadings wsX4_countReadings) := goodIn_app (goodIn_of _ (by decide +kernel)) ggX4_readings_X4_countReadings
theorem dX4_readings_0 : decode cX4_readings 0 = .ok (.aload_n 0, 1) := by decide +kernel
theorem dX4_readings_1 : decode cX4_readings 1 = .ok (.getfield 20, 3) := by decide +kernel
theorem dX4_readings_4 : decode cX4_readings 4 = .ok (.ifCond .ne 7, 3) := by decide +kernel
theorem dX4_readings_7 : decode cX4_readings 7 = .ok (.iconst 0, 1) := by decide +kernel
theorem dX4_readings_8 : decode cX4_readings 8 = .ok (.goto 13, 3) := by decide +kernel
theorem dX4_readings_11 : decode cX4_readings 11 = .ok (.aload_n 0, 1) := by decide +kernel
theorem dX4_readings_12 : decode cX4_readings 12 = .ok (.iconst 0, 1) := by decide +kernel
theorem dX4_readings_13 : decode cX4_readings 13 = .ok (.aload_n 0, 1) := by decide +kernel
theorem dX4_readings_14 : decode cX4_readings 14 = .ok (.getfield 20, 3) := by decide +kernel
theorem dX4_readings_17 : decode cX4_readings 17 = .ok (.iconst 0, 1) := by decide +kernel
theorem dX4_readings_18 : decode cX4_readings 18 = .ok (.invokevirtual 110, 3) := by decide +kernel
theorem dX4_readings_21 : decode cX4_readings 21 = .ok (.ireturn, 1) := by decide +kernel
set_option maxRecDepth 20000 in
theorem ggX4_readingsPlainly_X3_countRow : GoodIn wsX4_readingsPlainly wsX3_countRow := goodIn_r _ [8, 9, 10, 11, 6, 12, 13, 14, 15, 16, 17, 18, 19, 20, 21, 22, 23, 24, 25, 26, 27, 28, 29, 30, 31, 32, 33, 34, 35, 36, 37, 49, 50, 51, 52, 53, 54, 55, 56, 57] (by decide +kernel) (by decide +kernel)
set_option maxRecDepth 20000 in
theorem gX4_readingsPlainly_X3_countRow_n114 : GoodIn wsX4_readingsPlainly (wsX3_countRow) := ggX4_readingsPlainly_X3_countRow
set_option maxRecDepth 20000 in
theorem ggX4_readingsPlainly_X4_told : GoodIn wsX4_readingsPlainly wsX4_told := goodIn_r _ [40, 41] (by decide +kernel) (by decide +kernel)
set_option maxRecDepth 20000 in
theorem gX4_readingsPlainly_X4_told : GoodIn wsX4_readingsPlainly (va_wsS RX4 118 yX4_told wsX4_told) := goodIn_app (goodIn_of _ (by decide +kernel)) ggX4_readingsPlainly_X4_told
theorem dX4_readingsPlainly_0 : decode cX4_readingsPlainly 0 = .ok (.aload_n 0, 1) := by decide +kernel
theorem dX4_readingsPlainly_1 : decode cX4_readingsPlainly 1 = .ok (.getfield 20, 3) := by decide +kernel
theorem dX4_readingsPlainly_4 : decode cX4_readingsPlainly 4 = .ok (.ifCond .ne 7, 3) := by decide +kernel
theorem dX4_readingsPlainly_7 : decode cX4_readingsPlainly 7 = .ok (.iconst 0, 1) := by decide +kernel
theorem dX4_readingsPlainly_8 : decode cX4_readingsPlainly 8 = .ok (.goto 26, 3) := by decide +kernel
theorem dX4_readingsPlainly_11 : decode cX4_readingsPlainly 11 = .ok (.aload_n 0, 1) := by decide +kernel
theorem dX4_readingsPlainly_12 : decode cX4_readingsPlainly 12 = .ok (.getfield 44, 3) := by decide +kernel
theorem dX4_readingsPlainly_15 : decode cX4_readingsPlainly 15 = .ok (.aload_n 0, 1) := by decide +kernel
theorem dX4_readingsPlainly_16 : decode cX4_readingsPlainly 16 = .ok (.getfield 12, 3) := by decide +kernel
theorem dX4_readingsPlainly_19 : decode cX4_readingsPlainly 19 = .ok (.aload_n 0, 1) := by decide +kernel
theorem dX4_readingsPlainly_20 : decode cX4_readingsPlainly 20 = .ok (.getfield 16, 3) := by decide +kernel
theorem dX4_readingsPlainly_23 : decode cX4_readingsPlainly 23 = .ok (.aload_n 0, 1) := by decide +kernel
theorem dX4_readingsPlainly_24 : decode cX4_readingsPlainly 24 = .ok (.getfield 20, 3) := by decide +kernel
theorem dX4_readingsPlainly_27 : decode cX4_readingsPlainly 27 = .ok (.iconst 0, 1) := by decide +kernel
theorem dX4_readingsPlainly_28 : decode cX4_readingsPlainly 28 = .ok (.invokevirtual 114, 3) := by decide +kernel
theorem dX4_readingsPlainly_31 : decode cX4_readingsPlainly 31 = .ok (.invokestatic 118, 3) := by decide +kernel
theorem dX4_readingsPlainly_34 : decode cX4_readingsPlainly 34 = .ok (.ireturn, 1) := by decide +kernel
set_option maxRecDepth 20000 in
theorem ggX4_readingsOf_X4_isNoSpan : GoodIn wsX4_readingsOf wsX4_isNoSpan := goodIn_r _ [7, 8, 61, 62, 63, 64, 65, 66, 67] (by decide +kernel) (by decide +kernel)
set_option maxRecDepth 20000 in
theorem gX4_readingsOf_X4_isNoSpan : GoodIn wsX4_readingsOf (wsV RX4 122 RX4 yX4_isNoSpan wsX4_isNoSpan) := goodIn_app (goodIn_of _ (by decide +kernel)) ggX4_readingsOf_X4_isNoSpan
set_option maxRecDepth 20000 in
theorem ggX4_readingsOf_X4_isOutside : GoodIn wsX4_readingsOf wsX4_isOutside := goodIn_r _ [11] (by decide +kernel) (by decide +kernel)
set_option maxRecDepth 20000 in
theorem gX4_readingsOf_X4_isOutside : GoodIn wsX4_readingsOf (va_wsS RX4 75 yX4_isOutside wsX4_isOutside) := goodIn_app (goodIn_of _ (by decide +kernel)) ggX4_readingsOf_X4_isOutside
set_option maxRecDepth 20000 in
theorem ggX4_readingsOf_X4_countReadings : GoodIn wsX4_readingsOf wsX4_countReadings := goodIn_r _ [15, 16, 17, 18, 8, 19, 20, 21, 22, 23, 24, 25, 26, 27, 28, 6, 29, 30, 31, 32, 33, 34, 35, 36, 37, 38, 39, 40, 41, 42, 43, 44, 45, 46, 47, 48, 49, 50, 51, 52, 53, 54, 55, 56, 57, 58, 59, 60, 61, 62, 63, 64, 65, 66, 67, 68, 69, 70, 71, 72, 73, 74, 75, 76] (by decide +kernel) (by decide +kernel)
set_option maxRecDepth 20000 in
theorem gX4_readingsOf_X4_countReadings : GoodIn wsX4_readingsOf (wsV RX4 110 RX4 yX4_countReadings wsX4_countReadings) := goodIn_app (goodIn_of _ (by decide +kernel)) ggX4_readingsOf_X4_countReadings
theorem dX4_readingsOf_0 : decode cX4_readingsOf 0 = .ok (.aload_n 0, 1) := by decide +kernel
theorem dX4_readingsOf_1 : decode cX4_readingsOf 1 = .ok (.iload_n 1, 1) := by decide +kernel
theorem dX4_readingsOf_2 : decode cX4_readingsOf 2 = .ok (.iload_n 2, 1) := by decide +kernel
theorem dX4_readingsOf_3 : decode cX4_readingsOf 3 = .ok (.invokevirtual 122, 3) := by decide +kernel
theorem dX4_readingsOf_6 : decode cX4_readingsOf 6 = .ok (.ifCond .ne 12, 3) := by decide +kernel
theorem dX4_readingsOf_9 : decode cX4_readingsOf 9 = .ok (.iload_n 3, 1) := by decide +kernel
theorem dX4_readingsOf_10 : decode cX4_readingsOf 10 = .ok (.bipush 8, 2) := by decide +kernel
theorem dX4_readingsOf_12 : decode cX4_readingsOf 12 = .ok (.invokestatic 75, 3) := by decide +kernel
theorem dX4_readingsOf_15 : decode cX4_readingsOf 15 = .ok (.ifCond .eq 13, 3) := by decide +kernel
theorem dX4_readingsOf_18 : decode cX4_readingsOf 18 = .ok (.new 79, 3) := by decide +kernel
theorem dX4_readingsOf_21 : decode cX4_readingsOf 21 = .ok (.dup, 1) := by decide +kernel
theorem dX4_readingsOf_22 : decode cX4_readingsOf 22 = .ok (.ldc 125, 2) := by decide +kernel
theorem dX4_readingsOf_24 : decode cX4_readingsOf 24 = .ok (.invokespecial 83, 3) := by decide +kernel
theorem dX4_readingsOf_27 : decode cX4_readingsOf 27 = .ok (.athrow, 1) := by decide +kernel
theorem dX4_readingsOf_28 : decode cX4_readingsOf 28 = .ok (.aload_n 0, 1) := by decide +kernel
theorem dX4_readingsOf_29 : decode cX4_readingsOf 29 = .ok (.iload_n 1, 1) := by decide +kernel
theorem dX4_readingsOf_30 : decode cX4_readingsOf 30 = .ok (.iload_n 2, 1) := by decide +kernel
theorem dX4_readingsOf_31 : decode cX4_readingsOf 31 = .ok (.iload_n 3, 1) := by decide +kernel
theorem dX4_readingsOf_32 : decode cX4_readingsOf 32 = .ok (.invokevirtual 110, 3) := by decide +kernel
theorem dX4_readingsOf_35 : decode cX4_readingsOf 35 = .ok (.ireturn, 1) := by decide +kernel
set_option maxRecDepth 20000 in
theorem ggX4_has_X4_isNoSpan : GoodIn wsX4_has wsX4_isNoSpan := goodIn_r _ [13, 8, 61, 62, 63, 64, 65, 66, 67] (by decide +kernel) (by decide +kernel)
set_option maxRecDepth 20000 in
theorem gX4_has_X4_isNoSpan : GoodIn wsX4_has (wsV RX4 122 RX4 yX4_isNoSpan wsX4_isNoSpan) := goodIn_app (goodIn_of _ (by decide +kernel)) ggX4_has_X4_isNoSpan
set_option maxRecDepth 20000 in
theorem ggX4_has_X4_isOutside : GoodIn wsX4_has wsX4_isOutside := goodIn_r _ [16] (by decide +kernel) (by decide +kernel)
set_option maxRecDepth 20000 in
theorem gX4_has_X4_isOutside : GoodIn wsX4_has (va_wsS RX4 75 yX4_isOutside wsX4_isOutside) := goodIn_app (goodIn_of _ (by decide +kernel)) ggX4_has_X4_isOutside
set_option maxRecDepth 20000 in
theorem ggX4_has_X4_isNoDigitPair : GoodIn wsX4_has wsX4_isNoDigitPair := goodIn_r _ [19] (by decide +kernel) (by decide +kernel)
set_option maxRecDepth 20000 in
theorem gX4_has_X4_isNoDigitPair : GoodIn wsX4_has (va_wsS RX4 87 yX4_isNoDigitPair wsX4_isNoDigitPair) := goodIn_app (goodIn_of _ (by decide +kernel)) ggX4_has_X4_isNoDigitPair
set_option maxRecDepth 20000 in
theorem ggX4_has_X2_parse : GoodIn wsX4_has wsX2_parse := goodIn_r _ [23, 24, 25, 26, 21, 27, 28, 29, 30, 31, 32, 33, 12, 34, 35, 36, 37, 38, 39, 40, 41, 42, 43, 44, 45, 46, 47, 48, 49, 50, 51, 52, 53, 76, 68, 69, 70, 71, 72, 73, 74, 75] (by decide +kernel) (by decide +kernel)
set_option maxRecDepth 20000 in
theorem gX4_has_X2_parse_n129 : GoodIn wsX4_has (wsX2_parse) := ggX4_has_X2_parse
set_option maxRecDepth 20000 in
theorem ggX4_has_X2_pairsOf : GoodIn wsX4_has wsX2_pairsOf := goodIn_r _ [56, 32, 33, 12, 34, 76] (by decide +kernel) (by decide +kernel)
set_option maxRecDepth 20000 in
theorem gX4_has_X2_pairsOf_n133 : GoodIn wsX4_has (wsX2_pairsOf) := ggX4_has_X2_pairsOf
set_option maxRecDepth 20000 in
theorem ggX4_has_X4_pairOf : GoodIn wsX4_has wsX4_pairOf := goodIn_r _ [59] (by decide +kernel) (by decide +kernel)
set_option maxRecDepth 20000 in
theorem gX4_has_X4_pairOf : GoodIn wsX4_has (va_wsS RX4 67 yX4_pairOf wsX4_pairOf) := goodIn_app (goodIn_of _ (by decide +kernel)) ggX4_has_X4_pairOf
set_option maxRecDepth 20000 in
theorem ggX4_has_X4_hasPair : GoodIn wsX4_has wsX4_hasPair := goodIn_r _ [53] (by decide +kernel) (by decide +kernel)
set_option maxRecDepth 20000 in
theorem gX4_has_X4_hasPair : GoodIn wsX4_has (va_wsS RX4 136 yX4_hasPair wsX4_hasPair) := goodIn_app (goodIn_of _ (by decide +kernel)) ggX4_has_X4_hasPair
theorem dX4_has_0 : decode cX4_has 0 = .ok (.aload_n 0, 1) := by decide +kernel
theorem dX4_has_1 : decode cX4_has 1 = .ok (.iload_n 1, 1) := by decide +kernel
theorem dX4_has_2 : decode cX4_has 2 = .ok (.iload_n 2, 1) := by decide +kernel
theorem dX4_has_3 : decode cX4_has 3 = .ok (.invokevirtual 122, 3) := by decide +kernel
theorem dX4_has_6 : decode cX4_has 6 = .ok (.ifCond .ne 12, 3) := by decide +kernel
theorem dX4_has_9 : decode cX4_has 9 = .ok (.iload_n 3, 1) := by decide +kernel
theorem dX4_has_10 : decode cX4_has 10 = .ok (.bipush 8, 2) := by decide +kernel
theorem dX4_has_12 : decode cX4_has 12 = .ok (.invokestatic 75, 3) := by decide +kernel
theorem dX4_has_15 : decode cX4_has 15 = .ok (.ifCond .eq 13, 3) := by decide +kernel
theorem dX4_has_18 : decode cX4_has 18 = .ok (.new 79, 3) := by decide +kernel
theorem dX4_has_21 : decode cX4_has 21 = .ok (.dup, 1) := by decide +kernel
theorem dX4_has_22 : decode cX4_has 22 = .ok (.ldc 125, 2) := by decide +kernel
theorem dX4_has_24 : decode cX4_has 24 = .ok (.invokespecial 83, 3) := by decide +kernel
theorem dX4_has_27 : decode cX4_has 27 = .ok (.athrow, 1) := by decide +kernel
theorem dX4_has_28 : decode cX4_has 28 = .ok (.iload 4, 2) := by decide +kernel
theorem dX4_has_30 : decode cX4_has 30 = .ok (.invokestatic 87, 3) := by decide +kernel
theorem dX4_has_33 : decode cX4_has 33 = .ok (.ifCond .eq 13, 3) := by decide +kernel
theorem dX4_has_36 : decode cX4_has 36 = .ok (.new 52, 3) := by decide +kernel
theorem dX4_has_39 : decode cX4_has 39 = .ok (.dup, 1) := by decide +kernel
theorem dX4_has_40 : decode cX4_has 40 = .ok (.ldc 127, 2) := by decide +kernel
theorem dX4_has_42 : decode cX4_has 42 = .ok (.invokespecial 56, 3) := by decide +kernel
theorem dX4_has_45 : decode cX4_has 45 = .ok (.athrow, 1) := by decide +kernel
theorem dX4_has_46 : decode cX4_has 46 = .ok (.aload_n 0, 1) := by decide +kernel
theorem dX4_has_47 : decode cX4_has 47 = .ok (.getfield 30, 3) := by decide +kernel
theorem dX4_has_50 : decode cX4_has 50 = .ok (.aload_n 0, 1) := by decide +kernel
theorem dX4_has_51 : decode cX4_has 51 = .ok (.getfield 12, 3) := by decide +kernel
theorem dX4_has_54 : decode cX4_has 54 = .ok (.aload_n 0, 1) := by decide +kernel
theorem dX4_has_55 : decode cX4_has 55 = .ok (.getfield 16, 3) := by decide +kernel
theorem dX4_has_58 : decode cX4_has 58 = .ok (.aload_n 0, 1) := by decide +kernel
theorem dX4_has_59 : decode cX4_has 59 = .ok (.getfield 20, 3) := by decide +kernel
theorem dX4_has_62 : decode cX4_has 62 = .ok (.aload_n 0, 1) := by decide +kernel
theorem dX4_has_63 : decode cX4_has 63 = .ok (.getfield 12, 3) := by decide +kernel
theorem dX4_has_66 : decode cX4_has 66 = .ok (.getfield 93, 3) := by decide +kernel
theorem dX4_has_69 : decode cX4_has 69 = .ok (.invokevirtual 129, 3) := by decide +kernel
theorem dX4_has_72 : decode cX4_has 72 = .ok (.aload_n 0, 1) := by decide +kernel
theorem dX4_has_73 : decode cX4_has 73 = .ok (.getfield 30, 3) := by decide +kernel
theorem dX4_has_76 : decode cX4_has 76 = .ok (.iload_n 1, 1) := by decide +kernel
theorem dX4_has_77 : decode cX4_has 77 = .ok (.iload_n 2, 1) := by decide +kernel
theorem dX4_has_78 : decode cX4_has 78 = .ok (.iload_n 3, 1) := by decide +kernel
theorem dX4_has_79 : decode cX4_has 79 = .ok (.invokevirtual 133, 3) := by decide +kernel
theorem dX4_has_82 : decode cX4_has 82 = .ok (.istore 5, 2) := by decide +kernel
theorem dX4_has_84 : decode cX4_has 84 = .ok (.iload 5, 2) := by decide +kernel
theorem dX4_has_86 : decode cX4_has 86 = .ok (.iload 4, 2) := by decide +kernel
theorem dX4_has_88 : decode cX4_has 88 = .ok (.bipush 10, 2) := by decide +kernel
theorem dX4_has_90 : decode cX4_has 90 = .ok (.idiv, 1) := by decide +kernel
theorem dX4_has_91 : decode cX4_has 91 = .ok (.iload 4, 2) := by decide +kernel
theorem dX4_has_93 : decode cX4_has 93 = .ok (.bipush 10, 2) := by decide +kernel
theorem dX4_has_95 : decode cX4_has 95 = .ok (.irem, 1) := by decide +kernel
theorem dX4_has_96 : decode cX4_has 96 = .ok (.invokestatic 67, 3) := by decide +kernel
theorem dX4_has_99 : decode cX4_has 99 = .ok (.invokestatic 136, 3) := by decide +kernel
theorem dX4_has_102 : decode cX4_has 102 = .ok (.ireturn, 1) := by decide +kernel
set_option maxRecDepth 20000 in
theorem ggX4_level_X2_parse : GoodIn wsX4_level wsX2_parse := goodIn_r _ [8, 9, 10, 11, 6, 12, 13, 14, 15, 16, 17, 18, 19, 20, 21, 22, 23, 24, 25, 26, 27, 28, 29, 30, 31, 32, 33, 34, 35, 36, 37, 38, 39, 62, 54, 55, 56, 57, 58, 59, 60, 61] (by decide +kernel) (by decide +kernel)
set_option maxRecDepth 20000 in
theorem gX4_level_X2_parse_n129 : GoodIn wsX4_level (wsX2_parse) := ggX4_level_X2_parse
set_option maxRecDepth 20000 in
theorem ggX4_level_X2_holdsSentence : GoodIn wsX4_level wsX2_holdsSentence := goodIn_r _ [42, 43, 44, 45, 6, 46, 17, 18, 19, 20, 62] (by decide +kernel) (by decide +kernel)
set_option maxRecDepth 20000 in
theorem gX4_level_X2_holdsSentence_n139 : GoodIn wsX4_level (wsX2_holdsSentence) := ggX4_level_X2_holdsSentence
theorem dX4_level_0 : decode cX4_level 0 = .ok (.iconst 0, 1) := by decide +kernel
theorem dX4_level_1 : decode cX4_level 1 = .ok (.istore_n 1, 1) := by decide +kernel
theorem dX4_level_2 : decode cX4_level 2 = .ok (.iload_n 1, 1) := by decide +kernel
theorem dX4_level_3 : decode cX4_level 3 = .ok (.aload_n 0, 1) := by decide +kernel
theorem dX4_level_4 : decode cX4_level 4 = .ok (.getfield 12, 3) := by decide +kernel
theorem dX4_level_7 : decode cX4_level 7 = .ok (.getfield 93, 3) := by decide +kernel
theorem dX4_level_10 : decode cX4_level 10 = .ok (.if_icmp .gt 45, 3) := by decide +kernel
theorem dX4_level_13 : decode cX4_level 13 = .ok (.aload_n 0, 1) := by decide +kernel
theorem dX4_level_14 : decode cX4_level 14 = .ok (.getfield 30, 3) := by decide +kernel
theorem dX4_level_17 : decode cX4_level 17 = .ok (.aload_n 0, 1) := by decide +kernel
theorem dX4_level_18 : decode cX4_level 18 = .ok (.getfield 12, 3) := by decide +kernel
theorem dX4_level_21 : decode cX4_level 21 = .ok (.aload_n 0, 1) := by decide +kernel
theorem dX4_level_22 : decode cX4_level 22 = .ok (.getfield 16, 3) := by decide +kernel
theorem dX4_level_25 : decode cX4_level 25 = .ok (.aload_n 0, 1) := by decide +kernel
theorem dX4_level_26 : decode cX4_level 26 = .ok (.getfield 20, 3) := by decide +kernel
theorem dX4_level_29 : decode cX4_level 29 = .ok (.iload_n 1, 1) := by decide +kernel
theorem dX4_level_30 : decode cX4_level 30 = .ok (.invokevirtual 129, 3) := by decide +kernel
theorem dX4_level_33 : decode cX4_level 33 = .ok (.aload_n 0, 1) := by decide +kernel
theorem dX4_level_34 : decode cX4_level 34 = .ok (.getfield 30, 3) := by decide +kernel
theorem dX4_level_37 : decode cX4_level 37 = .ok (.aload_n 0, 1) := by decide +kernel
theorem dX4_level_38 : decode cX4_level 38 = .ok (.getfield 20, 3) := by decide +kernel
theorem dX4_level_41 : decode cX4_level 41 = .ok (.invokevirtual 139, 3) := by decide +kernel
theorem dX4_level_44 : decode cX4_level 44 = .ok (.ifCond .eq 5, 3) := by decide +kernel
theorem dX4_level_47 : decode cX4_level 47 = .ok (.iload_n 1, 1) := by decide +kernel
theorem dX4_level_48 : decode cX4_level 48 = .ok (.ireturn, 1) := by decide +kernel
theorem dX4_level_49 : decode cX4_level 49 = .ok (.iinc 1 1, 3) := by decide +kernel
theorem dX4_level_52 : decode cX4_level 52 = .ok (.goto (-50), 3) := by decide +kernel
theorem dX4_level_55 : decode cX4_level 55 = .ok (.iconst (-1), 1) := by decide +kernel
theorem dX4_level_56 : decode cX4_level 56 = .ok (.ireturn, 1) := by decide +kernel
set_option maxRecDepth 20000 in
theorem ggX4_sentences_X4_isNoLength : GoodIn wsX4_sentences wsX4_isNoLength := goodIn_r _ [6] (by decide +kernel) (by decide +kernel)
set_option maxRecDepth 20000 in
theorem gX4_sentences_X4_isNoLength : GoodIn wsX4_sentences (va_wsS RX4 142 yX4_isNoLength wsX4_isNoLength) := goodIn_app (goodIn_of _ (by decide +kernel)) ggX4_sentences_X4_isNoLength
set_option maxRecDepth 20000 in
theorem ggX4_sentences_X4_rowsOfLength : GoodIn wsX4_sentences wsX4_rowsOfLength := goodIn_r _ [10, 11, 62, 63, 64, 65, 66, 67, 68, 69, 70, 71, 72, 73, 74, 75, 76] (by decide +kernel) (by decide +kernel)
set_option maxRecDepth 20000 in
theorem gX4_sentences_X4_rowsOfLength : GoodIn wsX4_sentences (wsV RX4 147 RX4 yX4_rowsOfLength wsX4_rowsOfLength) := goodIn_app (goodIn_of _ (by decide +kernel)) ggX4_sentences_X4_rowsOfLength
set_option maxRecDepth 20000 in
theorem ggX4_sentences_X4_makeSentences : GoodIn wsX4_sentences wsX4_makeSentences := goodIn_r _ [15, 16, 11, 17, 7, 8, 9, 5, 10, 18, 19, 20, 21, 22, 23, 24, 25, 26, 27, 28, 29, 30, 31, 32, 33, 34, 35, 36, 37, 38, 39, 40, 41, 42, 43, 44, 45, 46, 47, 48, 49, 50, 51, 52, 53, 54, 55, 56, 57, 58, 59, 60, 61, 62, 63, 64, 65, 66, 67, 68, 69, 70, 71, 72, 73, 74, 75, 76, 77] (by decide +kernel) (by decide +kernel)
set_option maxRecDepth 20000 in
theorem gX4_sentences_X4_makeSentences : GoodIn wsX4_sentences (wsV RX4 150 RX4 yX4_makeSentences wsX4_makeSentences) := goodIn_app (goodIn_of _ (by decide +kernel)) ggX4_sentences_X4_makeSentences
theorem dX4_sentences_0 : decode cX4_sentences 0 = .ok (.iload_n 1, 1) := by decide +kernel
theorem dX4_sentences_1 : decode cX4_sentences 1 = .ok (.invokestatic 142, 3) := by decide +kernel
theorem dX4_sentences_4 : decode cX4_sentences 4 = .ok (.ifCond .eq 13, 3) := by decide +kernel
theorem dX4_sentences_7 : decode cX4_sentences 7 = .ok (.new 52, 3) := by decide +kernel
theorem dX4_sentences_10 : decode cX4_sentences 10 = .ok (.dup, 1) := by decide +kernel
theorem dX4_sentences_11 : decode cX4_sentences 11 = .ok (.ldc 145, 2) := by decide +kernel
theorem dX4_sentences_13 : decode cX4_sentences 13 = .ok (.invokespecial 56, 3) := by decide +kernel
theorem dX4_sentences_16 : decode cX4_sentences 16 = .ok (.athrow, 1) := by decide +kernel
theorem dX4_sentences_17 : decode cX4_sentences 17 = .ok (.aload_n 0, 1) := by decide +kernel
theorem dX4_sentences_18 : decode cX4_sentences 18 = .ok (.iload_n 1, 1) := by decide +kernel
theorem dX4_sentences_19 : decode cX4_sentences 19 = .ok (.aload_n 0, 1) := by decide +kernel
theorem dX4_sentences_20 : decode cX4_sentences 20 = .ok (.iload_n 1, 1) := by decide +kernel
theorem dX4_sentences_21 : decode cX4_sentences 21 = .ok (.invokevirtual 147, 3) := by decide +kernel
theorem dX4_sentences_24 : decode cX4_sentences 24 = .ok (.invokevirtual 150, 3) := by decide +kernel
theorem dX4_sentences_27 : decode cX4_sentences 27 = .ok (.ireturn, 1) := by decide +kernel
set_option maxRecDepth 20000 in
theorem ggX4_sentence_X4_isNoLength : GoodIn wsX4_sentence wsX4_isNoLength := goodIn_r _ [6] (by decide +kernel) (by decide +kernel)
set_option maxRecDepth 20000 in
theorem gX4_sentence_X4_isNoLength : GoodIn wsX4_sentence (va_wsS RX4 142 yX4_isNoLength wsX4_isNoLength) := goodIn_app (goodIn_of _ (by decide +kernel)) ggX4_sentence_X4_isNoLength
set_option maxRecDepth 20000 in
theorem ggX4_sentence_X4_makeSentences : GoodIn wsX4_sentence wsX4_makeSentences := goodIn_r _ [10, 11, 12, 13, 14, 15, 16, 5, 17, 18, 19, 20, 21, 22, 23, 24, 25, 26, 27, 28, 29, 30, 31, 32, 33, 34, 35, 36, 37, 38, 39, 40, 41, 42, 43, 44, 45, 46, 47, 48, 49, 50, 51, 52, 53, 54, 55, 56, 57, 58, 59, 60, 61, 66, 67, 68, 69, 70, 71, 72, 73, 74, 75, 76, 77, 78, 79, 80, 81] (by decide +kernel) (by decide +kernel)
set_option maxRecDepth 20000 in
theorem gX4_sentence_X4_makeSentences : GoodIn wsX4_sentence (wsV RX4 150 RX4 yX4_makeSentences wsX4_makeSentences) := goodIn_app (goodIn_of _ (by decide +kernel)) ggX4_sentence_X4_makeSentences
set_option maxRecDepth 20000 in
theorem ggX4_sentence_X4_trialAsDigits : GoodIn wsX4_sentence wsX4_trialAsDigits := goodIn_r _ [65, 13, 66, 67, 68, 69, 70, 71, 72] (by decide +kernel) (by decide +kernel)
set_option maxRecDepth 20000 in
theorem gX4_sentence_X4_trialAsDigits : GoodIn wsX4_sentence (wsV RX4 155 RX4 yX4_trialAsDigits wsX4_trialAsDigits) := goodIn_app (goodIn_of _ (by decide +kernel)) ggX4_sentence_X4_trialAsDigits
theorem dX4_sentence_0 : decode cX4_sentence 0 = .ok (.iload_n 1, 1) := by decide +kernel
theorem dX4_sentence_1 : decode cX4_sentence 1 = .ok (.invokestatic 142, 3) := by decide +kernel
theorem dX4_sentence_4 : decode cX4_sentence 4 = .ok (.ifCond .ne 7, 3) := by decide +kernel
theorem dX4_sentence_7 : decode cX4_sentence 7 = .ok (.iload_n 2, 1) := by decide +kernel
theorem dX4_sentence_8 : decode cX4_sentence 8 = .ok (.ifCond .ge 13, 3) := by decide +kernel
theorem dX4_sentence_11 : decode cX4_sentence 11 = .ok (.new 52, 3) := by decide +kernel
theorem dX4_sentence_14 : decode cX4_sentence 14 = .ok (.dup, 1) := by decide +kernel
theorem dX4_sentence_15 : decode cX4_sentence 15 = .ok (.ldc 153, 2) := by decide +kernel
theorem dX4_sentence_17 : decode cX4_sentence 17 = .ok (.invokespecial 56, 3) := by decide +kernel
theorem dX4_sentence_20 : decode cX4_sentence 20 = .ok (.athrow, 1) := by decide +kernel
theorem dX4_sentence_21 : decode cX4_sentence 21 = .ok (.aload_n 0, 1) := by decide +kernel
theorem dX4_sentence_22 : decode cX4_sentence 22 = .ok (.iload_n 1, 1) := by decide +kernel
theorem dX4_sentence_23 : decode cX4_sentence 23 = .ok (.iload_n 2, 1) := by decide +kernel
theorem dX4_sentence_24 : decode cX4_sentence 24 = .ok (.invokevirtual 150, 3) := by decide +kernel
theorem dX4_sentence_27 : decode cX4_sentence 27 = .ok (.iload_n 2, 1) := by decide +kernel
theorem dX4_sentence_28 : decode cX4_sentence 28 = .ok (.if_icmp .le 11, 3) := by decide +kernel
theorem dX4_sentence_31 : decode cX4_sentence 31 = .ok (.aload_n 0, 1) := by decide +kernel
theorem dX4_sentence_32 : decode cX4_sentence 32 = .ok (.iload_n 1, 1) := by decide +kernel
theorem dX4_sentence_33 : decode cX4_sentence 33 = .ok (.invokevirtual 155, 3) := by decide +kernel
theorem dX4_sentence_36 : decode cX4_sentence 36 = .ok (.goto 4, 3) := by decide +kernel
theorem dX4_sentence_39 : decode cX4_sentence 39 = .ok (.iconst (-1), 1) := by decide +kernel
theorem dX4_sentence_40 : decode cX4_sentence 40 = .ok (.ireturn, 1) := by decide +kernel
set_option maxRecDepth 20000 in
theorem ggX4_share_X4_isNoLength : GoodIn wsX4_share wsX4_isNoLength := goodIn_r _ [6] (by decide +kernel) (by decide +kernel)
set_option maxRecDepth 20000 in
theorem gX4_share_X4_isNoLength : GoodIn wsX4_share (va_wsS RX4 142 yX4_isNoLength wsX4_isNoLength) := goodIn_app (goodIn_of _ (by decide +kernel)) ggX4_share_X4_isNoLength
set_option maxRecDepth 20000 in
theorem ggX4_share_X4_rowsOfLength : GoodIn wsX4_share wsX4_rowsOfLength := goodIn_r _ [10, 11, 62, 63, 64, 65, 66, 67, 68, 69, 70, 71, 72, 73, 74, 75, 76] (by decide +kernel) (by decide +kernel)
set_option maxRecDepth 20000 in
theorem gX4_share_X4_rowsOfLength : GoodIn wsX4_share (wsV RX4 147 RX4 yX4_rowsOfLength wsX4_rowsOfLength) := goodIn_app (goodIn_of _ (by decide +kernel)) ggX4_share_X4_rowsOfLength
set_option maxRecDepth 20000 in
theorem ggX4_share_X4_makeSentences : GoodIn wsX4_share wsX4_makeSentences := goodIn_r _ [15, 16, 11, 17, 7, 8, 9, 5, 10, 18, 19, 20, 21, 22, 23, 24, 25, 26, 27, 28, 29, 30, 31, 32, 33, 34, 35, 36, 37, 38, 39, 40, 41, 42, 43, 44, 45, 46, 47, 48, 49, 50, 51, 52, 53, 54, 55, 56, 57, 58, 59, 60, 61, 62, 63, 64, 65, 66, 67, 68, 69, 70, 71, 72, 73, 74, 75, 76, 77] (by decide +kernel) (by decide +kernel)
set_option maxRecDepth 20000 in
theorem gX4_share_X4_makeSentences : GoodIn wsX4_share (wsV RX4 150 RX4 yX4_makeSentences wsX4_makeSentences) := goodIn_app (goodIn_of _ (by decide +kernel)) ggX4_share_X4_makeSentences
theorem dX4_share_0 : decode cX4_share 0 = .ok (.iload_n 1, 1) := by decide +kernel
theorem dX4_share_1 : decode cX4_share 1 = .ok (.invokestatic 142, 3) := by decide +kernel
theorem dX4_share_4 : decode cX4_share 4 = .ok (.ifCond .eq 13, 3) := by decide +kernel
theorem dX4_share_7 : decode cX4_share 7 = .ok (.new 52, 3) := by decide +kernel
theorem dX4_share_10 : decode cX4_share 10 = .ok (.dup, 1) := by decide +kernel
theorem dX4_share_11 : decode cX4_share 11 = .ok (.ldc 145, 2) := by decide +kernel
theorem dX4_share_13 : decode cX4_share 13 = .ok (.invokespecial 56, 3) := by decide +kernel
theorem dX4_share_16 : decode cX4_share 16 = .ok (.athrow, 1) := by decide +kernel
theorem dX4_share_17 : decode cX4_share 17 = .ok (.aload_n 0, 1) := by decide +kernel
theorem dX4_share_18 : decode cX4_share 18 = .ok (.iload_n 1, 1) := by decide +kernel
theorem dX4_share_19 : decode cX4_share 19 = .ok (.invokevirtual 147, 3) := by decide +kernel
theorem dX4_share_22 : decode cX4_share 22 = .ok (.istore_n 2, 1) := by decide +kernel
theorem dX4_share_23 : decode cX4_share 23 = .ok (.iload_n 2, 1) := by decide +kernel
theorem dX4_share_24 : decode cX4_share 24 = .ok (.ifCond .ne 5, 3) := by decide +kernel
theorem dX4_share_27 : decode cX4_share 27 = .ok (.fconst 0, 1) := by decide +kernel
theorem dX4_share_28 : decode cX4_share 28 = .ok (.freturn, 1) := by decide +kernel
theorem dX4_share_29 : decode cX4_share 29 = .ok (.aload_n 0, 1) := by decide +kernel
theorem dX4_share_30 : decode cX4_share 30 = .ok (.iload_n 1, 1) := by decide +kernel
theorem dX4_share_31 : decode cX4_share 31 = .ok (.iload_n 2, 1) := by decide +kernel
theorem dX4_share_32 : decode cX4_share 32 = .ok (.invokevirtual 150, 3) := by decide +kernel
theorem dX4_share_35 : decode cX4_share 35 = .ok (.i2f, 1) := by decide +kernel
theorem dX4_share_36 : decode cX4_share 36 = .ok (.iload_n 2, 1) := by decide +kernel
theorem dX4_share_37 : decode cX4_share 37 = .ok (.i2f, 1) := by decide +kernel
theorem dX4_share_38 : decode cX4_share 38 = .ok (.fdiv, 1) := by decide +kernel
theorem dX4_share_39 : decode cX4_share 39 = .ok (.freturn, 1) := by decide +kernel
set_option maxRecDepth 20000 in
theorem ggX4_spoil_X4_isOutside : GoodIn wsX4_spoil wsX4_isOutside := goodIn_r _ [9] (by decide +kernel) (by decide +kernel)
set_option maxRecDepth 20000 in
theorem gX4_spoil_X4_isOutside : GoodIn wsX4_spoil (va_wsS RX4 75 yX4_isOutside wsX4_isOutside) := goodIn_app (goodIn_of _ (by decide +kernel)) ggX4_spoil_X4_isOutside
set_option maxRecDepth 20000 in
theorem ggX4_spoil_X4_isSentenceFreeAt : GoodIn wsX4_spoil wsX4_isSentenceFreeAt := goodIn_r _ [13, 3, 14, 4, 5, 15, 16, 17, 18, 19, 20, 21, 22, 23, 24, 8, 25, 26, 27, 28, 29, 30, 31, 32, 33, 34, 35, 36, 37, 38, 39, 40, 41, 42, 43, 44, 45, 46, 47, 48, 49, 50, 51, 52, 53, 68, 69, 70, 71, 72, 73, 74, 75, 76, 77, 78, 79, 80, 81, 82, 83] (by decide +kernel) (by decide +kernel)
set_option maxRecDepth 20000 in
theorem gX4_spoil_X4_isSentenceFreeAt : GoodIn wsX4_spoil (wsV RX4 158 RX4 yX4_isSentenceFreeAt wsX4_isSentenceFreeAt) := goodIn_app (goodIn_of _ (by decide +kernel)) ggX4_spoil_X4_isSentenceFreeAt
set_option maxRecDepth 20000 in
theorem ggX4_spoil_X4_isSentenceWith : GoodIn wsX4_spoil wsX4_isSentenceWith := goodIn_r _ [57, 5, 58, 3, 59, 60, 61, 62, 14, 4, 63, 16, 64, 65, 66, 30, 31, 32, 19, 20, 21, 22, 23, 24, 8, 25, 26, 27, 28, 29, 67, 33, 34, 35, 36, 37, 38, 39, 40, 41, 42, 43, 44, 45, 46, 47, 48, 49, 50, 51, 52, 53, 68, 69, 70, 71, 72, 73, 74, 75, 76, 77, 78, 79, 80, 81, 82, 83] (by decide +kernel) (by decide +kernel)
set_option maxRecDepth 20000 in
theorem gX4_spoil_X4_isSentenceWith : GoodIn wsX4_spoil (wsV RX4 161 RX4 yX4_isSentenceWith wsX4_isSentenceWith) := goodIn_app (goodIn_of _ (by decide +kernel)) ggX4_spoil_X4_isSentenceWith
theorem dX4_spoil_0 : decode cX4_spoil 0 = .ok (.iload_n 1, 1) := by decide +kernel
theorem dX4_spoil_1 : decode cX4_spoil 1 = .ok (.aload_n 0, 1) := by decide +kernel
theorem dX4_spoil_2 : decode cX4_spoil 2 = .ok (.getfield 20, 3) := by decide +kernel
theorem dX4_spoil_5 : decode cX4_spoil 5 = .ok (.invokestatic 75, 3) := by decide +kernel
theorem dX4_spoil_8 : decode cX4_spoil 8 = .ok (.ifCond .eq 13, 3) := by decide +kernel
theorem dX4_spoil_11 : decode cX4_spoil 11 = .ok (.new 79, 3) := by decide +kernel
theorem dX4_spoil_14 : decode cX4_spoil 14 = .ok (.dup, 1) := by decide +kernel
theorem dX4_spoil_15 : decode cX4_spoil 15 = .ok (.ldc 108, 2) := by decide +kernel
theorem dX4_spoil_17 : decode cX4_spoil 17 = .ok (.invokespecial 83, 3) := by decide +kernel
theorem dX4_spoil_20 : decode cX4_spoil 20 = .ok (.athrow, 1) := by decide +kernel
theorem dX4_spoil_21 : decode cX4_spoil 21 = .ok (.aload_n 0, 1) := by decide +kernel
theorem dX4_spoil_22 : decode cX4_spoil 22 = .ok (.iconst (-1), 1) := by decide +kernel
theorem dX4_spoil_23 : decode cX4_spoil 23 = .ok (.iconst (-1), 1) := by decide +kernel
theorem dX4_spoil_24 : decode cX4_spoil 24 = .ok (.invokevirtual 158, 3) := by decide +kernel
theorem dX4_spoil_27 : decode cX4_spoil 27 = .ok (.ifCond .ne 5, 3) := by decide +kernel
theorem dX4_spoil_30 : decode cX4_spoil 30 = .ok (.iconst (-1), 1) := by decide +kernel
theorem dX4_spoil_31 : decode cX4_spoil 31 = .ok (.ireturn, 1) := by decide +kernel
theorem dX4_spoil_32 : decode cX4_spoil 32 = .ok (.aload_n 0, 1) := by decide +kernel
theorem dX4_spoil_33 : decode cX4_spoil 33 = .ok (.getfield 12, 3) := by decide +kernel
theorem dX4_spoil_36 : decode cX4_spoil 36 = .ok (.getfield 84, 3) := by decide +kernel
theorem dX4_spoil_39 : decode cX4_spoil 39 = .ok (.aload_n 0, 1) := by decide +kernel
theorem dX4_spoil_40 : decode cX4_spoil 40 = .ok (.getfield 16, 3) := by decide +kernel
theorem dX4_spoil_43 : decode cX4_spoil 43 = .ok (.iload_n 1, 1) := by decide +kernel
theorem dX4_spoil_44 : decode cX4_spoil 44 = .ok (.iaload, 1) := by decide +kernel
theorem dX4_spoil_45 : decode cX4_spoil 45 = .ok (.iaload, 1) := by decide +kernel
theorem dX4_spoil_46 : decode cX4_spoil 46 = .ok (.istore_n 2, 1) := by decide +kernel
theorem dX4_spoil_47 : decode cX4_spoil 47 = .ok (.iconst 0, 1) := by decide +kernel
theorem dX4_spoil_48 : decode cX4_spoil 48 = .ok (.istore_n 3, 1) := by decide +kernel
theorem dX4_spoil_49 : decode cX4_spoil 49 = .ok (.iload_n 3, 1) := by decide +kernel
theorem dX4_spoil_50 : decode cX4_spoil 50 = .ok (.aload_n 0, 1) := by decide +kernel
theorem dX4_spoil_51 : decode cX4_spoil 51 = .ok (.getfield 12, 3) := by decide +kernel
theorem dX4_spoil_54 : decode cX4_spoil 54 = .ok (.getfield 59, 3) := by decide +kernel
theorem dX4_spoil_57 : decode cX4_spoil 57 = .ok (.if_icmp .ge 33, 3) := by decide +kernel
theorem dX4_spoil_60 : decode cX4_spoil 60 = .ok (.aload_n 0, 1) := by decide +kernel
theorem dX4_spoil_61 : decode cX4_spoil 61 = .ok (.getfield 12, 3) := by decide +kernel
theorem dX4_spoil_64 : decode cX4_spoil 64 = .ok (.getfield 84, 3) := by decide +kernel
theorem dX4_spoil_67 : decode cX4_spoil 67 = .ok (.iload_n 3, 1) := by decide +kernel
theorem dX4_spoil_68 : decode cX4_spoil 68 = .ok (.iaload, 1) := by decide +kernel
theorem dX4_spoil_69 : decode cX4_spoil 69 = .ok (.iload_n 2, 1) := by decide +kernel
theorem dX4_spoil_70 : decode cX4_spoil 70 = .ok (.if_icmp .ne 14, 3) := by decide +kernel
theorem dX4_spoil_73 : decode cX4_spoil 73 = .ok (.aload_n 0, 1) := by decide +kernel
theorem dX4_spoil_74 : decode cX4_spoil 74 = .ok (.iload_n 1, 1) := by decide +kernel
theorem dX4_spoil_75 : decode cX4_spoil 75 = .ok (.iload_n 3, 1) := by decide +kernel
theorem dX4_spoil_76 : decode cX4_spoil 76 = .ok (.invokevirtual 161, 3) := by decide +kernel
theorem dX4_spoil_79 : decode cX4_spoil 79 = .ok (.ifCond .ne 5, 3) := by decide +kernel
theorem dX4_spoil_82 : decode cX4_spoil 82 = .ok (.iload_n 3, 1) := by decide +kernel
theorem dX4_spoil_83 : decode cX4_spoil 83 = .ok (.ireturn, 1) := by decide +kernel
theorem dX4_spoil_84 : decode cX4_spoil 84 = .ok (.iinc 3 1, 3) := by decide +kernel
theorem dX4_spoil_87 : decode cX4_spoil 87 = .ok (.goto (-38), 3) := by decide +kernel
theorem dX4_spoil_90 : decode cX4_spoil 90 = .ok (.iconst (-1), 1) := by decide +kernel
theorem dX4_spoil_91 : decode cX4_spoil 91 = .ok (.ireturn, 1) := by decide +kernel
set_option maxRecDepth 20000 in
theorem ggX4_changes_X4_isSentenceFreeAt : GoodIn wsX4_changes wsX4_isSentenceFreeAt := goodIn_r _ [6, 1, 7, 8, 9, 10, 11, 12, 13, 14, 15, 16, 17, 18, 19, 5, 20, 21, 22, 23, 24, 25, 26, 27, 28, 29, 30, 31, 32, 33, 34, 35, 36, 37, 38, 39, 40, 41, 42, 43, 44, 45, 46, 47, 48, 49, 50, 51, 52, 53, 54, 55, 56, 57, 58, 59, 60, 61, 62, 63, 64] (by decide +kernel) (by decide +kernel)
set_option maxRecDepth 20000 in
theorem gX4_changes_X4_isSentenceFreeAt : GoodIn wsX4_changes (wsV RX4 158 RX4 yX4_isSentenceFreeAt wsX4_isSentenceFreeAt) := goodIn_app (goodIn_of _ (by decide +kernel)) ggX4_changes_X4_isSentenceFreeAt
theorem dX4_changes_0 : decode cX4_changes 0 = .ok (.aload_n 0, 1) := by decide +kernel
theorem dX4_changes_1 : decode cX4_changes 1 = .ok (.iconst (-1), 1) := by decide +kernel
theorem dX4_changes_2 : decode cX4_changes 2 = .ok (.iconst (-1), 1) := by decide +kernel
theorem dX4_changes_3 : decode cX4_changes 3 = .ok (.invokevirtual 158, 3) := by decide +kernel
theorem dX4_changes_6 : decode cX4_changes 6 = .ok (.ifCond .eq 5, 3) := by decide +kernel
theorem dX4_changes_9 : decode cX4_changes 9 = .ok (.iconst 0, 1) := by decide +kernel
theorem dX4_changes_10 : decode cX4_changes 10 = .ok (.ireturn, 1) := by decide +kernel
theorem dX4_changes_11 : decode cX4_changes 11 = .ok (.iconst 0, 1) := by decide +kernel
theorem dX4_changes_12 : decode cX4_changes 12 = .ok (.istore_n 1, 1) := by decide +kernel
theorem dX4_changes_13 : decode cX4_changes 13 = .ok (.iload_n 1, 1) := by decide +kernel
theorem dX4_changes_14 : decode cX4_changes 14 = .ok (.aload_n 0, 1) := by decide +kernel
theorem dX4_changes_15 : decode cX4_changes 15 = .ok (.getfield 20, 3) := by decide +kernel
theorem dX4_changes_18 : decode cX4_changes 18 = .ok (.if_icmp .ge 20, 3) := by decide +kernel
theorem dX4_changes_21 : decode cX4_changes 21 = .ok (.aload_n 0, 1) := by decide +kernel
theorem dX4_changes_22 : decode cX4_changes 22 = .ok (.iload_n 1, 1) := by decide +kernel
theorem dX4_changes_23 : decode cX4_changes 23 = .ok (.iconst (-1), 1) := by decide +kernel
theorem dX4_changes_24 : decode cX4_changes 24 = .ok (.invokevirtual 158, 3) := by decide +kernel
theorem dX4_changes_27 : decode cX4_changes 27 = .ok (.ifCond .eq 5, 3) := by decide +kernel
theorem dX4_changes_30 : decode cX4_changes 30 = .ok (.iconst 1, 1) := by decide +kernel
theorem dX4_changes_31 : decode cX4_changes 31 = .ok (.ireturn, 1) := by decide +kernel
theorem dX4_changes_32 : decode cX4_changes 32 = .ok (.iinc 1 1, 3) := by decide +kernel
theorem dX4_changes_35 : decode cX4_changes 35 = .ok (.goto (-22), 3) := by decide +kernel
theorem dX4_changes_38 : decode cX4_changes 38 = .ok (.iconst 0, 1) := by decide +kernel
theorem dX4_changes_39 : decode cX4_changes 39 = .ok (.istore_n 1, 1) := by decide +kernel
theorem dX4_changes_40 : decode cX4_changes 40 = .ok (.iload_n 1, 1) := by decide +kernel
theorem dX4_changes_41 : decode cX4_changes 41 = .ok (.aload_n 0, 1) := by decide +kernel
theorem dX4_changes_42 : decode cX4_changes 42 = .ok (.getfield 20, 3) := by decide +kernel
theorem dX4_changes_45 : decode cX4_changes 45 = .ok (.if_icmp .ge 38, 3) := by decide +kernel
theorem dX4_changes_48 : decode cX4_changes 48 = .ok (.iload_n 1, 1) := by decide +kernel
theorem dX4_changes_49 : decode cX4_changes 49 = .ok (.iconst 1, 1) := by decide +kernel
theorem dX4_changes_50 : decode cX4_changes 50 = .ok (.iadd, 1) := by decide +kernel
theorem dX4_changes_51 : decode cX4_changes 51 = .ok (.istore_n 2, 1) := by decide +kernel
theorem dX4_changes_52 : decode cX4_changes 52 = .ok (.iload_n 2, 1) := by decide +kernel
theorem dX4_changes_53 : decode cX4_changes 53 = .ok (.aload_n 0, 1) := by decide +kernel
theorem dX4_changes_54 : decode cX4_changes 54 = .ok (.getfield 20, 3) := by decide +kernel
theorem dX4_changes_57 : decode cX4_changes 57 = .ok (.if_icmp .ge 20, 3) := by decide +kernel
theorem dX4_changes_60 : decode cX4_changes 60 = .ok (.aload_n 0, 1) := by decide +kernel
theorem dX4_changes_61 : decode cX4_changes 61 = .ok (.iload_n 1, 1) := by decide +kernel
theorem dX4_changes_62 : decode cX4_changes 62 = .ok (.iload_n 2, 1) := by decide +kernel
theorem dX4_changes_63 : decode cX4_changes 63 = .ok (.invokevirtual 158, 3) := by decide +kernel
theorem dX4_changes_66 : decode cX4_changes 66 = .ok (.ifCond .eq 5, 3) := by decide +kernel
theorem dX4_changes_69 : decode cX4_changes 69 = .ok (.iconst 2, 1) := by decide +kernel
theorem dX4_changes_70 : decode cX4_changes 70 = .ok (.ireturn, 1) := by decide +kernel
theorem dX4_changes_71 : decode cX4_changes 71 = .ok (.iinc 2 1, 3) := by decide +kernel
theorem dX4_changes_74 : decode cX4_changes 74 = .ok (.goto (-22), 3) := by decide +kernel
theorem dX4_changes_77 : decode cX4_changes 77 = .ok (.iinc 1 1, 3) := by decide +kernel
theorem dX4_changes_80 : decode cX4_changes 80 = .ok (.goto (-40), 3) := by decide +kernel
theorem dX4_changes_83 : decode cX4_changes 83 = .ok (.iconst (-1), 1) := by decide +kernel
theorem dX4_changes_84 : decode cX4_changes 84 = .ok (.ireturn, 1) := by decide +kernel
set_option maxRecDepth 20000 in
theorem ggX4_correction_X4_isSentenceWith : GoodIn wsX4_correction wsX4_isSentenceWith := goodIn_r _ [10, 5, 11, 3, 12, 13, 14, 15, 16, 4, 17, 18, 19, 20, 21, 22, 23, 24, 25, 26, 27, 28, 29, 30, 9, 31, 32, 33, 34, 35, 36, 37, 38, 39, 40, 41, 42, 43, 44, 45, 46, 47, 48, 49, 50, 51, 52, 53, 54, 55, 56, 57, 58, 59, 60, 61, 62, 63, 64, 65, 66, 67, 68, 69, 70, 71, 72, 73] (by decide +kernel) (by decide +kernel)
set_option maxRecDepth 20000 in
theorem gX4_correction_X4_isSentenceWith : GoodIn wsX4_correction (wsV RX4 161 RX4 yX4_isSentenceWith wsX4_isSentenceWith) := goodIn_app (goodIn_of _ (by decide +kernel)) ggX4_correction_X4_isSentenceWith
theorem dX4_correction_0 : decode cX4_correction 0 = .ok (.iload_n 1, 1) := by decide +kernel
theorem dX4_correction_1 : decode cX4_correction 1 = .ok (.ifCond .ge 13, 3) := by decide +kernel
theorem dX4_correction_4 : decode cX4_correction 4 = .ok (.new 79, 3) := by decide +kernel
theorem dX4_correction_7 : decode cX4_correction 7 = .ok (.dup, 1) := by decide +kernel
theorem dX4_correction_8 : decode cX4_correction 8 = .ok (.ldc 164, 2) := by decide +kernel
theorem dX4_correction_10 : decode cX4_correction 10 = .ok (.invokespecial 83, 3) := by decide +kernel
theorem dX4_correction_13 : decode cX4_correction 13 = .ok (.athrow, 1) := by decide +kernel
theorem dX4_correction_14 : decode cX4_correction 14 = .ok (.iload_n 1, 1) := by decide +kernel
theorem dX4_correction_15 : decode cX4_correction 15 = .ok (.istore_n 2, 1) := by decide +kernel
theorem dX4_correction_16 : decode cX4_correction 16 = .ok (.iconst 0, 1) := by decide +kernel
theorem dX4_correction_17 : decode cX4_correction 17 = .ok (.istore_n 3, 1) := by decide +kernel
theorem dX4_correction_18 : decode cX4_correction 18 = .ok (.iload_n 3, 1) := by decide +kernel
theorem dX4_correction_19 : decode cX4_correction 19 = .ok (.aload_n 0, 1) := by decide +kernel
theorem dX4_correction_20 : decode cX4_correction 20 = .ok (.getfield 20, 3) := by decide +kernel
theorem dX4_correction_23 : decode cX4_correction 23 = .ok (.if_icmp .ge 66, 3) := by decide +kernel
theorem dX4_correction_26 : decode cX4_correction 26 = .ok (.iconst 0, 1) := by decide +kernel
theorem dX4_correction_27 : decode cX4_correction 27 = .ok (.istore 4, 2) := by decide +kernel
theorem dX4_correction_29 : decode cX4_correction 29 = .ok (.iload 4, 2) := by decide +kernel
theorem dX4_correction_31 : decode cX4_correction 31 = .ok (.aload_n 0, 1) := by decide +kernel
theorem dX4_correction_32 : decode cX4_correction 32 = .ok (.getfield 12, 3) := by decide +kernel
theorem dX4_correction_35 : decode cX4_correction 35 = .ok (.getfield 59, 3) := by decide +kernel
theorem dX4_correction_38 : decode cX4_correction 38 = .ok (.if_icmp .ge 45, 3) := by decide +kernel
theorem dX4_correction_41 : decode cX4_correction 41 = .ok (.iload 4, 2) := by decide +kernel
theorem dX4_correction_43 : decode cX4_correction 43 = .ok (.aload_n 0, 1) := by decide +kernel
theorem dX4_correction_44 : decode cX4_correction 44 = .ok (.getfield 16, 3) := by decide +kernel
theorem dX4_correction_47 : decode cX4_correction 47 = .ok (.iload_n 3, 1) := by decide +kernel
theorem dX4_correction_48 : decode cX4_correction 48 = .ok (.iaload, 1) := by decide +kernel
theorem dX4_correction_49 : decode cX4_correction 49 = .ok (.if_icmp .eq 28, 3) := by decide +kernel
theorem dX4_correction_52 : decode cX4_correction 52 = .ok (.aload_n 0, 1) := by decide +kernel
theorem dX4_correction_53 : decode cX4_correction 53 = .ok (.iload_n 3, 1) := by decide +kernel
theorem dX4_correction_54 : decode cX4_correction 54 = .ok (.iload 4, 2) := by decide +kernel
theorem dX4_correction_56 : decode cX4_correction 56 = .ok (.invokevirtual 161, 3) := by decide +kernel
theorem dX4_correction_59 : decode cX4_correction 59 = .ok (.ifCond .eq 18, 3) := by decide +kernel
theorem dX4_correction_62 : decode cX4_correction 62 = .ok (.iload_n 2, 1) := by decide +kernel
theorem dX4_correction_63 : decode cX4_correction 63 = .ok (.ifCond .ne 11, 3) := by decide +kernel
theorem dX4_correction_66 : decode cX4_correction 66 = .ok (.bipush 10, 2) := by decide +kernel
theorem dX4_correction_68 : decode cX4_correction 68 = .ok (.iload_n 3, 1) := by decide +kernel
theorem dX4_correction_69 : decode cX4_correction 69 = .ok (.imul, 1) := by decide +kernel
theorem dX4_correction_70 : decode cX4_correction 70 = .ok (.iload 4, 2) := by decide +kernel
theorem dX4_correction_72 : decode cX4_correction 72 = .ok (.iadd, 1) := by decide +kernel
theorem dX4_correction_73 : decode cX4_correction 73 = .ok (.ireturn, 1) := by decide +kernel
theorem dX4_correction_74 : decode cX4_correction 74 = .ok (.iinc 2 (-1), 3) := by decide +kernel
theorem dX4_correction_77 : decode cX4_correction 77 = .ok (.iinc 4 1, 3) := by decide +kernel
theorem dX4_correction_80 : decode cX4_correction 80 = .ok (.goto (-51), 3) := by decide +kernel
theorem dX4_correction_83 : decode cX4_correction 83 = .ok (.iinc 3 1, 3) := by decide +kernel
theorem dX4_correction_86 : decode cX4_correction 86 = .ok (.goto (-68), 3) := by decide +kernel
theorem dX4_correction_89 : decode cX4_correction 89 = .ok (.iconst (-1), 1) := by decide +kernel
theorem dX4_correction_90 : decode cX4_correction 90 = .ok (.ireturn, 1) := by decide +kernel
theorem dX4_isOutside_0 : decode cX4_isOutside 0 = .ok (.iload_n 0, 1) := by decide +kernel
theorem dX4_isOutside_1 : decode cX4_isOutside 1 = .ok (.ifCond .lt 8, 3) := by decide +kernel
theorem dX4_isOutside_4 : decode cX4_isOutside 4 = .ok (.iload_n 0, 1) := by decide +kernel
theorem dX4_isOutside_5 : decode cX4_isOutside 5 = .ok (.iload_n 1, 1) := by decide +kernel
theorem dX4_isOutside_6 : decode cX4_isOutside 6 = .ok (.if_icmp .lt 7, 3) := by decide +kernel
theorem dX4_isOutside_9 : decode cX4_isOutside 9 = .ok (.iconst 1, 1) := by decide +kernel
theorem dX4_isOutside_10 : decode cX4_isOutside 10 = .ok (.goto 4, 3) := by decide +kernel
theorem dX4_isOutside_13 : decode cX4_isOutside 13 = .ok (.iconst 0, 1) := by decide +kernel
theorem dX4_isOutside_14 : decode cX4_isOutside 14 = .ok (.ireturn, 1) := by decide +kernel
set_option maxRecDepth 20000 in
theorem ggX4_isNoKind_X4_isOutside : GoodIn wsX4_isNoKind wsX4_isOutside := goodIn_r _ [4] (by decide +kernel) (by decide +kernel)
set_option maxRecDepth 20000 in
theorem gX4_isNoKind_X4_isOutside : GoodIn wsX4_isNoKind (va_wsS RX4 75 yX4_isOutside wsX4_isOutside) := goodIn_app (goodIn_of _ (by decide +kernel)) ggX4_isNoKind_X4_isOutside
theorem dX4_isNoKind_0 : decode cX4_isNoKind 0 = .ok (.iload_n 0, 1) := by decide +kernel
theorem dX4_isNoKind_1 : decode cX4_isNoKind 1 = .ok (.bipush 8, 2) := by decide +kernel
theorem dX4_isNoKind_3 : decode cX4_isNoKind 3 = .ok (.invokestatic 75, 3) := by decide +kernel
theorem dX4_isNoKind_6 : decode cX4_isNoKind 6 = .ok (.ifCond .ne 19, 3) := by decide +kernel
theorem dX4_isNoKind_9 : decode cX4_isNoKind 9 = .ok (.iload_n 1, 1) := by decide +kernel
theorem dX4_isNoKind_10 : decode cX4_isNoKind 10 = .ok (.iconst 4, 1) := by decide +kernel
theorem dX4_isNoKind_11 : decode cX4_isNoKind 11 = .ok (.invokestatic 75, 3) := by decide +kernel
theorem dX4_isNoKind_14 : decode cX4_isNoKind 14 = .ok (.ifCond .ne 11, 3) := by decide +kernel
theorem dX4_isNoKind_17 : decode cX4_isNoKind 17 = .ok (.iload_n 2, 1) := by decide +kernel
theorem dX4_isNoKind_18 : decode cX4_isNoKind 18 = .ok (.iconst 4, 1) := by decide +kernel
theorem dX4_isNoKind_19 : decode cX4_isNoKind 19 = .ok (.invokestatic 75, 3) := by decide +kernel
theorem dX4_isNoKind_22 : decode cX4_isNoKind 22 = .ok (.ifCond .eq 7, 3) := by decide +kernel
theorem dX4_isNoKind_25 : decode cX4_isNoKind 25 = .ok (.iconst 1, 1) := by decide +kernel
theorem dX4_isNoKind_26 : decode cX4_isNoKind 26 = .ok (.goto 4, 3) := by decide +kernel
theorem dX4_isNoKind_29 : decode cX4_isNoKind 29 = .ok (.iconst 0, 1) := by decide +kernel
theorem dX4_isNoKind_30 : decode cX4_isNoKind 30 = .ok (.ireturn, 1) := by decide +kernel
theorem dX4_isNoDigitPair_0 : decode cX4_isNoDigitPair 0 = .ok (.iload_n 0, 1) := by decide +kernel
theorem dX4_isNoDigitPair_1 : decode cX4_isNoDigitPair 1 = .ok (.ifCond .lt 19, 3) := by decide +kernel
theorem dX4_isNoDigitPair_4 : decode cX4_isNoDigitPair 4 = .ok (.iload_n 0, 1) := by decide +kernel
theorem dX4_isNoDigitPair_5 : decode cX4_isNoDigitPair 5 = .ok (.bipush 10, 2) := by decide +kernel
theorem dX4_isNoDigitPair_7 : decode cX4_isNoDigitPair 7 = .ok (.idiv, 1) := by decide +kernel
theorem dX4_isNoDigitPair_8 : decode cX4_isNoDigitPair 8 = .ok (.iconst 4, 1) := by decide +kernel
theorem dX4_isNoDigitPair_9 : decode cX4_isNoDigitPair 9 = .ok (.if_icmp .ge 11, 3) := by decide +kernel
theorem dX4_isNoDigitPair_12 : decode cX4_isNoDigitPair 12 = .ok (.iload_n 0, 1) := by decide +kernel
theorem dX4_isNoDigitPair_13 : decode cX4_isNoDigitPair 13 = .ok (.bipush 10, 2) := by decide +kernel
theorem dX4_isNoDigitPair_15 : decode cX4_isNoDigitPair 15 = .ok (.irem, 1) := by decide +kernel
theorem dX4_isNoDigitPair_16 : decode cX4_isNoDigitPair 16 = .ok (.iconst 4, 1) := by decide +kernel
theorem dX4_isNoDigitPair_17 : decode cX4_isNoDigitPair 17 = .ok (.if_icmp .lt 7, 3) := by decide +kernel
theorem dX4_isNoDigitPair_20 : decode cX4_isNoDigitPair 20 = .ok (.iconst 1, 1) := by decide +kernel
theorem dX4_isNoDigitPair_21 : decode cX4_isNoDigitPair 21 = .ok (.goto 4, 3) := by decide +kernel
theorem dX4_isNoDigitPair_24 : decode cX4_isNoDigitPair 24 = .ok (.iconst 0, 1) := by decide +kernel
theorem dX4_isNoDigitPair_25 : decode cX4_isNoDigitPair 25 = .ok (.ireturn, 1) := by decide +kernel
theorem dX4_isNoLength_0 : decode cX4_isNoLength 0 = .ok (.iload_n 0, 1) := by decide +kernel
theorem dX4_isNoLength_1 : decode cX4_isNoLength 1 = .ok (.iconst 1, 1) := by decide +kernel
theorem dX4_isNoLength_2 : decode cX4_isNoLength 2 = .ok (.if_icmp .lt 8, 3) := by decide +kernel
theorem dX4_isNoLength_5 : decode cX4_isNoLength 5 = .ok (.iload_n 0, 1) := by decide +kernel
theorem dX4_isNoLength_6 : decode cX4_isNoLength 6 = .ok (.iconst 4, 1) := by decide +kernel
theorem dX4_isNoLength_7 : decode cX4_isNoLength 7 = .ok (.if_icmp .le 7, 3) := by decide +kernel
theorem dX4_isNoLength_10 : decode cX4_isNoLength 10 = .ok (.iconst 1, 1) := by decide +kernel
theorem dX4_isNoLength_11 : decode cX4_isNoLength 11 = .ok (.goto 4, 3) := by decide +kernel
theorem dX4_isNoLength_14 : decode cX4_isNoLength 14 = .ok (.iconst 0, 1) := by decide +kernel
theorem dX4_isNoLength_15 : decode cX4_isNoLength 15 = .ok (.ireturn, 1) := by decide +kernel
theorem dX4_isNoSpan_0 : decode cX4_isNoSpan 0 = .ok (.iload_n 1, 1) := by decide +kernel
theorem dX4_isNoSpan_1 : decode cX4_isNoSpan 1 = .ok (.ifCond .lt 16, 3) := by decide +kernel
theorem dX4_isNoSpan_4 : decode cX4_isNoSpan 4 = .ok (.iload_n 2, 1) := by decide +kernel
theorem dX4_isNoSpan_5 : decode cX4_isNoSpan 5 = .ok (.iload_n 1, 1) := by decide +kernel
theorem dX4_isNoSpan_6 : decode cX4_isNoSpan 6 = .ok (.if_icmp .le 11, 3) := by decide +kernel
theorem dX4_isNoSpan_9 : decode cX4_isNoSpan 9 = .ok (.iload_n 2, 1) := by decide +kernel
theorem dX4_isNoSpan_10 : decode cX4_isNoSpan 10 = .ok (.aload_n 0, 1) := by decide +kernel
theorem dX4_isNoSpan_11 : decode cX4_isNoSpan 11 = .ok (.getfield 20, 3) := by decide +kernel
theorem dX4_isNoSpan_14 : decode cX4_isNoSpan 14 = .ok (.if_icmp .le 7, 3) := by decide +kernel
theorem dX4_isNoSpan_17 : decode cX4_isNoSpan 17 = .ok (.iconst 1, 1) := by decide +kernel
theorem dX4_isNoSpan_18 : decode cX4_isNoSpan 18 = .ok (.goto 4, 3) := by decide +kernel
theorem dX4_isNoSpan_21 : decode cX4_isNoSpan 21 = .ok (.iconst 0, 1) := by decide +kernel
theorem dX4_isNoSpan_22 : decode cX4_isNoSpan 22 = .ok (.ireturn, 1) := by decide +kernel
theorem dX4_pairOf_0 : decode cX4_pairOf 0 = .ok (.iload_n 0, 1) := by decide +kernel
theorem dX4_pairOf_1 : decode cX4_pairOf 1 = .ok (.iconst 4, 1) := by decide +kernel
theorem dX4_pairOf_2 : decode cX4_pairOf 2 = .ok (.imul, 1) := by decide +kernel
theorem dX4_pairOf_3 : decode cX4_pairOf 3 = .ok (.iload_n 1, 1) := by decide +kernel
theorem dX4_pairOf_4 : decode cX4_pairOf 4 = .ok (.iadd, 1) := by decide +kernel
theorem dX4_pairOf_5 : decode cX4_pairOf 5 = .ok (.ireturn, 1) := by decide +kernel
theorem dX4_hasPair_0 : decode cX4_hasPair 0 = .ok (.iload_n 0, 1) := by decide +kernel
theorem dX4_hasPair_1 : decode cX4_hasPair 1 = .ok (.iload_n 1, 1) := by decide +kernel
theorem dX4_hasPair_2 : decode cX4_hasPair 2 = .ok (.ishr, 1) := by decide +kernel
theorem dX4_hasPair_3 : decode cX4_hasPair 3 = .ok (.iconst 1, 1) := by decide +kernel
theorem dX4_hasPair_4 : decode cX4_hasPair 4 = .ok (.iand, 1) := by decide +kernel
theorem dX4_hasPair_5 : decode cX4_hasPair 5 = .ok (.ifCond .eq 7, 3) := by decide +kernel
theorem dX4_hasPair_8 : decode cX4_hasPair 8 = .ok (.iconst 1, 1) := by decide +kernel
theorem dX4_hasPair_9 : decode cX4_hasPair 9 = .ok (.goto 4, 3) := by decide +kernel
theorem dX4_hasPair_12 : decode cX4_hasPair 12 = .ok (.iconst 0, 1) := by decide +kernel
theorem dX4_hasPair_13 : decode cX4_hasPair 13 = .ok (.ireturn, 1) := by decide +kernel
theorem dX4_spanOf_0 : decode cX4_spanOf 0 = .ok (.iload_n 1, 1) := by decide +kernel
theorem dX4_spanOf_1 : decode cX4_spanOf 1 = .ok (.iload_n 1, 1) := by decide +kernel
theorem dX4_spanOf_2 : decode cX4_spanOf 2 = .ok (.iconst 1, 1) := by decide +kernel
theorem dX4_spanOf_3 : decode cX4_spanOf 3 = .ok (.isub, 1) := by decide +kernel
theorem dX4_spanOf_4 : decode cX4_spanOf 4 = .ok (.imul, 1) := by decide +kernel
theorem dX4_spanOf_5 : decode cX4_spanOf 5 = .ok (.iconst 2, 1) := by decide +kernel
theorem dX4_spanOf_6 : decode cX4_spanOf 6 = .ok (.idiv, 1) := by decide +kernel
theorem dX4_spanOf_7 : decode cX4_spanOf 7 = .ok (.iload_n 0, 1) := by decide +kernel
theorem dX4_spanOf_8 : decode cX4_spanOf 8 = .ok (.iadd, 1) := by decide +kernel
theorem dX4_spanOf_9 : decode cX4_spanOf 9 = .ok (.ireturn, 1) := by decide +kernel
theorem dX4_told_0 : decode cX4_told 0 = .ok (.iload_n 0, 1) := by decide +kernel
theorem dX4_told_1 : decode cX4_told 1 = .ok (.ldc 166, 2) := by decide +kernel
theorem dX4_told_3 : decode cX4_told 3 = .ok (.if_icmp .le 8, 3) := by decide +kernel
theorem dX4_told_6 : decode cX4_told 6 = .ok (.ldc 166, 2) := by decide +kernel
theorem dX4_told_8 : decode cX4_told 8 = .ok (.goto 4, 3) := by decide +kernel
theorem dX4_told_11 : decode cX4_told 11 = .ok (.iload_n 0, 1) := by decide +kernel
theorem dX4_told_12 : decode cX4_told 12 = .ok (.ireturn, 1) := by decide +kernel
theorem dX4_countOf_0 : decode cX4_countOf 0 = .ok (.iconst 0, 1) := by decide +kernel
theorem dX4_countOf_1 : decode cX4_countOf 1 = .ok (.istore_n 2, 1) := by decide +kernel
theorem dX4_countOf_2 : decode cX4_countOf 2 = .ok (.iconst 0, 1) := by decide +kernel
theorem dX4_countOf_3 : decode cX4_countOf 3 = .ok (.istore_n 3, 1) := by decide +kernel
theorem dX4_countOf_4 : decode cX4_countOf 4 = .ok (.iload_n 3, 1) := by decide +kernel
theorem dX4_countOf_5 : decode cX4_countOf 5 = .ok (.bipush 16, 2) := by decide +kernel
theorem dX4_countOf_7 : decode cX4_countOf 7 = .ok (.if_icmp .ge 20, 3) := by decide +kernel
theorem dX4_countOf_10 : decode cX4_countOf 10 = .ok (.iload_n 2, 1) := by decide +kernel
theorem dX4_countOf_11 : decode cX4_countOf 11 = .ok (.aload_n 0, 1) := by decide +kernel
theorem dX4_countOf_12 : decode cX4_countOf 12 = .ok (.iload_n 1, 1) := by decide +kernel
theorem dX4_countOf_13 : decode cX4_countOf 13 = .ok (.bipush 16, 2) := by decide +kernel
theorem dX4_countOf_15 : decode cX4_countOf 15 = .ok (.imul, 1) := by decide +kernel
theorem dX4_countOf_16 : decode cX4_countOf 16 = .ok (.iload_n 3, 1) := by decide +kernel
theorem dX4_countOf_17 : decode cX4_countOf 17 = .ok (.iadd, 1) := by decide +kernel
theorem dX4_countOf_18 : decode cX4_countOf 18 = .ok (.iaload, 1) := by decide +kernel
theorem dX4_countOf_19 : decode cX4_countOf 19 = .ok (.iadd, 1) := by decide +kernel
theorem dX4_countOf_20 : decode cX4_countOf 20 = .ok (.istore_n 2, 1) := by decide +kernel
theorem dX4_countOf_21 : decode cX4_countOf 21 = .ok (.iinc 3 1, 3) := by decide +kernel
theorem dX4_countOf_24 : decode cX4_countOf 24 = .ok (.goto (-20), 3) := by decide +kernel
theorem dX4_countOf_27 : decode cX4_countOf 27 = .ok (.iload_n 2, 1) := by decide +kernel
theorem dX4_countOf_28 : decode cX4_countOf 28 = .ok (.ireturn, 1) := by decide +kernel
set_option maxRecDepth 20000 in
theorem ggX4_countReadings_X0_fill : GoodIn wsX4_countReadings wsX0_fill := goodIn_r _ [8, 9, 10, 11, 6, 12, 13, 14, 15, 16, 17, 18, 19, 20, 21, 22, 23, 24, 25, 26, 27, 28, 29, 30, 31, 32, 33, 34, 35, 36, 37, 38, 55, 56, 57, 58, 59, 60, 61, 62, 63] (by decide +kernel) (by decide +kernel)
set_option maxRecDepth 20000 in
theorem gX4_countReadings_X0_fill_n167 : GoodIn wsX4_countReadings (wsX0_fill) := ggX4_countReadings_X0_fill
set_option maxRecDepth 20000 in
theorem ggX4_countReadings_X0_countSpan : GoodIn wsX4_countReadings wsX0_countSpan := goodIn_r _ [41, 13, 14, 15, 16, 42, 43, 55] (by decide +kernel) (by decide +kernel)
set_option maxRecDepth 20000 in
theorem gX4_countReadings_X0_countSpan_n171 : GoodIn wsX4_countReadings (wsX0_countSpan) := ggX4_countReadings_X0_countSpan
set_option maxRecDepth 20000 in
theorem ggX4_countReadings_X4_told : GoodIn wsX4_countReadings wsX4_told := goodIn_r _ [46, 47] (by decide +kernel) (by decide +kernel)
set_option maxRecDepth 20000 in
theorem gX4_countReadings_X4_told : GoodIn wsX4_countReadings (va_wsS RX4 118 yX4_told wsX4_told) := goodIn_app (goodIn_of _ (by decide +kernel)) ggX4_countReadings_X4_told
theorem dX4_countReadings_0 : decode cX4_countReadings 0 = .ok (.aload_n 0, 1) := by decide +kernel
theorem dX4_countReadings_1 : decode cX4_countReadings 1 = .ok (.getfield 37, 3) := by decide +kernel
theorem dX4_countReadings_4 : decode cX4_countReadings 4 = .ok (.aload_n 0, 1) := by decide +kernel
theorem dX4_countReadings_5 : decode cX4_countReadings 5 = .ok (.getfield 12, 3) := by decide +kernel
theorem dX4_countReadings_8 : decode cX4_countReadings 8 = .ok (.aload_n 0, 1) := by decide +kernel
theorem dX4_countReadings_9 : decode cX4_countReadings 9 = .ok (.getfield 16, 3) := by decide +kernel
theorem dX4_countReadings_12 : decode cX4_countReadings 12 = .ok (.aload_n 0, 1) := by decide +kernel
theorem dX4_countReadings_13 : decode cX4_countReadings 13 = .ok (.getfield 20, 3) := by decide +kernel
theorem dX4_countReadings_16 : decode cX4_countReadings 16 = .ok (.invokevirtual 167, 3) := by decide +kernel
theorem dX4_countReadings_19 : decode cX4_countReadings 19 = .ok (.aload_n 0, 1) := by decide +kernel
theorem dX4_countReadings_20 : decode cX4_countReadings 20 = .ok (.getfield 37, 3) := by decide +kernel
theorem dX4_countReadings_23 : decode cX4_countReadings 23 = .ok (.iload_n 1, 1) := by decide +kernel
theorem dX4_countReadings_24 : decode cX4_countReadings 24 = .ok (.iload_n 2, 1) := by decide +kernel
theorem dX4_countReadings_25 : decode cX4_countReadings 25 = .ok (.iload_n 3, 1) := by decide +kernel
theorem dX4_countReadings_26 : decode cX4_countReadings 26 = .ok (.invokevirtual 171, 3) := by decide +kernel
theorem dX4_countReadings_29 : decode cX4_countReadings 29 = .ok (.invokestatic 118, 3) := by decide +kernel
theorem dX4_countReadings_32 : decode cX4_countReadings 32 = .ok (.ireturn, 1) := by decide +kernel
set_option maxRecDepth 20000 in
theorem ggX4_isSentenceWith_X2_parse : GoodIn wsX4_isSentenceWith wsX2_parse := goodIn_r _ [13, 14, 15, 16, 11, 17, 18, 19, 20, 21, 22, 23, 24, 25, 26, 27, 28, 29, 30, 31, 32, 33, 34, 35, 36, 37, 38, 39, 40, 41, 42, 43, 44, 67, 59, 60, 61, 62, 63, 64, 65, 66] (by decide +kernel) (by decide +kernel)
set_option maxRecDepth 20000 in
theorem gX4_isSentenceWith_X2_parse_n129 : GoodIn wsX4_isSentenceWith (wsX2_parse) := ggX4_isSentenceWith_X2_parse
set_option maxRecDepth 20000 in
theorem ggX4_isSentenceWith_X2_holdsSentence : GoodIn wsX4_isSentenceWith wsX2_holdsSentence := goodIn_r _ [47, 48, 49, 50, 11, 51, 22, 23, 24, 25, 67] (by decide +kernel) (by decide +kernel)
set_option maxRecDepth 20000 in
theorem gX4_isSentenceWith_X2_holdsSentence_n139 : GoodIn wsX4_isSentenceWith (wsX2_holdsSentence) := ggX4_isSentenceWith_X2_holdsSentence
theorem dX4_isSentenceWith_0 : decode cX4_isSentenceWith 0 = .ok (.aload_n 0, 1) := by decide +kernel
theorem dX4_isSentenceWith_1 : decode cX4_isSentenceWith 1 = .ok (.getfield 16, 3) := by decide +kernel
theorem dX4_isSentenceWith_4 : decode cX4_isSentenceWith 4 = .ok (.iconst 0, 1) := by decide +kernel
theorem dX4_isSentenceWith_5 : decode cX4_isSentenceWith 5 = .ok (.aload_n 0, 1) := by decide +kernel
theorem dX4_isSentenceWith_6 : decode cX4_isSentenceWith 6 = .ok (.getfield 24, 3) := by decide +kernel
theorem dX4_isSentenceWith_9 : decode cX4_isSentenceWith 9 = .ok (.iconst 0, 1) := by decide +kernel
theorem dX4_isSentenceWith_10 : decode cX4_isSentenceWith 10 = .ok (.aload_n 0, 1) := by decide +kernel
theorem dX4_isSentenceWith_11 : decode cX4_isSentenceWith 11 = .ok (.getfield 20, 3) := by decide +kernel
theorem dX4_isSentenceWith_14 : decode cX4_isSentenceWith 14 = .ok (.invokestatic 174, 3) := by decide +kernel
theorem dX4_isSentenceWith_17 : decode cX4_isSentenceWith 17 = .ok (.aload_n 0, 1) := by decide +kernel
theorem dX4_isSentenceWith_18 : decode cX4_isSentenceWith 18 = .ok (.getfield 24, 3) := by decide +kernel
theorem dX4_isSentenceWith_21 : decode cX4_isSentenceWith 21 = .ok (.iload_n 1, 1) := by decide +kernel
theorem dX4_isSentenceWith_22 : decode cX4_isSentenceWith 22 = .ok (.iload_n 2, 1) := by decide +kernel
theorem dX4_isSentenceWith_23 : decode cX4_isSentenceWith 23 = .ok (.iastore, 1) := by decide +kernel
theorem dX4_isSentenceWith_24 : decode cX4_isSentenceWith 24 = .ok (.aload_n 0, 1) := by decide +kernel
theorem dX4_isSentenceWith_25 : decode cX4_isSentenceWith 25 = .ok (.getfield 30, 3) := by decide +kernel
theorem dX4_isSentenceWith_28 : decode cX4_isSentenceWith 28 = .ok (.aload_n 0, 1) := by decide +kernel
theorem dX4_isSentenceWith_29 : decode cX4_isSentenceWith 29 = .ok (.getfield 12, 3) := by decide +kernel
theorem dX4_isSentenceWith_32 : decode cX4_isSentenceWith 32 = .ok (.aload_n 0, 1) := by decide +kernel
theorem dX4_isSentenceWith_33 : decode cX4_isSentenceWith 33 = .ok (.getfield 24, 3) := by decide +kernel
theorem dX4_isSentenceWith_36 : decode cX4_isSentenceWith 36 = .ok (.aload_n 0, 1) := by decide +kernel
theorem dX4_isSentenceWith_37 : decode cX4_isSentenceWith 37 = .ok (.getfield 20, 3) := by decide +kernel
theorem dX4_isSentenceWith_40 : decode cX4_isSentenceWith 40 = .ok (.aload_n 0, 1) := by decide +kernel
theorem dX4_isSentenceWith_41 : decode cX4_isSentenceWith 41 = .ok (.getfield 12, 3) := by decide +kernel
theorem dX4_isSentenceWith_44 : decode cX4_isSentenceWith 44 = .ok (.getfield 93, 3) := by decide +kernel
theorem dX4_isSentenceWith_47 : decode cX4_isSentenceWith 47 = .ok (.invokevirtual 129, 3) := by decide +kernel
theorem dX4_isSentenceWith_50 : decode cX4_isSentenceWith 50 = .ok (.aload_n 0, 1) := by decide +kernel
theorem dX4_isSentenceWith_51 : decode cX4_isSentenceWith 51 = .ok (.getfield 30, 3) := by decide +kernel
theorem dX4_isSentenceWith_54 : decode cX4_isSentenceWith 54 = .ok (.aload_n 0, 1) := by decide +kernel
theorem dX4_isSentenceWith_55 : decode cX4_isSentenceWith 55 = .ok (.getfield 20, 3) := by decide +kernel
theorem dX4_isSentenceWith_58 : decode cX4_isSentenceWith 58 = .ok (.invokevirtual 139, 3) := by decide +kernel
theorem dX4_isSentenceWith_61 : decode cX4_isSentenceWith 61 = .ok (.ireturn, 1) := by decide +kernel
set_option maxRecDepth 20000 in
theorem ggX4_isSentenceFreeAt_X2_putAnyWord : GoodIn wsX4_isSentenceFreeAt wsX2_putAnyWord := goodIn_r _ [8, 9, 10, 11, 6, 12, 13, 14, 15, 16, 17, 18, 19, 20, 52, 53, 54, 55, 56, 57, 58, 59, 60] (by decide +kernel) (by decide +kernel)
set_option maxRecDepth 20000 in
theorem gX4_isSentenceFreeAt_X2_putAnyWord_n180 : GoodIn wsX4_isSentenceFreeAt (wsX2_putAnyWord) := ggX4_isSentenceFreeAt_X2_putAnyWord
set_option maxRecDepth 20000 in
theorem ggX4_isSentenceFreeAt_X2_putWord : GoodIn wsX4_isSentenceFreeAt wsX2_putWord := goodIn_r _ [23, 9, 10, 11, 6, 12, 13, 14, 15, 16, 17, 18, 19, 20, 60, 52, 53, 54, 55, 56, 57, 58, 59] (by decide +kernel) (by decide +kernel)
set_option maxRecDepth 20000 in
theorem gX4_isSentenceFreeAt_X2_putWord_n184 : GoodIn wsX4_isSentenceFreeAt (wsX2_putWord) := ggX4_isSentenceFreeAt_X2_putWord
set_option maxRecDepth 20000 in
theorem ggX4_isSentenceFreeAt_X2_joinUpTo : GoodIn wsX4_isSentenceFreeAt wsX2_joinUpTo := goodIn_r _ [26, 9, 10, 11, 6, 12, 13, 14, 15, 16, 27, 28, 29, 30, 31, 32, 33, 34, 35, 36, 37, 60, 52, 53, 54, 55, 56, 57, 58, 59] (by decide +kernel) (by decide +kernel)
set_option maxRecDepth 20000 in
theorem gX4_isSentenceFreeAt_X2_joinUpTo_n188 : GoodIn wsX4_isSentenceFreeAt (wsX2_joinUpTo) := ggX4_isSentenceFreeAt_X2_joinUpTo
set_option maxRecDepth 20000 in
theorem ggX4_isSentenceFreeAt_X2_holdsSentence : GoodIn wsX4_isSentenceFreeAt wsX2_holdsSentence := goodIn_r _ [40, 41, 42, 43, 6, 44, 13, 14, 15, 16, 60] (by decide +kernel) (by decide +kernel)
set_option maxRecDepth 20000 in
theorem gX4_isSentenceFreeAt_X2_holdsSentence_n139 : GoodIn wsX4_isSentenceFreeAt (wsX2_holdsSentence) := ggX4_isSentenceFreeAt_X2_holdsSentence
theorem dX4_isSentenceFreeAt_0 : decode cX4_isSentenceFreeAt 0 = .ok (.iconst 0, 1) := by decide +kernel
theorem dX4_isSentenceFreeAt_1 : decode cX4_isSentenceFreeAt 1 = .ok (.istore_n 3, 1) := by decide +kernel
theorem dX4_isSentenceFreeAt_2 : decode cX4_isSentenceFreeAt 2 = .ok (.iload_n 3, 1) := by decide +kernel
theorem dX4_isSentenceFreeAt_3 : decode cX4_isSentenceFreeAt 3 = .ok (.aload_n 0, 1) := by decide +kernel
theorem dX4_isSentenceFreeAt_4 : decode cX4_isSentenceFreeAt 4 = .ok (.getfield 20, 3) := by decide +kernel
theorem dX4_isSentenceFreeAt_7 : decode cX4_isSentenceFreeAt 7 = .ok (.if_icmp .ge 73, 3) := by decide +kernel
theorem dX4_isSentenceFreeAt_10 : decode cX4_isSentenceFreeAt 10 = .ok (.iload_n 3, 1) := by decide +kernel
theorem dX4_isSentenceFreeAt_11 : decode cX4_isSentenceFreeAt 11 = .ok (.iload_n 1, 1) := by decide +kernel
theorem dX4_isSentenceFreeAt_12 : decode cX4_isSentenceFreeAt 12 = .ok (.if_icmp .eq 8, 3) := by decide +kernel
theorem dX4_isSentenceFreeAt_15 : decode cX4_isSentenceFreeAt 15 = .ok (.iload_n 3, 1) := by decide +kernel
theorem dX4_isSentenceFreeAt_16 : decode cX4_isSentenceFreeAt 16 = .ok (.iload_n 2, 1) := by decide +kernel
theorem dX4_isSentenceFreeAt_17 : decode cX4_isSentenceFreeAt 17 = .ok (.if_icmp .ne 18, 3) := by decide +kernel
theorem dX4_isSentenceFreeAt_20 : decode cX4_isSentenceFreeAt 20 = .ok (.aload_n 0, 1) := by decide +kernel
theorem dX4_isSentenceFreeAt_21 : decode cX4_isSentenceFreeAt 21 = .ok (.getfield 30, 3) := by decide +kernel
theorem dX4_isSentenceFreeAt_24 : decode cX4_isSentenceFreeAt 24 = .ok (.aload_n 0, 1) := by decide +kernel
theorem dX4_isSentenceFreeAt_25 : decode cX4_isSentenceFreeAt 25 = .ok (.getfield 12, 3) := by decide +kernel
theorem dX4_isSentenceFreeAt_28 : decode cX4_isSentenceFreeAt 28 = .ok (.iload_n 3, 1) := by decide +kernel
theorem dX4_isSentenceFreeAt_29 : decode cX4_isSentenceFreeAt 29 = .ok (.invokevirtual 180, 3) := by decide +kernel
theorem dX4_isSentenceFreeAt_32 : decode cX4_isSentenceFreeAt 32 = .ok (.goto 21, 3) := by decide +kernel
theorem dX4_isSentenceFreeAt_35 : decode cX4_isSentenceFreeAt 35 = .ok (.aload_n 0, 1) := by decide +kernel
theorem dX4_isSentenceFreeAt_36 : decode cX4_isSentenceFreeAt 36 = .ok (.getfield 30, 3) := by decide +kernel
theorem dX4_isSentenceFreeAt_39 : decode cX4_isSentenceFreeAt 39 = .ok (.aload_n 0, 1) := by decide +kernel
theorem dX4_isSentenceFreeAt_40 : decode cX4_isSentenceFreeAt 40 = .ok (.getfield 12, 3) := by decide +kernel
theorem dX4_isSentenceFreeAt_43 : decode cX4_isSentenceFreeAt 43 = .ok (.iload_n 3, 1) := by decide +kernel
theorem dX4_isSentenceFreeAt_44 : decode cX4_isSentenceFreeAt 44 = .ok (.aload_n 0, 1) := by decide +kernel
theorem dX4_isSentenceFreeAt_45 : decode cX4_isSentenceFreeAt 45 = .ok (.getfield 16, 3) := by decide +kernel
theorem dX4_isSentenceFreeAt_48 : decode cX4_isSentenceFreeAt 48 = .ok (.iload_n 3, 1) := by decide +kernel
theorem dX4_isSentenceFreeAt_49 : decode cX4_isSentenceFreeAt 49 = .ok (.iaload, 1) := by decide +kernel
theorem dX4_isSentenceFreeAt_50 : decode cX4_isSentenceFreeAt 50 = .ok (.invokevirtual 184, 3) := by decide +kernel
theorem dX4_isSentenceFreeAt_53 : decode cX4_isSentenceFreeAt 53 = .ok (.aload_n 0, 1) := by decide +kernel
theorem dX4_isSentenceFreeAt_54 : decode cX4_isSentenceFreeAt 54 = .ok (.getfield 30, 3) := by decide +kernel
theorem dX4_isSentenceFreeAt_57 : decode cX4_isSentenceFreeAt 57 = .ok (.aload_n 0, 1) := by decide +kernel
theorem dX4_isSentenceFreeAt_58 : decode cX4_isSentenceFreeAt 58 = .ok (.getfield 12, 3) := by decide +kernel
theorem dX4_isSentenceFreeAt_61 : decode cX4_isSentenceFreeAt 61 = .ok (.iload_n 3, 1) := by decide +kernel
theorem dX4_isSentenceFreeAt_62 : decode cX4_isSentenceFreeAt 62 = .ok (.iconst 1, 1) := by decide +kernel
theorem dX4_isSentenceFreeAt_63 : decode cX4_isSentenceFreeAt 63 = .ok (.iadd, 1) := by decide +kernel
theorem dX4_isSentenceFreeAt_64 : decode cX4_isSentenceFreeAt 64 = .ok (.aload_n 0, 1) := by decide +kernel
theorem dX4_isSentenceFreeAt_65 : decode cX4_isSentenceFreeAt 65 = .ok (.getfield 12, 3) := by decide +kernel
theorem dX4_isSentenceFreeAt_68 : decode cX4_isSentenceFreeAt 68 = .ok (.getfield 93, 3) := by decide +kernel
theorem dX4_isSentenceFreeAt_71 : decode cX4_isSentenceFreeAt 71 = .ok (.invokevirtual 188, 3) := by decide +kernel
theorem dX4_isSentenceFreeAt_74 : decode cX4_isSentenceFreeAt 74 = .ok (.iinc 3 1, 3) := by decide +kernel
theorem dX4_isSentenceFreeAt_77 : decode cX4_isSentenceFreeAt 77 = .ok (.goto (-75), 3) := by decide +kernel
theorem dX4_isSentenceFreeAt_80 : decode cX4_isSentenceFreeAt 80 = .ok (.aload_n 0, 1) := by decide +kernel
theorem dX4_isSentenceFreeAt_81 : decode cX4_isSentenceFreeAt 81 = .ok (.getfield 30, 3) := by decide +kernel
theorem dX4_isSentenceFreeAt_84 : decode cX4_isSentenceFreeAt 84 = .ok (.aload_n 0, 1) := by decide +kernel
theorem dX4_isSentenceFreeAt_85 : decode cX4_isSentenceFreeAt 85 = .ok (.getfield 20, 3) := by decide +kernel
theorem dX4_isSentenceFreeAt_88 : decode cX4_isSentenceFreeAt 88 = .ok (.invokevirtual 139, 3) := by decide +kernel
theorem dX4_isSentenceFreeAt_91 : decode cX4_isSentenceFreeAt 91 = .ok (.ireturn, 1) := by decide +kernel
theorem dX4_rowsOfLength_0 : decode cX4_rowsOfLength 0 = .ok (.iconst 1, 1) := by decide +kernel
theorem dX4_rowsOfLength_1 : decode cX4_rowsOfLength 1 = .ok (.istore_n 2, 1) := by decide +kernel
theorem dX4_rowsOfLength_2 : decode cX4_rowsOfLength 2 = .ok (.iconst 0, 1) := by decide +kernel
theorem dX4_rowsOfLength_3 : decode cX4_rowsOfLength 3 = .ok (.istore_n 3, 1) := by decide +kernel
theorem dX4_rowsOfLength_4 : decode cX4_rowsOfLength 4 = .ok (.iload_n 3, 1) := by decide +kernel
theorem dX4_rowsOfLength_5 : decode cX4_rowsOfLength 5 = .ok (.iload_n 1, 1) := by decide +kernel
theorem dX4_rowsOfLength_6 : decode cX4_rowsOfLength 6 = .ok (.if_icmp .ge 19, 3) := by decide +kernel
theorem dX4_rowsOfLength_9 : decode cX4_rowsOfLength 9 = .ok (.iload_n 2, 1) := by decide +kernel
theorem dX4_rowsOfLength_10 : decode cX4_rowsOfLength 10 = .ok (.aload_n 0, 1) := by decide +kernel
theorem dX4_rowsOfLength_11 : decode cX4_rowsOfLength 11 = .ok (.getfield 12, 3) := by decide +kernel
theorem dX4_rowsOfLength_14 : decode cX4_rowsOfLength 14 = .ok (.getfield 59, 3) := by decide +kernel
theorem dX4_rowsOfLength_17 : decode cX4_rowsOfLength 17 = .ok (.imul, 1) := by decide +kernel
theorem dX4_rowsOfLength_18 : decode cX4_rowsOfLength 18 = .ok (.istore_n 2, 1) := by decide +kernel
theorem dX4_rowsOfLength_19 : decode cX4_rowsOfLength 19 = .ok (.iinc 3 1, 3) := by decide +kernel
theorem dX4_rowsOfLength_22 : decode cX4_rowsOfLength 22 = .ok (.goto (-18), 3) := by decide +kernel
theorem dX4_rowsOfLength_25 : decode cX4_rowsOfLength 25 = .ok (.iload_n 2, 1) := by decide +kernel
theorem dX4_rowsOfLength_26 : decode cX4_rowsOfLength 26 = .ok (.ireturn, 1) := by decide +kernel
set_option maxRecDepth 20000 in
theorem ggX4_makeSentences_X4_rowsOfLength : GoodIn wsX4_makeSentences wsX4_rowsOfLength := goodIn_r _ [8, 2, 53, 54, 55, 56, 57, 58, 59, 60, 61, 62, 63, 64, 65, 66, 67] (by decide +kernel) (by decide +kernel)
set_option maxRecDepth 20000 in
theorem gX4_makeSentences_X4_rowsOfLength : GoodIn wsX4_makeSentences (wsV RX4 147 RX4 yX4_rowsOfLength wsX4_rowsOfLength) := goodIn_app (goodIn_of _ (by decide +kernel)) ggX4_makeSentences_X4_rowsOfLength
set_option maxRecDepth 20000 in
theorem ggX4_makeSentences_X4_clearTrial : GoodIn wsX4_makeSentences wsX4_clearTrial := goodIn_r _ [12, 3, 53, 54, 55, 56, 57, 58, 59] (by decide +kernel) (by decide +kernel)
set_option maxRecDepth 20000 in
theorem gX4_makeSentences_X4_clearTrial : GoodIn wsX4_makeSentences (wsV RX4 191 RX4 yX4_clearTrial wsX4_clearTrial) := goodIn_app (goodIn_of _ (by decide +kernel)) ggX4_makeSentences_X4_clearTrial
set_option maxRecDepth 20000 in
theorem ggX4_makeSentences_X2_putWord : GoodIn wsX4_makeSentences wsX2_putWord := goodIn_r _ [16, 17, 18, 19, 14, 20, 21, 22, 7, 23, 24, 25, 26, 27, 68, 60, 61, 62, 63, 64, 65, 66, 67] (by decide +kernel) (by decide +kernel)
set_option maxRecDepth 20000 in
theorem gX4_makeSentences_X2_putWord_n184 : GoodIn wsX4_makeSentences (wsX2_putWord) := ggX4_makeSentences_X2_putWord
set_option maxRecDepth 20000 in
theorem ggX4_makeSentences_X2_joinUpTo : GoodIn wsX4_makeSentences wsX2_joinUpTo := goodIn_r _ [30, 17, 18, 19, 14, 20, 21, 22, 7, 23, 31, 32, 33, 34, 35, 36, 37, 38, 39, 40, 41, 68, 60, 61, 62, 63, 64, 65, 66, 67] (by decide +kernel) (by decide +kernel)
set_option maxRecDepth 20000 in
theorem gX4_makeSentences_X2_joinUpTo_n188 : GoodIn wsX4_makeSentences (wsX2_joinUpTo) := ggX4_makeSentences_X2_joinUpTo
set_option maxRecDepth 20000 in
theorem ggX4_makeSentences_X2_holdsSentence : GoodIn wsX4_makeSentences wsX2_holdsSentence := goodIn_r _ [44, 45, 46, 47, 14, 48, 21, 22, 7, 23, 68] (by decide +kernel) (by decide +kernel)
set_option maxRecDepth 20000 in
theorem gX4_makeSentences_X2_holdsSentence_n139 : GoodIn wsX4_makeSentences (wsX2_holdsSentence) := ggX4_makeSentences_X2_holdsSentence
set_option maxRecDepth 20000 in
theorem ggX4_makeSentences_X4_nextTrial : GoodIn wsX4_makeSentences wsX4_nextTrial := goodIn_r _ [52, 3, 2, 53, 54, 55, 56, 57, 58, 59, 60, 61, 62, 63, 64, 65, 66, 67] (by decide +kernel) (by decide +kernel)
set_option maxRecDepth 20000 in
theorem gX4_makeSentences_X4_nextTrial : GoodIn wsX4_makeSentences (wsV RX4 194 RX4 yX4_nextTrial wsX4_nextTrial) := goodIn_app (goodIn_of _ (by decide +kernel)) ggX4_makeSentences_X4_nextTrial
theorem dX4_makeSentences_0 : decode cX4_makeSentences 0 = .ok (.iconst 0, 1) := by decide +kernel
theorem dX4_makeSentences_1 : decode cX4_makeSentences 1 = .ok (.istore_n 3, 1) := by decide +kernel
theorem dX4_makeSentences_2 : decode cX4_makeSentences 2 = .ok (.aload_n 0, 1) := by decide +kernel
theorem dX4_makeSentences_3 : decode cX4_makeSentences 3 = .ok (.iload_n 1, 1) := by decide +kernel
theorem dX4_makeSentences_4 : decode cX4_makeSentences 4 = .ok (.invokevirtual 147, 3) := by decide +kernel
theorem dX4_makeSentences_7 : decode cX4_makeSentences 7 = .ok (.istore 4, 2) := by decide +kernel
theorem dX4_makeSentences_9 : decode cX4_makeSentences 9 = .ok (.iconst 0, 1) := by decide +kernel
theorem dX4_makeSentences_10 : decode cX4_makeSentences 10 = .ok (.istore 5, 2) := by decide +kernel
theorem dX4_makeSentences_12 : decode cX4_makeSentences 12 = .ok (.aload_n 0, 1) := by decide +kernel
theorem dX4_makeSentences_13 : decode cX4_makeSentences 13 = .ok (.invokevirtual 191, 3) := by decide +kernel
theorem dX4_makeSentences_16 : decode cX4_makeSentences 16 = .ok (.iconst 0, 1) := by decide +kernel
theorem dX4_makeSentences_17 : decode cX4_makeSentences 17 = .ok (.istore 6, 2) := by decide +kernel
theorem dX4_makeSentences_19 : decode cX4_makeSentences 19 = .ok (.iload 6, 2) := by decide +kernel
theorem dX4_makeSentences_21 : decode cX4_makeSentences 21 = .ok (.iload 4, 2) := by decide +kernel
theorem dX4_makeSentences_23 : decode cX4_makeSentences 23 = .ok (.if_icmp .ge 95, 3) := by decide +kernel
theorem dX4_makeSentences_26 : decode cX4_makeSentences 26 = .ok (.iload 5, 2) := by decide +kernel
theorem dX4_makeSentences_28 : decode cX4_makeSentences 28 = .ok (.istore 7, 2) := by decide +kernel
theorem dX4_makeSentences_30 : decode cX4_makeSentences 30 = .ok (.iload 7, 2) := by decide +kernel
theorem dX4_makeSentences_32 : decode cX4_makeSentences 32 = .ok (.iload_n 1, 1) := by decide +kernel
theorem dX4_makeSentences_33 : decode cX4_makeSentences 33 = .ok (.if_icmp .ge 51, 3) := by decide +kernel
theorem dX4_makeSentences_36 : decode cX4_makeSentences 36 = .ok (.aload_n 0, 1) := by decide +kernel
theorem dX4_makeSentences_37 : decode cX4_makeSentences 37 = .ok (.getfield 30, 3) := by decide +kernel
theorem dX4_makeSentences_40 : decode cX4_makeSentences 40 = .ok (.aload_n 0, 1) := by decide +kernel
theorem dX4_makeSentences_41 : decode cX4_makeSentences 41 = .ok (.getfield 12, 3) := by decide +kernel
theorem dX4_makeSentences_44 : decode cX4_makeSentences 44 = .ok (.iload 7, 2) := by decide +kernel
theorem dX4_makeSentences_46 : decode cX4_makeSentences 46 = .ok (.aload_n 0, 1) := by decide +kernel
theorem dX4_makeSentences_47 : decode cX4_makeSentences 47 = .ok (.getfield 24, 3) := by decide +kernel
theorem dX4_makeSentences_50 : decode cX4_makeSentences 50 = .ok (.iload 7, 2) := by decide +kernel
theorem dX4_makeSentences_52 : decode cX4_makeSentences 52 = .ok (.iaload, 1) := by decide +kernel
theorem dX4_makeSentences_53 : decode cX4_makeSentences 53 = .ok (.invokevirtual 184, 3) := by decide +kernel
theorem dX4_makeSentences_56 : decode cX4_makeSentences 56 = .ok (.aload_n 0, 1) := by decide +kernel
theorem dX4_makeSentences_57 : decode cX4_makeSentences 57 = .ok (.getfield 30, 3) := by decide +kernel
theorem dX4_makeSentences_60 : decode cX4_makeSentences 60 = .ok (.aload_n 0, 1) := by decide +kernel
theorem dX4_makeSentences_61 : decode cX4_makeSentences 61 = .ok (.getfield 12, 3) := by decide +kernel
theorem dX4_makeSentences_64 : decode cX4_makeSentences 64 = .ok (.iload 7, 2) := by decide +kernel
theorem dX4_makeSentences_66 : decode cX4_makeSentences 66 = .ok (.iconst 1, 1) := by decide +kernel
theorem dX4_makeSentences_67 : decode cX4_makeSentences 67 = .ok (.iadd, 1) := by decide +kernel
theorem dX4_makeSentences_68 : decode cX4_makeSentences 68 = .ok (.aload_n 0, 1) := by decide +kernel
theorem dX4_makeSentences_69 : decode cX4_makeSentences 69 = .ok (.getfield 12, 3) := by decide +kernel
theorem dX4_makeSentences_72 : decode cX4_makeSentences 72 = .ok (.getfield 93, 3) := by decide +kernel
theorem dX4_makeSentences_75 : decode cX4_makeSentences 75 = .ok (.invokevirtual 188, 3) := by decide +kernel
theorem dX4_makeSentences_78 : decode cX4_makeSentences 78 = .ok (.iinc 7 1, 3) := by decide +kernel
theorem dX4_makeSentences_81 : decode cX4_makeSentences 81 = .ok (.goto (-51), 3) := by decide +kernel
theorem dX4_makeSentences_84 : decode cX4_makeSentences 84 = .ok (.aload_n 0, 1) := by decide +kernel
theorem dX4_makeSentences_85 : decode cX4_makeSentences 85 = .ok (.getfield 30, 3) := by decide +kernel
theorem dX4_makeSentences_88 : decode cX4_makeSentences 88 = .ok (.iload_n 1, 1) := by decide +kernel
theorem dX4_makeSentences_89 : decode cX4_makeSentences 89 = .ok (.invokevirtual 139, 3) := by decide +kernel
theorem dX4_makeSentences_92 : decode cX4_makeSentences 92 = .ok (.ifCond .eq 13, 3) := by decide +kernel
theorem dX4_makeSentences_95 : decode cX4_makeSentences 95 = .ok (.iinc 3 1, 3) := by decide +kernel
theorem dX4_makeSentences_98 : decode cX4_makeSentences 98 = .ok (.iload_n 3, 1) := by decide +kernel
theorem dX4_makeSentences_99 : decode cX4_makeSentences 99 = .ok (.iload_n 2, 1) := by decide +kernel
theorem dX4_makeSentences_100 : decode cX4_makeSentences 100 = .ok (.if_icmp .le 5, 3) := by decide +kernel
theorem dX4_makeSentences_103 : decode cX4_makeSentences 103 = .ok (.iload_n 3, 1) := by decide +kernel
theorem dX4_makeSentences_104 : decode cX4_makeSentences 104 = .ok (.ireturn, 1) := by decide +kernel
theorem dX4_makeSentences_105 : decode cX4_makeSentences 105 = .ok (.aload_n 0, 1) := by decide +kernel
theorem dX4_makeSentences_106 : decode cX4_makeSentences 106 = .ok (.iload_n 1, 1) := by decide +kernel
theorem dX4_makeSentences_107 : decode cX4_makeSentences 107 = .ok (.invokevirtual 194, 3) := by decide +kernel
theorem dX4_makeSentences_110 : decode cX4_makeSentences 110 = .ok (.istore 5, 2) := by decide +kernel
theorem dX4_makeSentences_112 : decode cX4_makeSentences 112 = .ok (.iinc 6 1, 3) := by decide +kernel
theorem dX4_makeSentences_115 : decode cX4_makeSentences 115 = .ok (.goto (-96), 3) := by decide +kernel
theorem dX4_makeSentences_118 : decode cX4_makeSentences 118 = .ok (.iload_n 3, 1) := by decide +kernel
theorem dX4_makeSentences_119 : decode cX4_makeSentences 119 = .ok (.ireturn, 1) := by decide +kernel
theorem dX4_clearTrial_0 : decode cX4_clearTrial 0 = .ok (.iconst 0, 1) := by decide +kernel
theorem dX4_clearTrial_1 : decode cX4_clearTrial 1 = .ok (.istore_n 1, 1) := by decide +kernel
theorem dX4_clearTrial_2 : decode cX4_clearTrial 2 = .ok (.iload_n 1, 1) := by decide +kernel
theorem dX4_clearTrial_3 : decode cX4_clearTrial 3 = .ok (.bipush 6, 2) := by decide +kernel
theorem dX4_clearTrial_5 : decode cX4_clearTrial 5 = .ok (.if_icmp .ge 16, 3) := by decide +kernel
theorem dX4_clearTrial_8 : decode cX4_clearTrial 8 = .ok (.aload_n 0, 1) := by decide +kernel
theorem dX4_clearTrial_9 : decode cX4_clearTrial 9 = .ok (.getfield 24, 3) := by decide +kernel
theorem dX4_clearTrial_12 : decode cX4_clearTrial 12 = .ok (.iload_n 1, 1) := by decide +kernel
theorem dX4_clearTrial_13 : decode cX4_clearTrial 13 = .ok (.iconst 0, 1) := by decide +kernel
theorem dX4_clearTrial_14 : decode cX4_clearTrial 14 = .ok (.iastore, 1) := by decide +kernel
theorem dX4_clearTrial_15 : decode cX4_clearTrial 15 = .ok (.iinc 1 1, 3) := by decide +kernel
theorem dX4_clearTrial_18 : decode cX4_clearTrial 18 = .ok (.goto (-16), 3) := by decide +kernel
theorem dX4_clearTrial_21 : decode cX4_clearTrial 21 = .ok (.return_, 1) := by decide +kernel
theorem dX4_nextTrial_0 : decode cX4_nextTrial 0 = .ok (.iload_n 1, 1) := by decide +kernel
theorem dX4_nextTrial_1 : decode cX4_nextTrial 1 = .ok (.iconst 1, 1) := by decide +kernel
theorem dX4_nextTrial_2 : decode cX4_nextTrial 2 = .ok (.isub, 1) := by decide +kernel
theorem dX4_nextTrial_3 : decode cX4_nextTrial 3 = .ok (.istore_n 2, 1) := by decide +kernel
theorem dX4_nextTrial_4 : decode cX4_nextTrial 4 = .ok (.iload_n 2, 1) := by decide +kernel
theorem dX4_nextTrial_5 : decode cX4_nextTrial 5 = .ok (.ifCond .lt 44, 3) := by decide +kernel
theorem dX4_nextTrial_8 : decode cX4_nextTrial 8 = .ok (.aload_n 0, 1) := by decide +kernel
theorem dX4_nextTrial_9 : decode cX4_nextTrial 9 = .ok (.getfield 24, 3) := by decide +kernel
theorem dX4_nextTrial_12 : decode cX4_nextTrial 12 = .ok (.iload_n 2, 1) := by decide +kernel
theorem dX4_nextTrial_13 : decode cX4_nextTrial 13 = .ok (.dup2, 1) := by decide +kernel
theorem dX4_nextTrial_14 : decode cX4_nextTrial 14 = .ok (.iaload, 1) := by decide +kernel
theorem dX4_nextTrial_15 : decode cX4_nextTrial 15 = .ok (.iconst 1, 1) := by decide +kernel
theorem dX4_nextTrial_16 : decode cX4_nextTrial 16 = .ok (.iadd, 1) := by decide +kernel
theorem dX4_nextTrial_17 : decode cX4_nextTrial 17 = .ok (.iastore, 1) := by decide +kernel
theorem dX4_nextTrial_18 : decode cX4_nextTrial 18 = .ok (.aload_n 0, 1) := by decide +kernel
theorem dX4_nextTrial_19 : decode cX4_nextTrial 19 = .ok (.getfield 24, 3) := by decide +kernel
theorem dX4_nextTrial_22 : decode cX4_nextTrial 22 = .ok (.iload_n 2, 1) := by decide +kernel
theorem dX4_nextTrial_23 : decode cX4_nextTrial 23 = .ok (.iaload, 1) := by decide +kernel
theorem dX4_nextTrial_24 : decode cX4_nextTrial 24 = .ok (.aload_n 0, 1) := by decide +kernel
theorem dX4_nextTrial_25 : decode cX4_nextTrial 25 = .ok (.getfield 12, 3) := by decide +kernel
theorem dX4_nextTrial_28 : decode cX4_nextTrial 28 = .ok (.getfield 59, 3) := by decide +kernel
theorem dX4_nextTrial_31 : decode cX4_nextTrial 31 = .ok (.if_icmp .ge 5, 3) := by decide +kernel
theorem dX4_nextTrial_34 : decode cX4_nextTrial 34 = .ok (.iload_n 2, 1) := by decide +kernel
theorem dX4_nextTrial_35 : decode cX4_nextTrial 35 = .ok (.ireturn, 1) := by decide +kernel
theorem dX4_nextTrial_36 : decode cX4_nextTrial 36 = .ok (.aload_n 0, 1) := by decide +kernel
theorem dX4_nextTrial_37 : decode cX4_nextTrial 37 = .ok (.getfield 24, 3) := by decide +kernel
theorem dX4_nextTrial_40 : decode cX4_nextTrial 40 = .ok (.iload_n 2, 1) := by decide +kernel
theorem dX4_nextTrial_41 : decode cX4_nextTrial 41 = .ok (.iconst 0, 1) := by decide +kernel
theorem dX4_nextTrial_42 : decode cX4_nextTrial 42 = .ok (.iastore, 1) := by decide +kernel
theorem dX4_nextTrial_43 : decode cX4_nextTrial 43 = .ok (.iinc 2 (-1), 3) := by decide +kernel
theorem dX4_nextTrial_46 : decode cX4_nextTrial 46 = .ok (.goto (-42), 3) := by decide +kernel
theorem dX4_nextTrial_49 : decode cX4_nextTrial 49 = .ok (.iconst 0, 1) := by decide +kernel
theorem dX4_nextTrial_50 : decode cX4_nextTrial 50 = .ok (.ireturn, 1) := by decide +kernel
theorem dX4_trialAsDigits_0 : decode cX4_trialAsDigits 0 = .ok (.bipush 9, 2) := by decide +kernel
theorem dX4_trialAsDigits_2 : decode cX4_trialAsDigits 2 = .ok (.istore_n 2, 1) := by decide +kernel
theorem dX4_trialAsDigits_3 : decode cX4_trialAsDigits 3 = .ok (.iconst 0, 1) := by decide +kernel
theorem dX4_trialAsDigits_4 : decode cX4_trialAsDigits 4 = .ok (.istore_n 3, 1) := by decide +kernel
theorem dX4_trialAsDigits_5 : decode cX4_trialAsDigits 5 = .ok (.iload_n 3, 1) := by decide +kernel
theorem dX4_trialAsDigits_6 : decode cX4_trialAsDigits 6 = .ok (.iload_n 1, 1) := by decide +kernel
theorem dX4_trialAsDigits_7 : decode cX4_trialAsDigits 7 = .ok (.if_icmp .ge 21, 3) := by decide +kernel
theorem dX4_trialAsDigits_10 : decode cX4_trialAsDigits 10 = .ok (.bipush 10, 2) := by decide +kernel
theorem dX4_trialAsDigits_12 : decode cX4_trialAsDigits 12 = .ok (.iload_n 2, 1) := by decide +kernel
theorem dX4_trialAsDigits_13 : decode cX4_trialAsDigits 13 = .ok (.imul, 1) := by decide +kernel
theorem dX4_trialAsDigits_14 : decode cX4_trialAsDigits 14 = .ok (.aload_n 0, 1) := by decide +kernel
theorem dX4_trialAsDigits_15 : decode cX4_trialAsDigits 15 = .ok (.getfield 24, 3) := by decide +kernel
theorem dX4_trialAsDigits_18 : decode cX4_trialAsDigits 18 = .ok (.iload_n 3, 1) := by decide +kernel
theorem dX4_trialAsDigits_19 : decode cX4_trialAsDigits 19 = .ok (.iaload, 1) := by decide +kernel
theorem dX4_trialAsDigits_20 : decode cX4_trialAsDigits 20 = .ok (.iadd, 1) := by decide +kernel
theorem dX4_trialAsDigits_21 : decode cX4_trialAsDigits 21 = .ok (.istore_n 2, 1) := by decide +kernel
theorem dX4_trialAsDigits_22 : decode cX4_trialAsDigits 22 = .ok (.iinc 3 1, 3) := by decide +kernel
theorem dX4_trialAsDigits_25 : decode cX4_trialAsDigits 25 = .ok (.goto (-20), 3) := by decide +kernel
theorem dX4_trialAsDigits_28 : decode cX4_trialAsDigits 28 = .ok (.iload_n 2, 1) := by decide +kernel
theorem dX4_trialAsDigits_29 : decode cX4_trialAsDigits 29 = .ok (.ireturn, 1) := by decide +kernel
theorem dJ7_fill_53178_0 : decode cJ7_fill_53178 0 = .ok (.iconst 0, 1) := by decide +kernel
theorem dJ7_fill_53178_1 : decode cJ7_fill_53178 1 = .ok (.istore_n 2, 1) := by decide +kernel
theorem dJ7_fill_53178_2 : decode cJ7_fill_53178 2 = .ok (.aload_n 0, 1) := by decide +kernel
theorem dJ7_fill_53178_3 : decode cJ7_fill_53178 3 = .ok (.arraylength, 1) := by decide +kernel
theorem dJ7_fill_53178_4 : decode cJ7_fill_53178 4 = .ok (.istore_n 3, 1) := by decide +kernel
theorem dJ7_fill_53178_5 : decode cJ7_fill_53178 5 = .ok (.iload_n 2, 1) := by decide +kernel
theorem dJ7_fill_53178_6 : decode cJ7_fill_53178 6 = .ok (.iload_n 3, 1) := by decide +kernel
theorem dJ7_fill_53178_7 : decode cJ7_fill_53178 7 = .ok (.if_icmp .ge 13, 3) := by decide +kernel
theorem dJ7_fill_53178_10 : decode cJ7_fill_53178 10 = .ok (.aload_n 0, 1) := by decide +kernel
theorem dJ7_fill_53178_11 : decode cJ7_fill_53178 11 = .ok (.iload_n 2, 1) := by decide +kernel
theorem dJ7_fill_53178_12 : decode cJ7_fill_53178 12 = .ok (.iload_n 1, 1) := by decide +kernel
theorem dJ7_fill_53178_13 : decode cJ7_fill_53178 13 = .ok (.iastore, 1) := by decide +kernel
theorem dJ7_fill_53178_14 : decode cJ7_fill_53178 14 = .ok (.iinc 2 1, 3) := by decide +kernel
theorem dJ7_fill_53178_17 : decode cJ7_fill_53178 17 = .ok (.goto (-12), 3) := by decide +kernel
theorem dJ7_fill_53178_20 : decode cJ7_fill_53178 20 = .ok (.return_, 1) := by decide +kernel
theorem dL_cell_0 : decode cL_cell 0 = .ok (.iload_n 1, 1) := by decide +kernel
theorem dL_cell_1 : decode cL_cell 1 = .ok (.aload_n 0, 1) := by decide +kernel
theorem dL_cell_2 : decode cL_cell 2 = .ok (.arraylength, 1) := by decide +kernel
theorem dL_cell_3 : decode cL_cell 3 = .ok (.if_icmp .ge 9, 3) := by decide +kernel
theorem dL_cell_6 : decode cL_cell 6 = .ok (.aload_n 0, 1) := by decide +kernel
theorem dL_cell_7 : decode cL_cell 7 = .ok (.iload_n 1, 1) := by decide +kernel
theorem dL_cell_8 : decode cL_cell 8 = .ok (.iaload, 1) := by decide +kernel
theorem dL_cell_9 : decode cL_cell 9 = .ok (.goto 15, 3) := by decide +kernel
theorem dL_cell_12 : decode cL_cell 12 = .ok (.ldc 7, 2) := by decide +kernel
theorem dL_cell_14 : decode cL_cell 14 = .ok (.iload_n 1, 1) := by decide +kernel
theorem dL_cell_15 : decode cL_cell 15 = .ok (.sipush 8009, 3) := by decide +kernel
theorem dL_cell_18 : decode cL_cell 18 = .ok (.irem, 1) := by decide +kernel
theorem dL_cell_19 : decode cL_cell 19 = .ok (.imul, 1) := by decide +kernel
theorem dL_cell_20 : decode cL_cell 20 = .ok (.sipush 3571, 3) := by decide +kernel
theorem dL_cell_23 : decode cL_cell 23 = .ok (.iadd, 1) := by decide +kernel
theorem dL_cell_24 : decode cL_cell 24 = .ok (.ldc 8, 2) := by decide +kernel
theorem dL_cell_26 : decode cL_cell 26 = .ok (.iand, 1) := by decide +kernel
theorem dL_cell_27 : decode cL_cell 27 = .ok (.ireturn, 1) := by decide +kernel

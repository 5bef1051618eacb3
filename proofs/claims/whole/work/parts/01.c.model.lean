theorem dX5_init_0 : decode cX5_init 0 = .ok (.aload_n 0, 1) := by decide +kernel
theorem dX5_init_1 : decode cX5_init 1 = .ok (.invokespecial 1, 3) := by decide +kernel
theorem dX5_init_4 : decode cX5_init 4 = .ok (.aload_n 0, 1) := by decide +kernel
theorem dX5_init_5 : decode cX5_init 5 = .ok (.bipush 9, 2) := by decide +kernel
theorem dX5_init_7 : decode cX5_init 7 = .ok (.newarray .int, 2) := by decide +kernel
theorem dX5_init_9 : decode cX5_init 9 = .ok (.putfield 7, 3) := by decide +kernel
theorem dX5_init_12 : decode cX5_init 12 = .ok (.aload_n 0, 1) := by decide +kernel
theorem dX5_init_13 : decode cX5_init 13 = .ok (.bipush 9, 2) := by decide +kernel
theorem dX5_init_15 : decode cX5_init 15 = .ok (.newarray .int, 2) := by decide +kernel
theorem dX5_init_17 : decode cX5_init 17 = .ok (.putfield 13, 3) := by decide +kernel
theorem dX5_init_20 : decode cX5_init 20 = .ok (.aload_n 0, 1) := by decide +kernel
theorem dX5_init_21 : decode cX5_init 21 = .ok (.bipush 8, 2) := by decide +kernel
theorem dX5_init_23 : decode cX5_init 23 = .ok (.newarray .int, 2) := by decide +kernel
theorem dX5_init_25 : decode cX5_init 25 = .ok (.putfield 16, 3) := by decide +kernel
theorem dX5_init_28 : decode cX5_init 28 = .ok (.aload_n 0, 1) := by decide +kernel
theorem dX5_init_29 : decode cX5_init 29 = .ok (.bipush 8, 2) := by decide +kernel
theorem dX5_init_31 : decode cX5_init 31 = .ok (.newarray .int, 2) := by decide +kernel
theorem dX5_init_33 : decode cX5_init 33 = .ok (.putfield 19, 3) := by decide +kernel
theorem dX5_init_36 : decode cX5_init 36 = .ok (.aload_n 0, 1) := by decide +kernel
theorem dX5_init_37 : decode cX5_init 37 = .ok (.bipush 8, 2) := by decide +kernel
theorem dX5_init_39 : decode cX5_init 39 = .ok (.newarray .int, 2) := by decide +kernel
theorem dX5_init_41 : decode cX5_init 41 = .ok (.putfield 22, 3) := by decide +kernel
theorem dX5_init_44 : decode cX5_init 44 = .ok (.aload_n 0, 1) := by decide +kernel
theorem dX5_init_45 : decode cX5_init 45 = .ok (.bipush 8, 2) := by decide +kernel
theorem dX5_init_47 : decode cX5_init 47 = .ok (.newarray .int, 2) := by decide +kernel
theorem dX5_init_49 : decode cX5_init 49 = .ok (.putfield 25, 3) := by decide +kernel
theorem dX5_init_52 : decode cX5_init 52 = .ok (.aload_n 0, 1) := by decide +kernel
theorem dX5_init_53 : decode cX5_init 53 = .ok (.bipush 6, 2) := by decide +kernel
theorem dX5_init_55 : decode cX5_init 55 = .ok (.newarray .int, 2) := by decide +kernel
theorem dX5_init_57 : decode cX5_init 57 = .ok (.putfield 28, 3) := by decide +kernel
theorem dX5_init_60 : decode cX5_init 60 = .ok (.aload_n 0, 1) := by decide +kernel
theorem dX5_init_61 : decode cX5_init 61 = .ok (.bipush 6, 2) := by decide +kernel
theorem dX5_init_63 : decode cX5_init 63 = .ok (.newarray .int, 2) := by decide +kernel
theorem dX5_init_65 : decode cX5_init 65 = .ok (.putfield 31, 3) := by decide +kernel
theorem dX5_init_68 : decode cX5_init 68 = .ok (.aload_n 0, 1) := by decide +kernel
theorem dX5_init_69 : decode cX5_init 69 = .ok (.sipush 336, 3) := by decide +kernel
theorem dX5_init_72 : decode cX5_init 72 = .ok (.newarray .int, 2) := by decide +kernel
theorem dX5_init_74 : decode cX5_init 74 = .ok (.putfield 34, 3) := by decide +kernel
theorem dX5_init_77 : decode cX5_init 77 = .ok (.aload_n 0, 1) := by decide +kernel
theorem dX5_init_78 : decode cX5_init 78 = .ok (.sipush 5376, 3) := by decide +kernel
theorem dX5_init_81 : decode cX5_init 81 = .ok (.newarray .long, 2) := by decide +kernel
theorem dX5_init_83 : decode cX5_init 83 = .ok (.putfield 37, 3) := by decide +kernel
theorem dX5_init_86 : decode cX5_init 86 = .ok (.return_, 1) := by decide +kernel
theorem dX5_thrown_0 : decode cX5_thrown 0 = .ok (.aload_n 0, 1) := by decide +kernel
theorem dX5_thrown_1 : decode cX5_thrown 1 = .ok (.getfield 41, 3) := by decide +kernel
theorem dX5_thrown_4 : decode cX5_thrown 4 = .ok (.ireturn, 1) := by decide +kernel
theorem dX5_goes_0 : decode cX5_goes 0 = .ok (.aload_n 0, 1) := by decide +kernel
theorem dX5_goes_1 : decode cX5_goes 1 = .ok (.iload_n 1, 1) := by decide +kernel
theorem dX5_goes_2 : decode cX5_goes 2 = .ok (.ifCond .ne 7, 3) := by decide +kernel
theorem dX5_goes_5 : decode cX5_goes 5 = .ok (.iconst 1, 1) := by decide +kernel
theorem dX5_goes_6 : decode cX5_goes 6 = .ok (.goto 12, 3) := by decide +kernel
theorem dX5_goes_9 : decode cX5_goes 9 = .ok (.iload_n 2, 1) := by decide +kernel
theorem dX5_goes_10 : decode cX5_goes 10 = .ok (.ifCond .ne 7, 3) := by decide +kernel
theorem dX5_goes_13 : decode cX5_goes 13 = .ok (.iconst 2, 1) := by decide +kernel
theorem dX5_goes_14 : decode cX5_goes 14 = .ok (.goto 4, 3) := by decide +kernel
theorem dX5_goes_17 : decode cX5_goes 17 = .ok (.iconst 0, 1) := by decide +kernel
theorem dX5_goes_18 : decode cX5_goes 18 = .ok (.putfield 41, 3) := by decide +kernel
theorem dX5_goes_21 : decode cX5_goes 21 = .ok (.aload_n 0, 1) := by decide +kernel
theorem dX5_goes_22 : decode cX5_goes 22 = .ok (.getfield 41, 3) := by decide +kernel
theorem dX5_goes_25 : decode cX5_goes 25 = .ok (.ifCond .ne 7, 3) := by decide +kernel
theorem dX5_goes_28 : decode cX5_goes 28 = .ok (.iconst 1, 1) := by decide +kernel
theorem dX5_goes_29 : decode cX5_goes 29 = .ok (.goto 4, 3) := by decide +kernel
theorem dX5_goes_32 : decode cX5_goes 32 = .ok (.iconst 0, 1) := by decide +kernel
theorem dX5_goes_33 : decode cX5_goes 33 = .ok (.ireturn, 1) := by decide +kernel
theorem dX5_isWithin_0 : decode cX5_isWithin 0 = .ok (.iload_n 0, 1) := by decide +kernel
theorem dX5_isWithin_1 : decode cX5_isWithin 1 = .ok (.iload_n 1, 1) := by decide +kernel
theorem dX5_isWithin_2 : decode cX5_isWithin 2 = .ok (.if_icmp .lt 12, 3) := by decide +kernel
theorem dX5_isWithin_5 : decode cX5_isWithin 5 = .ok (.iload_n 0, 1) := by decide +kernel
theorem dX5_isWithin_6 : decode cX5_isWithin 6 = .ok (.iload_n 2, 1) := by decide +kernel
theorem dX5_isWithin_7 : decode cX5_isWithin 7 = .ok (.if_icmp .gt 7, 3) := by decide +kernel
theorem dX5_isWithin_10 : decode cX5_isWithin 10 = .ok (.iconst 1, 1) := by decide +kernel
theorem dX5_isWithin_11 : decode cX5_isWithin 11 = .ok (.goto 4, 3) := by decide +kernel
theorem dX5_isWithin_14 : decode cX5_isWithin 14 = .ok (.iconst 0, 1) := by decide +kernel
theorem dX5_isWithin_15 : decode cX5_isWithin 15 = .ok (.ireturn, 1) := by decide +kernel
theorem dX5_isWord_0 : decode cX5_isWord 0 = .ok (.iload_n 1, 1) := by decide +kernel
theorem dX5_isWord_1 : decode cX5_isWord 1 = .ok (.ifCond .lt 15, 3) := by decide +kernel
theorem dX5_isWord_4 : decode cX5_isWord 4 = .ok (.iload_n 1, 1) := by decide +kernel
theorem dX5_isWord_5 : decode cX5_isWord 5 = .ok (.aload_n 0, 1) := by decide +kernel
theorem dX5_isWord_6 : decode cX5_isWord 6 = .ok (.getfield 45, 3) := by decide +kernel
theorem dX5_isWord_9 : decode cX5_isWord 9 = .ok (.if_icmp .ge 7, 3) := by decide +kernel
theorem dX5_isWord_12 : decode cX5_isWord 12 = .ok (.iconst 1, 1) := by decide +kernel
theorem dX5_isWord_13 : decode cX5_isWord 13 = .ok (.goto 4, 3) := by decide +kernel
theorem dX5_isWord_16 : decode cX5_isWord 16 = .ok (.iconst 0, 1) := by decide +kernel
theorem dX5_isWord_17 : decode cX5_isWord 17 = .ok (.ireturn, 1) := by decide +kernel
theorem dX5_isPair_0 : decode cX5_isPair 0 = .ok (.iload_n 0, 1) := by decide +kernel
theorem dX5_isPair_1 : decode cX5_isPair 1 = .ok (.ifCond .lt 23, 3) := by decide +kernel
theorem dX5_isPair_4 : decode cX5_isPair 4 = .ok (.iload_n 0, 1) := by decide +kernel
theorem dX5_isPair_5 : decode cX5_isPair 5 = .ok (.bipush 10, 2) := by decide +kernel
theorem dX5_isPair_7 : decode cX5_isPair 7 = .ok (.idiv, 1) := by decide +kernel
theorem dX5_isPair_8 : decode cX5_isPair 8 = .ok (.iconst 3, 1) := by decide +kernel
theorem dX5_isPair_9 : decode cX5_isPair 9 = .ok (.if_icmp .gt 15, 3) := by decide +kernel
theorem dX5_isPair_12 : decode cX5_isPair 12 = .ok (.iload_n 0, 1) := by decide +kernel
theorem dX5_isPair_13 : decode cX5_isPair 13 = .ok (.bipush 10, 2) := by decide +kernel
theorem dX5_isPair_15 : decode cX5_isPair 15 = .ok (.irem, 1) := by decide +kernel
theorem dX5_isPair_16 : decode cX5_isPair 16 = .ok (.iconst 3, 1) := by decide +kernel
theorem dX5_isPair_17 : decode cX5_isPair 17 = .ok (.if_icmp .gt 7, 3) := by decide +kernel
theorem dX5_isPair_20 : decode cX5_isPair 20 = .ok (.iconst 1, 1) := by decide +kernel
theorem dX5_isPair_21 : decode cX5_isPair 21 = .ok (.goto 4, 3) := by decide +kernel
theorem dX5_isPair_24 : decode cX5_isPair 24 = .ok (.iconst 0, 1) := by decide +kernel
theorem dX5_isPair_25 : decode cX5_isPair 25 = .ok (.ireturn, 1) := by decide +kernel
set_option maxRecDepth 20000 in
theorem ggX5_areValues_X5_isWithin : GoodIn wsX5_areValues wsX5_isWithin := goodIn_r _ [4] (by decide +kernel) (by decide +kernel)
set_option maxRecDepth 20000 in
theorem gX5_areValues_X5_isWithin : GoodIn wsX5_areValues (va_wsS RX5 48 yX5_isWithin wsX5_isWithin) := goodIn_app (goodIn_of _ (by decide +kernel)) ggX5_areValues_X5_isWithin
theorem dX5_areValues_0 : decode cX5_areValues 0 = .ok (.iload_n 0, 1) := by decide +kernel
theorem dX5_areValues_1 : decode cX5_areValues 1 = .ok (.iconst 0, 1) := by decide +kernel
theorem dX5_areValues_2 : decode cX5_areValues 2 = .ok (.bipush 7, 2) := by decide +kernel
theorem dX5_areValues_4 : decode cX5_areValues 4 = .ok (.invokestatic 48, 3) := by decide +kernel
theorem dX5_areValues_7 : decode cX5_areValues 7 = .ok (.ifCond .eq 25, 3) := by decide +kernel
theorem dX5_areValues_10 : decode cX5_areValues 10 = .ok (.iload_n 1, 1) := by decide +kernel
theorem dX5_areValues_11 : decode cX5_areValues 11 = .ok (.iconst 0, 1) := by decide +kernel
theorem dX5_areValues_12 : decode cX5_areValues 12 = .ok (.iconst 3, 1) := by decide +kernel
theorem dX5_areValues_13 : decode cX5_areValues 13 = .ok (.invokestatic 48, 3) := by decide +kernel
theorem dX5_areValues_16 : decode cX5_areValues 16 = .ok (.ifCond .eq 16, 3) := by decide +kernel
theorem dX5_areValues_19 : decode cX5_areValues 19 = .ok (.iload_n 2, 1) := by decide +kernel
theorem dX5_areValues_20 : decode cX5_areValues 20 = .ok (.iconst 0, 1) := by decide +kernel
theorem dX5_areValues_21 : decode cX5_areValues 21 = .ok (.iconst 3, 1) := by decide +kernel
theorem dX5_areValues_22 : decode cX5_areValues 22 = .ok (.invokestatic 48, 3) := by decide +kernel
theorem dX5_areValues_25 : decode cX5_areValues 25 = .ok (.ifCond .eq 7, 3) := by decide +kernel
theorem dX5_areValues_28 : decode cX5_areValues 28 = .ok (.iconst 1, 1) := by decide +kernel
theorem dX5_areValues_29 : decode cX5_areValues 29 = .ok (.goto 4, 3) := by decide +kernel
theorem dX5_areValues_32 : decode cX5_areValues 32 = .ok (.iconst 0, 1) := by decide +kernel
theorem dX5_areValues_33 : decode cX5_areValues 33 = .ok (.ireturn, 1) := by decide +kernel
set_option maxRecDepth 20000 in
theorem ggX5_addWord_X5_areValues : GoodIn wsX5_addWord wsX5_areValues := goodIn_r _ [7, 8, 9, 6, 10] (by decide +kernel) (by decide +kernel)
set_option maxRecDepth 20000 in
theorem gX5_addWord_X5_areValues : GoodIn wsX5_addWord (va_wsS RX5 52 yX5_areValues wsX5_areValues) := goodIn_app (goodIn_of _ (by decide +kernel)) ggX5_addWord_X5_areValues
set_option maxRecDepth 20000 in
theorem ggX5_addWord_X5_goes : GoodIn wsX5_addWord wsX5_goes := goodIn_r _ [14, 15, 16, 17, 18, 19, 20, 21, 22, 23, 24, 25, 26, 27, 28, 29, 30] (by decide +kernel) (by decide +kernel)
set_option maxRecDepth 20000 in
theorem gX5_addWord_X5_goes : GoodIn wsX5_addWord (wsV RX5 55 RX5 yX5_goes wsX5_goes) := goodIn_app (goodIn_of _ (by decide +kernel)) ggX5_addWord_X5_goes
theorem dX5_addWord_0 : decode cX5_addWord 0 = .ok (.aload_n 0, 1) := by decide +kernel
theorem dX5_addWord_1 : decode cX5_addWord 1 = .ok (.iload_n 1, 1) := by decide +kernel
theorem dX5_addWord_2 : decode cX5_addWord 2 = .ok (.iload_n 2, 1) := by decide +kernel
theorem dX5_addWord_3 : decode cX5_addWord 3 = .ok (.iload_n 3, 1) := by decide +kernel
theorem dX5_addWord_4 : decode cX5_addWord 4 = .ok (.invokestatic 52, 3) := by decide +kernel
theorem dX5_addWord_7 : decode cX5_addWord 7 = .ok (.aload_n 0, 1) := by decide +kernel
theorem dX5_addWord_8 : decode cX5_addWord 8 = .ok (.getfield 45, 3) := by decide +kernel
theorem dX5_addWord_11 : decode cX5_addWord 11 = .ok (.bipush 9, 2) := by decide +kernel
theorem dX5_addWord_13 : decode cX5_addWord 13 = .ok (.if_icmp .ge 7, 3) := by decide +kernel
theorem dX5_addWord_16 : decode cX5_addWord 16 = .ok (.iconst 1, 1) := by decide +kernel
theorem dX5_addWord_17 : decode cX5_addWord 17 = .ok (.goto 4, 3) := by decide +kernel
theorem dX5_addWord_20 : decode cX5_addWord 20 = .ok (.iconst 0, 1) := by decide +kernel
theorem dX5_addWord_21 : decode cX5_addWord 21 = .ok (.invokevirtual 55, 3) := by decide +kernel
theorem dX5_addWord_24 : decode cX5_addWord 24 = .ok (.ifCond .ne 5, 3) := by decide +kernel
theorem dX5_addWord_27 : decode cX5_addWord 27 = .ok (.iconst 0, 1) := by decide +kernel
theorem dX5_addWord_28 : decode cX5_addWord 28 = .ok (.ireturn, 1) := by decide +kernel
theorem dX5_addWord_29 : decode cX5_addWord 29 = .ok (.aload_n 0, 1) := by decide +kernel
theorem dX5_addWord_30 : decode cX5_addWord 30 = .ok (.getfield 7, 3) := by decide +kernel
theorem dX5_addWord_33 : decode cX5_addWord 33 = .ok (.aload_n 0, 1) := by decide +kernel
theorem dX5_addWord_34 : decode cX5_addWord 34 = .ok (.getfield 45, 3) := by decide +kernel
theorem dX5_addWord_37 : decode cX5_addWord 37 = .ok (.iload_n 1, 1) := by decide +kernel
theorem dX5_addWord_38 : decode cX5_addWord 38 = .ok (.iastore, 1) := by decide +kernel
theorem dX5_addWord_39 : decode cX5_addWord 39 = .ok (.aload_n 0, 1) := by decide +kernel
theorem dX5_addWord_40 : decode cX5_addWord 40 = .ok (.getfield 13, 3) := by decide +kernel
theorem dX5_addWord_43 : decode cX5_addWord 43 = .ok (.aload_n 0, 1) := by decide +kernel
theorem dX5_addWord_44 : decode cX5_addWord 44 = .ok (.getfield 45, 3) := by decide +kernel
theorem dX5_addWord_47 : decode cX5_addWord 47 = .ok (.iconst 4, 1) := by decide +kernel
theorem dX5_addWord_48 : decode cX5_addWord 48 = .ok (.iload_n 2, 1) := by decide +kernel
theorem dX5_addWord_49 : decode cX5_addWord 49 = .ok (.imul, 1) := by decide +kernel
theorem dX5_addWord_50 : decode cX5_addWord 50 = .ok (.iload_n 3, 1) := by decide +kernel
theorem dX5_addWord_51 : decode cX5_addWord 51 = .ok (.iadd, 1) := by decide +kernel
theorem dX5_addWord_52 : decode cX5_addWord 52 = .ok (.iastore, 1) := by decide +kernel
theorem dX5_addWord_53 : decode cX5_addWord 53 = .ok (.aload_n 0, 1) := by decide +kernel
theorem dX5_addWord_54 : decode cX5_addWord 54 = .ok (.dup, 1) := by decide +kernel
theorem dX5_addWord_55 : decode cX5_addWord 55 = .ok (.getfield 45, 3) := by decide +kernel
theorem dX5_addWord_58 : decode cX5_addWord 58 = .ok (.iconst 1, 1) := by decide +kernel
theorem dX5_addWord_59 : decode cX5_addWord 59 = .ok (.iadd, 1) := by decide +kernel
theorem dX5_addWord_60 : decode cX5_addWord 60 = .ok (.putfield 45, 3) := by decide +kernel
theorem dX5_addWord_63 : decode cX5_addWord 63 = .ok (.aload_n 0, 1) := by decide +kernel
theorem dX5_addWord_64 : decode cX5_addWord 64 = .ok (.getfield 45, 3) := by decide +kernel
theorem dX5_addWord_67 : decode cX5_addWord 67 = .ok (.iconst 1, 1) := by decide +kernel
theorem dX5_addWord_68 : decode cX5_addWord 68 = .ok (.isub, 1) := by decide +kernel
theorem dX5_addWord_69 : decode cX5_addWord 69 = .ok (.ireturn, 1) := by decide +kernel
set_option maxRecDepth 20000 in
theorem ggX5_setWord_X5_isWord : GoodIn wsX5_setWord wsX5_isWord := goodIn_r _ [7, 8, 20, 21, 22, 23, 24, 25, 26, 27, 28, 29, 30, 31, 32, 33, 34] (by decide +kernel) (by decide +kernel)
set_option maxRecDepth 20000 in
theorem gX5_setWord_X5_isWord : GoodIn wsX5_setWord (wsV RX5 59 RX5 yX5_isWord wsX5_isWord) := goodIn_app (goodIn_of _ (by decide +kernel)) ggX5_setWord_X5_isWord
set_option maxRecDepth 20000 in
theorem ggX5_setWord_X5_areValues : GoodIn wsX5_setWord wsX5_areValues := goodIn_r _ [11, 12, 13, 6, 14] (by decide +kernel) (by decide +kernel)
set_option maxRecDepth 20000 in
theorem gX5_setWord_X5_areValues : GoodIn wsX5_setWord (va_wsS RX5 52 yX5_areValues wsX5_areValues) := goodIn_app (goodIn_of _ (by decide +kernel)) ggX5_setWord_X5_areValues
set_option maxRecDepth 20000 in
theorem ggX5_setWord_X5_goes : GoodIn wsX5_setWord wsX5_goes := goodIn_r _ [18, 19, 20, 21, 22, 23, 24, 25, 26, 27, 28, 29, 30, 31, 32, 33, 34] (by decide +kernel) (by decide +kernel)
set_option maxRecDepth 20000 in
theorem gX5_setWord_X5_goes : GoodIn wsX5_setWord (wsV RX5 55 RX5 yX5_goes wsX5_goes) := goodIn_app (goodIn_of _ (by decide +kernel)) ggX5_setWord_X5_goes
theorem dX5_setWord_0 : decode cX5_setWord 0 = .ok (.aload_n 0, 1) := by decide +kernel
theorem dX5_setWord_1 : decode cX5_setWord 1 = .ok (.aload_n 0, 1) := by decide +kernel
theorem dX5_setWord_2 : decode cX5_setWord 2 = .ok (.iload_n 1, 1) := by decide +kernel
theorem dX5_setWord_3 : decode cX5_setWord 3 = .ok (.invokevirtual 59, 3) := by decide +kernel
theorem dX5_setWord_6 : decode cX5_setWord 6 = .ok (.iload_n 2, 1) := by decide +kernel
theorem dX5_setWord_7 : decode cX5_setWord 7 = .ok (.iload_n 3, 1) := by decide +kernel
theorem dX5_setWord_8 : decode cX5_setWord 8 = .ok (.iload 4, 2) := by decide +kernel
theorem dX5_setWord_10 : decode cX5_setWord 10 = .ok (.invokestatic 52, 3) := by decide +kernel
theorem dX5_setWord_13 : decode cX5_setWord 13 = .ok (.invokevirtual 55, 3) := by decide +kernel
theorem dX5_setWord_16 : decode cX5_setWord 16 = .ok (.ifCond .ne 5, 3) := by decide +kernel
theorem dX5_setWord_19 : decode cX5_setWord 19 = .ok (.iconst 0, 1) := by decide +kernel
theorem dX5_setWord_20 : decode cX5_setWord 20 = .ok (.ireturn, 1) := by decide +kernel
theorem dX5_setWord_21 : decode cX5_setWord 21 = .ok (.aload_n 0, 1) := by decide +kernel
theorem dX5_setWord_22 : decode cX5_setWord 22 = .ok (.getfield 7, 3) := by decide +kernel
theorem dX5_setWord_25 : decode cX5_setWord 25 = .ok (.iload_n 1, 1) := by decide +kernel
theorem dX5_setWord_26 : decode cX5_setWord 26 = .ok (.iaload, 1) := by decide +kernel
theorem dX5_setWord_27 : decode cX5_setWord 27 = .ok (.istore 5, 2) := by decide +kernel
theorem dX5_setWord_29 : decode cX5_setWord 29 = .ok (.aload_n 0, 1) := by decide +kernel
theorem dX5_setWord_30 : decode cX5_setWord 30 = .ok (.getfield 7, 3) := by decide +kernel
theorem dX5_setWord_33 : decode cX5_setWord 33 = .ok (.iload_n 1, 1) := by decide +kernel
theorem dX5_setWord_34 : decode cX5_setWord 34 = .ok (.iload_n 2, 1) := by decide +kernel
theorem dX5_setWord_35 : decode cX5_setWord 35 = .ok (.iastore, 1) := by decide +kernel
theorem dX5_setWord_36 : decode cX5_setWord 36 = .ok (.aload_n 0, 1) := by decide +kernel
theorem dX5_setWord_37 : decode cX5_setWord 37 = .ok (.getfield 13, 3) := by decide +kernel
theorem dX5_setWord_40 : decode cX5_setWord 40 = .ok (.iload_n 1, 1) := by decide +kernel
theorem dX5_setWord_41 : decode cX5_setWord 41 = .ok (.iconst 4, 1) := by decide +kernel
theorem dX5_setWord_42 : decode cX5_setWord 42 = .ok (.iload_n 3, 1) := by decide +kernel
theorem dX5_setWord_43 : decode cX5_setWord 43 = .ok (.imul, 1) := by decide +kernel
theorem dX5_setWord_44 : decode cX5_setWord 44 = .ok (.iload 4, 2) := by decide +kernel
theorem dX5_setWord_46 : decode cX5_setWord 46 = .ok (.iadd, 1) := by decide +kernel
theorem dX5_setWord_47 : decode cX5_setWord 47 = .ok (.iastore, 1) := by decide +kernel
theorem dX5_setWord_48 : decode cX5_setWord 48 = .ok (.iload 5, 2) := by decide +kernel
theorem dX5_setWord_50 : decode cX5_setWord 50 = .ok (.ireturn, 1) := by decide +kernel
set_option maxRecDepth 20000 in
theorem ggX5_addRule_X5_isWithin : GoodIn wsX5_addRule wsX5_isWithin := goodIn_r _ [9] (by decide +kernel) (by decide +kernel)
set_option maxRecDepth 20000 in
theorem gX5_addRule_X5_isWithin : GoodIn wsX5_addRule (va_wsS RX5 48 yX5_isWithin wsX5_isWithin) := goodIn_app (goodIn_of _ (by decide +kernel)) ggX5_addRule_X5_isWithin
set_option maxRecDepth 20000 in
theorem ggX5_addRule_X5_isPair : GoodIn wsX5_addRule wsX5_isPair := goodIn_r _ [12] (by decide +kernel) (by decide +kernel)
set_option maxRecDepth 20000 in
theorem gX5_addRule_X5_isPair : GoodIn wsX5_addRule (va_wsS RX5 63 yX5_isPair wsX5_isPair) := goodIn_app (goodIn_of _ (by decide +kernel)) ggX5_addRule_X5_isPair
set_option maxRecDepth 20000 in
theorem ggX5_addRule_X5_goes : GoodIn wsX5_addRule wsX5_goes := goodIn_r _ [16, 17, 18, 19, 20, 21, 22, 23, 24, 25, 26, 27, 28, 29, 30, 31, 32] (by decide +kernel) (by decide +kernel)
set_option maxRecDepth 20000 in
theorem gX5_addRule_X5_goes : GoodIn wsX5_addRule (wsV RX5 55 RX5 yX5_goes wsX5_goes) := goodIn_app (goodIn_of _ (by decide +kernel)) ggX5_addRule_X5_goes
theorem dX5_addRule_0 : decode cX5_addRule 0 = .ok (.iload_n 1, 1) := by decide +kernel
theorem dX5_addRule_1 : decode cX5_addRule 1 = .ok (.iconst 0, 1) := by decide +kernel
theorem dX5_addRule_2 : decode cX5_addRule 2 = .ok (.bipush 7, 2) := by decide +kernel
theorem dX5_addRule_4 : decode cX5_addRule 4 = .ok (.invokestatic 48, 3) := by decide +kernel
theorem dX5_addRule_7 : decode cX5_addRule 7 = .ok (.ifCond .eq 35, 3) := by decide +kernel
theorem dX5_addRule_10 : decode cX5_addRule 10 = .ok (.iload_n 2, 1) := by decide +kernel
theorem dX5_addRule_11 : decode cX5_addRule 11 = .ok (.iconst 0, 1) := by decide +kernel
theorem dX5_addRule_12 : decode cX5_addRule 12 = .ok (.bipush 7, 2) := by decide +kernel
theorem dX5_addRule_14 : decode cX5_addRule 14 = .ok (.invokestatic 48, 3) := by decide +kernel
theorem dX5_addRule_17 : decode cX5_addRule 17 = .ok (.ifCond .eq 25, 3) := by decide +kernel
theorem dX5_addRule_20 : decode cX5_addRule 20 = .ok (.iload_n 3, 1) := by decide +kernel
theorem dX5_addRule_21 : decode cX5_addRule 21 = .ok (.iconst 0, 1) := by decide +kernel
theorem dX5_addRule_22 : decode cX5_addRule 22 = .ok (.bipush 7, 2) := by decide +kernel
theorem dX5_addRule_24 : decode cX5_addRule 24 = .ok (.invokestatic 48, 3) := by decide +kernel
theorem dX5_addRule_27 : decode cX5_addRule 27 = .ok (.ifCond .eq 15, 3) := by decide +kernel
theorem dX5_addRule_30 : decode cX5_addRule 30 = .ok (.iload 4, 2) := by decide +kernel
theorem dX5_addRule_32 : decode cX5_addRule 32 = .ok (.invokestatic 63, 3) := by decide +kernel
theorem dX5_addRule_35 : decode cX5_addRule 35 = .ok (.ifCond .eq 7, 3) := by decide +kernel
theorem dX5_addRule_38 : decode cX5_addRule 38 = .ok (.iconst 1, 1) := by decide +kernel
theorem dX5_addRule_39 : decode cX5_addRule 39 = .ok (.goto 4, 3) := by decide +kernel
theorem dX5_addRule_42 : decode cX5_addRule 42 = .ok (.iconst 0, 1) := by decide +kernel
theorem dX5_addRule_43 : decode cX5_addRule 43 = .ok (.istore 5, 2) := by decide +kernel
theorem dX5_addRule_45 : decode cX5_addRule 45 = .ok (.aload_n 0, 1) := by decide +kernel
theorem dX5_addRule_46 : decode cX5_addRule 46 = .ok (.iload 5, 2) := by decide +kernel
theorem dX5_addRule_48 : decode cX5_addRule 48 = .ok (.aload_n 0, 1) := by decide +kernel
theorem dX5_addRule_49 : decode cX5_addRule 49 = .ok (.getfield 66, 3) := by decide +kernel
theorem dX5_addRule_52 : decode cX5_addRule 52 = .ok (.bipush 8, 2) := by decide +kernel
theorem dX5_addRule_54 : decode cX5_addRule 54 = .ok (.if_icmp .ge 7, 3) := by decide +kernel
theorem dX5_addRule_57 : decode cX5_addRule 57 = .ok (.iconst 1, 1) := by decide +kernel
theorem dX5_addRule_58 : decode cX5_addRule 58 = .ok (.goto 4, 3) := by decide +kernel
theorem dX5_addRule_61 : decode cX5_addRule 61 = .ok (.iconst 0, 1) := by decide +kernel
theorem dX5_addRule_62 : decode cX5_addRule 62 = .ok (.invokevirtual 55, 3) := by decide +kernel
theorem dX5_addRule_65 : decode cX5_addRule 65 = .ok (.ifCond .ne 5, 3) := by decide +kernel
theorem dX5_addRule_68 : decode cX5_addRule 68 = .ok (.iconst 0, 1) := by decide +kernel
theorem dX5_addRule_69 : decode cX5_addRule 69 = .ok (.ireturn, 1) := by decide +kernel
theorem dX5_addRule_70 : decode cX5_addRule 70 = .ok (.aload_n 0, 1) := by decide +kernel
theorem dX5_addRule_71 : decode cX5_addRule 71 = .ok (.getfield 16, 3) := by decide +kernel
theorem dX5_addRule_74 : decode cX5_addRule 74 = .ok (.aload_n 0, 1) := by decide +kernel
theorem dX5_addRule_75 : decode cX5_addRule 75 = .ok (.getfield 66, 3) := by decide +kernel
theorem dX5_addRule_78 : decode cX5_addRule 78 = .ok (.iload_n 1, 1) := by decide +kernel
theorem dX5_addRule_79 : decode cX5_addRule 79 = .ok (.iastore, 1) := by decide +kernel
theorem dX5_addRule_80 : decode cX5_addRule 80 = .ok (.aload_n 0, 1) := by decide +kernel
theorem dX5_addRule_81 : decode cX5_addRule 81 = .ok (.getfield 19, 3) := by decide +kernel
theorem dX5_addRule_84 : decode cX5_addRule 84 = .ok (.aload_n 0, 1) := by decide +kernel
theorem dX5_addRule_85 : decode cX5_addRule 85 = .ok (.getfield 66, 3) := by decide +kernel
theorem dX5_addRule_88 : decode cX5_addRule 88 = .ok (.iload_n 2, 1) := by decide +kernel
theorem dX5_addRule_89 : decode cX5_addRule 89 = .ok (.iastore, 1) := by decide +kernel
theorem dX5_addRule_90 : decode cX5_addRule 90 = .ok (.aload_n 0, 1) := by decide +kernel
theorem dX5_addRule_91 : decode cX5_addRule 91 = .ok (.getfield 22, 3) := by decide +kernel
theorem dX5_addRule_94 : decode cX5_addRule 94 = .ok (.aload_n 0, 1) := by decide +kernel
theorem dX5_addRule_95 : decode cX5_addRule 95 = .ok (.getfield 66, 3) := by decide +kernel
theorem dX5_addRule_98 : decode cX5_addRule 98 = .ok (.iload_n 3, 1) := by decide +kernel
theorem dX5_addRule_99 : decode cX5_addRule 99 = .ok (.iastore, 1) := by decide +kernel
theorem dX5_addRule_100 : decode cX5_addRule 100 = .ok (.aload_n 0, 1) := by decide +kernel
theorem dX5_addRule_101 : decode cX5_addRule 101 = .ok (.getfield 25, 3) := by decide +kernel
theorem dX5_addRule_104 : decode cX5_addRule 104 = .ok (.aload_n 0, 1) := by decide +kernel
theorem dX5_addRule_105 : decode cX5_addRule 105 = .ok (.getfield 66, 3) := by decide +kernel
theorem dX5_addRule_108 : decode cX5_addRule 108 = .ok (.iload 4, 2) := by decide +kernel
theorem dX5_addRule_110 : decode cX5_addRule 110 = .ok (.iastore, 1) := by decide +kernel
theorem dX5_addRule_111 : decode cX5_addRule 111 = .ok (.aload_n 0, 1) := by decide +kernel
theorem dX5_addRule_112 : decode cX5_addRule 112 = .ok (.dup, 1) := by decide +kernel
theorem dX5_addRule_113 : decode cX5_addRule 113 = .ok (.getfield 66, 3) := by decide +kernel
theorem dX5_addRule_116 : decode cX5_addRule 116 = .ok (.iconst 1, 1) := by decide +kernel
theorem dX5_addRule_117 : decode cX5_addRule 117 = .ok (.iadd, 1) := by decide +kernel
theorem dX5_addRule_118 : decode cX5_addRule 118 = .ok (.putfield 66, 3) := by decide +kernel
theorem dX5_addRule_121 : decode cX5_addRule 121 = .ok (.aload_n 0, 1) := by decide +kernel
theorem dX5_addRule_122 : decode cX5_addRule 122 = .ok (.getfield 66, 3) := by decide +kernel
theorem dX5_addRule_125 : decode cX5_addRule 125 = .ok (.iconst 1, 1) := by decide +kernel
theorem dX5_addRule_126 : decode cX5_addRule 126 = .ok (.isub, 1) := by decide +kernel
theorem dX5_addRule_127 : decode cX5_addRule 127 = .ok (.ireturn, 1) := by decide +kernel
set_option maxRecDepth 20000 in
theorem ggX5_dropRule_X5_goes : GoodIn wsX5_dropRule wsX5_goes := goodIn_r _ [6, 7, 8, 9, 10, 11, 12, 13, 14, 15, 16, 17, 18, 19, 20, 21, 22] (by decide +kernel) (by decide +kernel)
set_option maxRecDepth 20000 in
theorem gX5_dropRule_X5_goes : GoodIn wsX5_dropRule (wsV RX5 55 RX5 yX5_goes wsX5_goes) := goodIn_app (goodIn_of _ (by decide +kernel)) ggX5_dropRule_X5_goes
theorem dX5_dropRule_0 : decode cX5_dropRule 0 = .ok (.aload_n 0, 1) := by decide +kernel
theorem dX5_dropRule_1 : decode cX5_dropRule 1 = .ok (.aload_n 0, 1) := by decide +kernel
theorem dX5_dropRule_2 : decode cX5_dropRule 2 = .ok (.getfield 66, 3) := by decide +kernel
theorem dX5_dropRule_5 : decode cX5_dropRule 5 = .ok (.ifCond .le 7, 3) := by decide +kernel
theorem dX5_dropRule_8 : decode cX5_dropRule 8 = .ok (.iconst 1, 1) := by decide +kernel
theorem dX5_dropRule_9 : decode cX5_dropRule 9 = .ok (.goto 4, 3) := by decide +kernel
theorem dX5_dropRule_12 : decode cX5_dropRule 12 = .ok (.iconst 0, 1) := by decide +kernel
theorem dX5_dropRule_13 : decode cX5_dropRule 13 = .ok (.iconst 1, 1) := by decide +kernel
theorem dX5_dropRule_14 : decode cX5_dropRule 14 = .ok (.invokevirtual 55, 3) := by decide +kernel
theorem dX5_dropRule_17 : decode cX5_dropRule 17 = .ok (.ifCond .ne 5, 3) := by decide +kernel
theorem dX5_dropRule_20 : decode cX5_dropRule 20 = .ok (.iconst 0, 1) := by decide +kernel
theorem dX5_dropRule_21 : decode cX5_dropRule 21 = .ok (.ireturn, 1) := by decide +kernel
theorem dX5_dropRule_22 : decode cX5_dropRule 22 = .ok (.aload_n 0, 1) := by decide +kernel
theorem dX5_dropRule_23 : decode cX5_dropRule 23 = .ok (.dup, 1) := by decide +kernel
theorem dX5_dropRule_24 : decode cX5_dropRule 24 = .ok (.getfield 66, 3) := by decide +kernel
theorem dX5_dropRule_27 : decode cX5_dropRule 27 = .ok (.iconst 1, 1) := by decide +kernel
theorem dX5_dropRule_28 : decode cX5_dropRule 28 = .ok (.isub, 1) := by decide +kernel
theorem dX5_dropRule_29 : decode cX5_dropRule 29 = .ok (.putfield 66, 3) := by decide +kernel
theorem dX5_dropRule_32 : decode cX5_dropRule 32 = .ok (.aload_n 0, 1) := by decide +kernel
theorem dX5_dropRule_33 : decode cX5_dropRule 33 = .ok (.getfield 66, 3) := by decide +kernel
theorem dX5_dropRule_36 : decode cX5_dropRule 36 = .ok (.ireturn, 1) := by decide +kernel
set_option maxRecDepth 20000 in
theorem ggX5_say_X5_isWord : GoodIn wsX5_say wsX5_isWord := goodIn_r _ [7, 8, 14, 15, 16, 17, 18, 19, 20, 21, 22, 23, 24, 25, 26, 27, 28] (by decide +kernel) (by decide +kernel)
set_option maxRecDepth 20000 in
theorem gX5_say_X5_isWord : GoodIn wsX5_say (wsV RX5 59 RX5 yX5_isWord wsX5_isWord) := goodIn_app (goodIn_of _ (by decide +kernel)) ggX5_say_X5_isWord
set_option maxRecDepth 20000 in
theorem ggX5_say_X5_goes : GoodIn wsX5_say wsX5_goes := goodIn_r _ [12, 13, 14, 15, 16, 17, 18, 19, 20, 21, 22, 23, 24, 25, 26, 27, 28] (by decide +kernel) (by decide +kernel)
set_option maxRecDepth 20000 in
theorem gX5_say_X5_goes : GoodIn wsX5_say (wsV RX5 55 RX5 yX5_goes wsX5_goes) := goodIn_app (goodIn_of _ (by decide +kernel)) ggX5_say_X5_goes
theorem dX5_say_0 : decode cX5_say 0 = .ok (.aload_n 0, 1) := by decide +kernel
theorem dX5_say_1 : decode cX5_say 1 = .ok (.aload_n 0, 1) := by decide +kernel
theorem dX5_say_2 : decode cX5_say 2 = .ok (.iload_n 1, 1) := by decide +kernel
theorem dX5_say_3 : decode cX5_say 3 = .ok (.invokevirtual 59, 3) := by decide +kernel
theorem dX5_say_6 : decode cX5_say 6 = .ok (.aload_n 0, 1) := by decide +kernel
theorem dX5_say_7 : decode cX5_say 7 = .ok (.getfield 69, 3) := by decide +kernel
theorem dX5_say_10 : decode cX5_say 10 = .ok (.bipush 6, 2) := by decide +kernel
theorem dX5_say_12 : decode cX5_say 12 = .ok (.if_icmp .ge 7, 3) := by decide +kernel
theorem dX5_say_15 : decode cX5_say 15 = .ok (.iconst 1, 1) := by decide +kernel
theorem dX5_say_16 : decode cX5_say 16 = .ok (.goto 4, 3) := by decide +kernel
theorem dX5_say_19 : decode cX5_say 19 = .ok (.iconst 0, 1) := by decide +kernel
theorem dX5_say_20 : decode cX5_say 20 = .ok (.invokevirtual 55, 3) := by decide +kernel
theorem dX5_say_23 : decode cX5_say 23 = .ok (.ifCond .ne 5, 3) := by decide +kernel
theorem dX5_say_26 : decode cX5_say 26 = .ok (.iconst 0, 1) := by decide +kernel
theorem dX5_say_27 : decode cX5_say 27 = .ok (.ireturn, 1) := by decide +kernel
theorem dX5_say_28 : decode cX5_say 28 = .ok (.aload_n 0, 1) := by decide +kernel
theorem dX5_say_29 : decode cX5_say 29 = .ok (.getfield 28, 3) := by decide +kernel
theorem dX5_say_32 : decode cX5_say 32 = .ok (.aload_n 0, 1) := by decide +kernel
theorem dX5_say_33 : decode cX5_say 33 = .ok (.getfield 69, 3) := by decide +kernel
theorem dX5_say_36 : decode cX5_say 36 = .ok (.iload_n 1, 1) := by decide +kernel
theorem dX5_say_37 : decode cX5_say 37 = .ok (.iastore, 1) := by decide +kernel
theorem dX5_say_38 : decode cX5_say 38 = .ok (.aload_n 0, 1) := by decide +kernel
theorem dX5_say_39 : decode cX5_say 39 = .ok (.dup, 1) := by decide +kernel
theorem dX5_say_40 : decode cX5_say 40 = .ok (.getfield 69, 3) := by decide +kernel
theorem dX5_say_43 : decode cX5_say 43 = .ok (.iconst 1, 1) := by decide +kernel
theorem dX5_say_44 : decode cX5_say 44 = .ok (.iadd, 1) := by decide +kernel
theorem dX5_say_45 : decode cX5_say 45 = .ok (.putfield 69, 3) := by decide +kernel
theorem dX5_say_48 : decode cX5_say 48 = .ok (.aload_n 0, 1) := by decide +kernel
theorem dX5_say_49 : decode cX5_say 49 = .ok (.getfield 69, 3) := by decide +kernel
theorem dX5_say_52 : decode cX5_say 52 = .ok (.ireturn, 1) := by decide +kernel
theorem dX5_isPlace_0 : decode cX5_isPlace 0 = .ok (.iload_n 1, 1) := by decide +kernel
theorem dX5_isPlace_1 : decode cX5_isPlace 1 = .ok (.ifCond .lt 15, 3) := by decide +kernel
theorem dX5_isPlace_4 : decode cX5_isPlace 4 = .ok (.iload_n 1, 1) := by decide +kernel
theorem dX5_isPlace_5 : decode cX5_isPlace 5 = .ok (.aload_n 0, 1) := by decide +kernel
theorem dX5_isPlace_6 : decode cX5_isPlace 6 = .ok (.getfield 69, 3) := by decide +kernel
theorem dX5_isPlace_9 : decode cX5_isPlace 9 = .ok (.if_icmp .ge 7, 3) := by decide +kernel
theorem dX5_isPlace_12 : decode cX5_isPlace 12 = .ok (.iconst 1, 1) := by decide +kernel
theorem dX5_isPlace_13 : decode cX5_isPlace 13 = .ok (.goto 4, 3) := by decide +kernel
theorem dX5_isPlace_16 : decode cX5_isPlace 16 = .ok (.iconst 0, 1) := by decide +kernel
theorem dX5_isPlace_17 : decode cX5_isPlace 17 = .ok (.ireturn, 1) := by decide +kernel
set_option maxRecDepth 20000 in
theorem ggX5_change_X5_isPlace : GoodIn wsX5_change wsX5_isPlace := goodIn_r _ [6, 7, 18, 19, 20, 21, 22, 23, 24, 25, 26, 27, 28, 29, 30, 31, 32] (by decide +kernel) (by decide +kernel)
set_option maxRecDepth 20000 in
theorem gX5_change_X5_isPlace : GoodIn wsX5_change (wsV RX5 72 RX5 yX5_isPlace wsX5_isPlace) := goodIn_app (goodIn_of _ (by decide +kernel)) ggX5_change_X5_isPlace
set_option maxRecDepth 20000 in
theorem ggX5_change_X5_isWord : GoodIn wsX5_change wsX5_isWord := goodIn_r _ [11, 12, 18, 19, 20, 21, 22, 23, 24, 25, 26, 27, 28, 29, 30, 31, 32] (by decide +kernel) (by decide +kernel)
set_option maxRecDepth 20000 in
theorem gX5_change_X5_isWord : GoodIn wsX5_change (wsV RX5 59 RX5 yX5_isWord wsX5_isWord) := goodIn_app (goodIn_of _ (by decide +kernel)) ggX5_change_X5_isWord
set_option maxRecDepth 20000 in
theorem ggX5_change_X5_goes : GoodIn wsX5_change wsX5_goes := goodIn_r _ [16, 17, 18, 19, 20, 21, 22, 23, 24, 25, 26, 27, 28, 29, 30, 31, 32] (by decide +kernel) (by decide +kernel)
set_option maxRecDepth 20000 in
theorem gX5_change_X5_goes : GoodIn wsX5_change (wsV RX5 55 RX5 yX5_goes wsX5_goes) := goodIn_app (goodIn_of _ (by decide +kernel)) ggX5_change_X5_goes
theorem dX5_change_0 : decode cX5_change 0 = .ok (.aload_n 0, 1) := by decide +kernel
theorem dX5_change_1 : decode cX5_change 1 = .ok (.aload_n 0, 1) := by decide +kernel
theorem dX5_change_2 : decode cX5_change 2 = .ok (.iload_n 1, 1) := by decide +kernel
theorem dX5_change_3 : decode cX5_change 3 = .ok (.invokevirtual 72, 3) := by decide +kernel
theorem dX5_change_6 : decode cX5_change 6 = .ok (.ifCond .eq 15, 3) := by decide +kernel
theorem dX5_change_9 : decode cX5_change 9 = .ok (.aload_n 0, 1) := by decide +kernel
theorem dX5_change_10 : decode cX5_change 10 = .ok (.iload_n 2, 1) := by decide +kernel
theorem dX5_change_11 : decode cX5_change 11 = .ok (.invokevirtual 59, 3) := by decide +kernel
theorem dX5_change_14 : decode cX5_change 14 = .ok (.ifCond .eq 7, 3) := by decide +kernel
theorem dX5_change_17 : decode cX5_change 17 = .ok (.iconst 1, 1) := by decide +kernel
theorem dX5_change_18 : decode cX5_change 18 = .ok (.goto 4, 3) := by decide +kernel
theorem dX5_change_21 : decode cX5_change 21 = .ok (.iconst 0, 1) := by decide +kernel
theorem dX5_change_22 : decode cX5_change 22 = .ok (.iconst 1, 1) := by decide +kernel
theorem dX5_change_23 : decode cX5_change 23 = .ok (.invokevirtual 55, 3) := by decide +kernel
theorem dX5_change_26 : decode cX5_change 26 = .ok (.ifCond .ne 5, 3) := by decide +kernel
theorem dX5_change_29 : decode cX5_change 29 = .ok (.iconst 0, 1) := by decide +kernel
theorem dX5_change_30 : decode cX5_change 30 = .ok (.ireturn, 1) := by decide +kernel
theorem dX5_change_31 : decode cX5_change 31 = .ok (.aload_n 0, 1) := by decide +kernel
theorem dX5_change_32 : decode cX5_change 32 = .ok (.getfield 28, 3) := by decide +kernel
theorem dX5_change_35 : decode cX5_change 35 = .ok (.iload_n 1, 1) := by decide +kernel
theorem dX5_change_36 : decode cX5_change 36 = .ok (.iaload, 1) := by decide +kernel
theorem dX5_change_37 : decode cX5_change 37 = .ok (.istore_n 3, 1) := by decide +kernel
theorem dX5_change_38 : decode cX5_change 38 = .ok (.aload_n 0, 1) := by decide +kernel
theorem dX5_change_39 : decode cX5_change 39 = .ok (.getfield 28, 3) := by decide +kernel
theorem dX5_change_42 : decode cX5_change 42 = .ok (.iload_n 1, 1) := by decide +kernel
theorem dX5_change_43 : decode cX5_change 43 = .ok (.iload_n 2, 1) := by decide +kernel
theorem dX5_change_44 : decode cX5_change 44 = .ok (.iastore, 1) := by decide +kernel
theorem dX5_change_45 : decode cX5_change 45 = .ok (.iload_n 3, 1) := by decide +kernel
theorem dX5_change_46 : decode cX5_change 46 = .ok (.ireturn, 1) := by decide +kernel
theorem dX5_hush_0 : decode cX5_hush 0 = .ok (.aload_n 0, 1) := by decide +kernel
theorem dX5_hush_1 : decode cX5_hush 1 = .ok (.iconst 0, 1) := by decide +kernel
theorem dX5_hush_2 : decode cX5_hush 2 = .ok (.putfield 41, 3) := by decide +kernel
theorem dX5_hush_5 : decode cX5_hush 5 = .ok (.aload_n 0, 1) := by decide +kernel
theorem dX5_hush_6 : decode cX5_hush 6 = .ok (.getfield 69, 3) := by decide +kernel
theorem dX5_hush_9 : decode cX5_hush 9 = .ok (.istore_n 1, 1) := by decide +kernel
theorem dX5_hush_10 : decode cX5_hush 10 = .ok (.aload_n 0, 1) := by decide +kernel
theorem dX5_hush_11 : decode cX5_hush 11 = .ok (.iconst 0, 1) := by decide +kernel
theorem dX5_hush_12 : decode cX5_hush 12 = .ok (.putfield 69, 3) := by decide +kernel
theorem dX5_hush_15 : decode cX5_hush 15 = .ok (.iload_n 1, 1) := by decide +kernel
theorem dX5_hush_16 : decode cX5_hush 16 = .ok (.ireturn, 1) := by decide +kernel
theorem dX5_said_0 : decode cX5_said 0 = .ok (.aload_n 0, 1) := by decide +kernel
theorem dX5_said_1 : decode cX5_said 1 = .ok (.iconst 0, 1) := by decide +kernel
theorem dX5_said_2 : decode cX5_said 2 = .ok (.putfield 41, 3) := by decide +kernel
theorem dX5_said_5 : decode cX5_said 5 = .ok (.aload_n 0, 1) := by decide +kernel
theorem dX5_said_6 : decode cX5_said 6 = .ok (.getfield 69, 3) := by decide +kernel
theorem dX5_said_9 : decode cX5_said 9 = .ok (.ireturn, 1) := by decide +kernel
set_option maxRecDepth 20000 in
theorem ggX5_wordAt_X5_isPlace : GoodIn wsX5_wordAt wsX5_isPlace := goodIn_r _ [6, 7, 13, 14, 15, 16, 17, 18, 19, 20, 21, 22, 23, 24, 25, 26, 27] (by decide +kernel) (by decide +kernel)
set_option maxRecDepth 20000 in
theorem gX5_wordAt_X5_isPlace : GoodIn wsX5_wordAt (wsV RX5 72 RX5 yX5_isPlace wsX5_isPlace) := goodIn_app (goodIn_of _ (by decide +kernel)) ggX5_wordAt_X5_isPlace
set_option maxRecDepth 20000 in
theorem ggX5_wordAt_X5_goes : GoodIn wsX5_wordAt wsX5_goes := goodIn_r _ [11, 12, 13, 14, 15, 16, 17, 18, 19, 20, 21, 22, 23, 24, 25, 26, 27] (by decide +kernel) (by decide +kernel)
set_option maxRecDepth 20000 in
theorem gX5_wordAt_X5_goes : GoodIn wsX5_wordAt (wsV RX5 55 RX5 yX5_goes wsX5_goes) := goodIn_app (goodIn_of _ (by decide +kernel)) ggX5_wordAt_X5_goes
theorem dX5_wordAt_0 : decode cX5_wordAt 0 = .ok (.aload_n 0, 1) := by decide +kernel
theorem dX5_wordAt_1 : decode cX5_wordAt 1 = .ok (.aload_n 0, 1) := by decide +kernel
theorem dX5_wordAt_2 : decode cX5_wordAt 2 = .ok (.iload_n 1, 1) := by decide +kernel
theorem dX5_wordAt_3 : decode cX5_wordAt 3 = .ok (.invokevirtual 72, 3) := by decide +kernel
theorem dX5_wordAt_6 : decode cX5_wordAt 6 = .ok (.iconst 1, 1) := by decide +kernel
theorem dX5_wordAt_7 : decode cX5_wordAt 7 = .ok (.invokevirtual 55, 3) := by decide +kernel
theorem dX5_wordAt_10 : decode cX5_wordAt 10 = .ok (.ifCond .eq 12, 3) := by decide +kernel
theorem dX5_wordAt_13 : decode cX5_wordAt 13 = .ok (.aload_n 0, 1) := by decide +kernel
theorem dX5_wordAt_14 : decode cX5_wordAt 14 = .ok (.getfield 28, 3) := by decide +kernel
theorem dX5_wordAt_17 : decode cX5_wordAt 17 = .ok (.iload_n 1, 1) := by decide +kernel
theorem dX5_wordAt_18 : decode cX5_wordAt 18 = .ok (.iaload, 1) := by decide +kernel
theorem dX5_wordAt_19 : decode cX5_wordAt 19 = .ok (.goto 4, 3) := by decide +kernel
theorem dX5_wordAt_22 : decode cX5_wordAt 22 = .ok (.iconst 0, 1) := by decide +kernel
theorem dX5_wordAt_23 : decode cX5_wordAt 23 = .ok (.ireturn, 1) := by decide +kernel
theorem dX5_takes_0 : decode cX5_takes 0 = .ok (.aload_n 0, 1) := by decide +kernel
theorem dX5_takes_1 : decode cX5_takes 1 = .ok (.aload_n 0, 1) := by decide +kernel
theorem dX5_takes_2 : decode cX5_takes 2 = .ok (.getfield 69, 3) := by decide +kernel
theorem dX5_takes_5 : decode cX5_takes 5 = .ok (.putfield 75, 3) := by decide +kernel
theorem dX5_takes_8 : decode cX5_takes 8 = .ok (.iconst 0, 1) := by decide +kernel
theorem dX5_takes_9 : decode cX5_takes 9 = .ok (.istore_n 1, 1) := by decide +kernel
theorem dX5_takes_10 : decode cX5_takes 10 = .ok (.iload_n 1, 1) := by decide +kernel
theorem dX5_takes_11 : decode cX5_takes 11 = .ok (.aload_n 0, 1) := by decide +kernel
theorem dX5_takes_12 : decode cX5_takes 12 = .ok (.getfield 69, 3) := by decide +kernel
theorem dX5_takes_15 : decode cX5_takes 15 = .ok (.if_icmp .ge 21, 3) := by decide +kernel
theorem dX5_takes_18 : decode cX5_takes 18 = .ok (.aload_n 0, 1) := by decide +kernel
theorem dX5_takes_19 : decode cX5_takes 19 = .ok (.getfield 31, 3) := by decide +kernel
theorem dX5_takes_22 : decode cX5_takes 22 = .ok (.iload_n 1, 1) := by decide +kernel
theorem dX5_takes_23 : decode cX5_takes 23 = .ok (.aload_n 0, 1) := by decide +kernel
theorem dX5_takes_24 : decode cX5_takes 24 = .ok (.getfield 28, 3) := by decide +kernel
theorem dX5_takes_27 : decode cX5_takes 27 = .ok (.iload_n 1, 1) := by decide +kernel
theorem dX5_takes_28 : decode cX5_takes 28 = .ok (.iaload, 1) := by decide +kernel
theorem dX5_takes_29 : decode cX5_takes 29 = .ok (.iastore, 1) := by decide +kernel
theorem dX5_takes_30 : decode cX5_takes 30 = .ok (.iinc 1 1, 3) := by decide +kernel
theorem dX5_takes_33 : decode cX5_takes 33 = .ok (.goto (-23), 3) := by decide +kernel
theorem dX5_takes_36 : decode cX5_takes 36 = .ok (.return_, 1) := by decide +kernel
theorem dX5_makes_0 : decode cX5_makes 0 = .ok (.iload_n 0, 1) := by decide +kernel
theorem dX5_makes_1 : decode cX5_makes 1 = .ok (.ifCond .ne 5, 3) := by decide +kernel
theorem dX5_makes_4 : decode cX5_makes 4 = .ok (.iload_n 1, 1) := by decide +kernel
theorem dX5_makes_5 : decode cX5_makes 5 = .ok (.ireturn, 1) := by decide +kernel
theorem dX5_makes_6 : decode cX5_makes 6 = .ok (.iload_n 0, 1) := by decide +kernel
theorem dX5_makes_7 : decode cX5_makes 7 = .ok (.iconst 1, 1) := by decide +kernel
theorem dX5_makes_8 : decode cX5_makes 8 = .ok (.if_icmp .ne 5, 3) := by decide +kernel
theorem dX5_makes_11 : decode cX5_makes 11 = .ok (.iload_n 2, 1) := by decide +kernel
theorem dX5_makes_12 : decode cX5_makes 12 = .ok (.ireturn, 1) := by decide +kernel
theorem dX5_makes_13 : decode cX5_makes 13 = .ok (.iload_n 0, 1) := by decide +kernel
theorem dX5_makes_14 : decode cX5_makes 14 = .ok (.iconst 3, 1) := by decide +kernel
theorem dX5_makes_15 : decode cX5_makes 15 = .ok (.if_icmp .ne 5, 3) := by decide +kernel
theorem dX5_makes_18 : decode cX5_makes 18 = .ok (.iconst 0, 1) := by decide +kernel
theorem dX5_makes_19 : decode cX5_makes 19 = .ok (.ireturn, 1) := by decide +kernel
theorem dX5_makes_20 : decode cX5_makes 20 = .ok (.iload_n 1, 1) := by decide +kernel
theorem dX5_makes_21 : decode cX5_makes 21 = .ok (.iload_n 2, 1) := by decide +kernel
theorem dX5_makes_22 : decode cX5_makes 22 = .ok (.if_icmp .eq 7, 3) := by decide +kernel
theorem dX5_makes_25 : decode cX5_makes 25 = .ok (.iload_n 2, 1) := by decide +kernel
theorem dX5_makes_26 : decode cX5_makes 26 = .ok (.ifCond .ne 7, 3) := by decide +kernel
theorem dX5_makes_29 : decode cX5_makes 29 = .ok (.iload_n 1, 1) := by decide +kernel
theorem dX5_makes_30 : decode cX5_makes 30 = .ok (.goto 12, 3) := by decide +kernel
theorem dX5_makes_33 : decode cX5_makes 33 = .ok (.iload_n 1, 1) := by decide +kernel
theorem dX5_makes_34 : decode cX5_makes 34 = .ok (.ifCond .ne 7, 3) := by decide +kernel
theorem dX5_makes_37 : decode cX5_makes 37 = .ok (.iload_n 2, 1) := by decide +kernel
theorem dX5_makes_38 : decode cX5_makes 38 = .ok (.goto 4, 3) := by decide +kernel
theorem dX5_makes_41 : decode cX5_makes 41 = .ok (.iconst (-1), 1) := by decide +kernel
theorem dX5_makes_42 : decode cX5_makes 42 = .ok (.ireturn, 1) := by decide +kernel
set_option maxRecDepth 20000 in
theorem ggX5_makesBoth_X5_makes : GoodIn wsX5_makesBoth wsX5_makes := goodIn_r _ [5] (by decide +kernel) (by decide +kernel)
set_option maxRecDepth 20000 in
theorem gX5_makesBoth_X5_makes : GoodIn wsX5_makesBoth (va_wsS RX5 78 yX5_makes wsX5_makes) := goodIn_app (goodIn_of _ (by decide +kernel)) ggX5_makesBoth_X5_makes
theorem dX5_makesBoth_0 : decode cX5_makesBoth 0 = .ok (.aload_n 0, 1) := by decide +kernel
theorem dX5_makesBoth_1 : decode cX5_makesBoth 1 = .ok (.getfield 25, 3) := by decide +kernel
theorem dX5_makesBoth_4 : decode cX5_makesBoth 4 = .ok (.iload_n 1, 1) := by decide +kernel
theorem dX5_makesBoth_5 : decode cX5_makesBoth 5 = .ok (.iaload, 1) := by decide +kernel
theorem dX5_makesBoth_6 : decode cX5_makesBoth 6 = .ok (.bipush 10, 2) := by decide +kernel
theorem dX5_makesBoth_8 : decode cX5_makesBoth 8 = .ok (.idiv, 1) := by decide +kernel
theorem dX5_makesBoth_9 : decode cX5_makesBoth 9 = .ok (.iload_n 2, 1) := by decide +kernel
theorem dX5_makesBoth_10 : decode cX5_makesBoth 10 = .ok (.iconst 4, 1) := by decide +kernel
theorem dX5_makesBoth_11 : decode cX5_makesBoth 11 = .ok (.idiv, 1) := by decide +kernel
theorem dX5_makesBoth_12 : decode cX5_makesBoth 12 = .ok (.iload_n 3, 1) := by decide +kernel
theorem dX5_makesBoth_13 : decode cX5_makesBoth 13 = .ok (.iconst 4, 1) := by decide +kernel
theorem dX5_makesBoth_14 : decode cX5_makesBoth 14 = .ok (.idiv, 1) := by decide +kernel
theorem dX5_makesBoth_15 : decode cX5_makesBoth 15 = .ok (.invokestatic 78, 3) := by decide +kernel
theorem dX5_makesBoth_18 : decode cX5_makesBoth 18 = .ok (.istore 4, 2) := by decide +kernel
theorem dX5_makesBoth_20 : decode cX5_makesBoth 20 = .ok (.aload_n 0, 1) := by decide +kernel
theorem dX5_makesBoth_21 : decode cX5_makesBoth 21 = .ok (.getfield 25, 3) := by decide +kernel
theorem dX5_makesBoth_24 : decode cX5_makesBoth 24 = .ok (.iload_n 1, 1) := by decide +kernel
theorem dX5_makesBoth_25 : decode cX5_makesBoth 25 = .ok (.iaload, 1) := by decide +kernel
theorem dX5_makesBoth_26 : decode cX5_makesBoth 26 = .ok (.bipush 10, 2) := by decide +kernel
theorem dX5_makesBoth_28 : decode cX5_makesBoth 28 = .ok (.irem, 1) := by decide +kernel
theorem dX5_makesBoth_29 : decode cX5_makesBoth 29 = .ok (.iload_n 2, 1) := by decide +kernel
theorem dX5_makesBoth_30 : decode cX5_makesBoth 30 = .ok (.iconst 4, 1) := by decide +kernel
theorem dX5_makesBoth_31 : decode cX5_makesBoth 31 = .ok (.irem, 1) := by decide +kernel
theorem dX5_makesBoth_32 : decode cX5_makesBoth 32 = .ok (.iload_n 3, 1) := by decide +kernel
theorem dX5_makesBoth_33 : decode cX5_makesBoth 33 = .ok (.iconst 4, 1) := by decide +kernel
theorem dX5_makesBoth_34 : decode cX5_makesBoth 34 = .ok (.irem, 1) := by decide +kernel
theorem dX5_makesBoth_35 : decode cX5_makesBoth 35 = .ok (.invokestatic 78, 3) := by decide +kernel
theorem dX5_makesBoth_38 : decode cX5_makesBoth 38 = .ok (.istore 5, 2) := by decide +kernel
theorem dX5_makesBoth_40 : decode cX5_makesBoth 40 = .ok (.iload 4, 2) := by decide +kernel
theorem dX5_makesBoth_42 : decode cX5_makesBoth 42 = .ok (.ifCond .lt 8, 3) := by decide +kernel
theorem dX5_makesBoth_45 : decode cX5_makesBoth 45 = .ok (.iload 5, 2) := by decide +kernel
theorem dX5_makesBoth_47 : decode cX5_makesBoth 47 = .ok (.ifCond .ge 7, 3) := by decide +kernel
theorem dX5_makesBoth_50 : decode cX5_makesBoth 50 = .ok (.iconst (-1), 1) := by decide +kernel
theorem dX5_makesBoth_51 : decode cX5_makesBoth 51 = .ok (.goto 10, 3) := by decide +kernel
theorem dX5_makesBoth_54 : decode cX5_makesBoth 54 = .ok (.iconst 4, 1) := by decide +kernel
theorem dX5_makesBoth_55 : decode cX5_makesBoth 55 = .ok (.iload 4, 2) := by decide +kernel
theorem dX5_makesBoth_57 : decode cX5_makesBoth 57 = .ok (.imul, 1) := by decide +kernel
theorem dX5_makesBoth_58 : decode cX5_makesBoth 58 = .ok (.iload 5, 2) := by decide +kernel
theorem dX5_makesBoth_60 : decode cX5_makesBoth 60 = .ok (.iadd, 1) := by decide +kernel
theorem dX5_makesBoth_61 : decode cX5_makesBoth 61 = .ok (.ireturn, 1) := by decide +kernel
theorem dX5_span_0 : decode cX5_span 0 = .ok (.iload_n 0, 1) := by decide +kernel
theorem dX5_span_1 : decode cX5_span 1 = .ok (.bipush 7, 2) := by decide +kernel
theorem dX5_span_3 : decode cX5_span 3 = .ok (.imul, 1) := by decide +kernel
theorem dX5_span_4 : decode cX5_span 4 = .ok (.iload_n 1, 1) := by decide +kernel
theorem dX5_span_5 : decode cX5_span 5 = .ok (.iadd, 1) := by decide +kernel
theorem dX5_span_6 : decode cX5_span 6 = .ok (.bipush 8, 2) := by decide +kernel
theorem dX5_span_8 : decode cX5_span 8 = .ok (.imul, 1) := by decide +kernel
theorem dX5_span_9 : decode cX5_span 9 = .ok (.ireturn, 1) := by decide +kernel
set_option maxRecDepth 20000 in
theorem ggX5_parses_X5_span : GoodIn wsX5_parses wsX5_span := goodIn_r _ [12] (by decide +kernel) (by decide +kernel)
set_option maxRecDepth 20000 in
theorem gX5_parses_X5_span : GoodIn wsX5_parses (va_wsS RX5 82 yX5_span wsX5_span) := goodIn_app (goodIn_of _ (by decide +kernel)) ggX5_parses_X5_span
set_option maxRecDepth 20000 in
theorem ggX5_parses_X5_together : GoodIn wsX5_parses wsX5_together := goodIn_r _ [16, 17, 18, 19, 11, 20, 21, 22, 23, 24, 25, 26, 27, 28, 29, 30, 31, 32, 33, 34, 35, 36, 37, 38, 39] (by decide +kernel) (by decide +kernel)
set_option maxRecDepth 20000 in
theorem gX5_parses_X5_together : GoodIn wsX5_parses (wsV RX5 86 RX5 yX5_together wsX5_together) := goodIn_app (goodIn_of _ (by decide +kernel)) ggX5_parses_X5_together
theorem dX5_parses_0 : decode cX5_parses 0 = .ok (.aload_n 0, 1) := by decide +kernel
theorem dX5_parses_1 : decode cX5_parses 1 = .ok (.getfield 75, 3) := by decide +kernel
theorem dX5_parses_4 : decode cX5_parses 4 = .ok (.iconst 1, 1) := by decide +kernel
theorem dX5_parses_5 : decode cX5_parses 5 = .ok (.isub, 1) := by decide +kernel
theorem dX5_parses_6 : decode cX5_parses 6 = .ok (.istore_n 2, 1) := by decide +kernel
theorem dX5_parses_7 : decode cX5_parses 7 = .ok (.iload_n 2, 1) := by decide +kernel
theorem dX5_parses_8 : decode cX5_parses 8 = .ok (.ifCond .lt 216, 3) := by decide +kernel
theorem dX5_parses_11 : decode cX5_parses 11 = .ok (.iload_n 2, 1) := by decide +kernel
theorem dX5_parses_12 : decode cX5_parses 12 = .ok (.iconst 1, 1) := by decide +kernel
theorem dX5_parses_13 : decode cX5_parses 13 = .ok (.iadd, 1) := by decide +kernel
theorem dX5_parses_14 : decode cX5_parses 14 = .ok (.istore_n 3, 1) := by decide +kernel
theorem dX5_parses_15 : decode cX5_parses 15 = .ok (.iload_n 3, 1) := by decide +kernel
theorem dX5_parses_16 : decode cX5_parses 16 = .ok (.aload_n 0, 1) := by decide +kernel
theorem dX5_parses_17 : decode cX5_parses 17 = .ok (.getfield 75, 3) := by decide +kernel
theorem dX5_parses_20 : decode cX5_parses 20 = .ok (.if_icmp .gt 198, 3) := by decide +kernel
theorem dX5_parses_23 : decode cX5_parses 23 = .ok (.iload_n 2, 1) := by decide +kernel
theorem dX5_parses_24 : decode cX5_parses 24 = .ok (.iload_n 3, 1) := by decide +kernel
theorem dX5_parses_25 : decode cX5_parses 25 = .ok (.invokestatic 82, 3) := by decide +kernel
theorem dX5_parses_28 : decode cX5_parses 28 = .ok (.istore 4, 2) := by decide +kernel
theorem dX5_parses_30 : decode cX5_parses 30 = .ok (.iconst 0, 1) := by decide +kernel
theorem dX5_parses_31 : decode cX5_parses 31 = .ok (.istore 5, 2) := by decide +kernel
theorem dX5_parses_33 : decode cX5_parses 33 = .ok (.iload 5, 2) := by decide +kernel
theorem dX5_parses_35 : decode cX5_parses 35 = .ok (.bipush 8, 2) := by decide +kernel
theorem dX5_parses_37 : decode cX5_parses 37 = .ok (.if_icmp .ge 20, 3) := by decide +kernel
theorem dX5_parses_40 : decode cX5_parses 40 = .ok (.aload_n 0, 1) := by decide +kernel
theorem dX5_parses_41 : decode cX5_parses 41 = .ok (.getfield 34, 3) := by decide +kernel
theorem dX5_parses_44 : decode cX5_parses 44 = .ok (.iload 4, 2) := by decide +kernel
theorem dX5_parses_46 : decode cX5_parses 46 = .ok (.iload 5, 2) := by decide +kernel
theorem dX5_parses_48 : decode cX5_parses 48 = .ok (.iadd, 1) := by decide +kernel
theorem dX5_parses_49 : decode cX5_parses 49 = .ok (.iconst 0, 1) := by decide +kernel
theorem dX5_parses_50 : decode cX5_parses 50 = .ok (.iastore, 1) := by decide +kernel
theorem dX5_parses_51 : decode cX5_parses 51 = .ok (.iinc 5 1, 3) := by decide +kernel
theorem dX5_parses_54 : decode cX5_parses 54 = .ok (.goto (-21), 3) := by decide +kernel
theorem dX5_parses_57 : decode cX5_parses 57 = .ok (.iload_n 3, 1) := by decide +kernel
theorem dX5_parses_58 : decode cX5_parses 58 = .ok (.iload_n 2, 1) := by decide +kernel
theorem dX5_parses_59 : decode cX5_parses 59 = .ok (.iconst 1, 1) := by decide +kernel
theorem dX5_parses_60 : decode cX5_parses 60 = .ok (.iadd, 1) := by decide +kernel
theorem dX5_parses_61 : decode cX5_parses 61 = .ok (.if_icmp .ne 35, 3) := by decide +kernel
theorem dX5_parses_64 : decode cX5_parses 64 = .ok (.aload_n 0, 1) := by decide +kernel
theorem dX5_parses_65 : decode cX5_parses 65 = .ok (.getfield 34, 3) := by decide +kernel
theorem dX5_parses_68 : decode cX5_parses 68 = .ok (.iload 4, 2) := by decide +kernel
theorem dX5_parses_70 : decode cX5_parses 70 = .ok (.aload_n 0, 1) := by decide +kernel
theorem dX5_parses_71 : decode cX5_parses 71 = .ok (.getfield 7, 3) := by decide +kernel
theorem dX5_parses_74 : decode cX5_parses 74 = .ok (.aload_n 0, 1) := by decide +kernel
theorem dX5_parses_75 : decode cX5_parses 75 = .ok (.getfield 31, 3) := by decide +kernel
theorem dX5_parses_78 : decode cX5_parses 78 = .ok (.iload_n 2, 1) := by decide +kernel
theorem dX5_parses_79 : decode cX5_parses 79 = .ok (.iaload, 1) := by decide +kernel
theorem dX5_parses_80 : decode cX5_parses 80 = .ok (.iaload, 1) := by decide +kernel
theorem dX5_parses_81 : decode cX5_parses 81 = .ok (.iadd, 1) := by decide +kernel
theorem dX5_parses_82 : decode cX5_parses 82 = .ok (.iconst 1, 1) := by decide +kernel
theorem dX5_parses_83 : decode cX5_parses 83 = .ok (.aload_n 0, 1) := by decide +kernel
theorem dX5_parses_84 : decode cX5_parses 84 = .ok (.getfield 13, 3) := by decide +kernel
theorem dX5_parses_87 : decode cX5_parses 87 = .ok (.aload_n 0, 1) := by decide +kernel
theorem dX5_parses_88 : decode cX5_parses 88 = .ok (.getfield 31, 3) := by decide +kernel
theorem dX5_parses_91 : decode cX5_parses 91 = .ok (.iload_n 2, 1) := by decide +kernel
theorem dX5_parses_92 : decode cX5_parses 92 = .ok (.iaload, 1) := by decide +kernel
theorem dX5_parses_93 : decode cX5_parses 93 = .ok (.iaload, 1) := by decide +kernel
theorem dX5_parses_94 : decode cX5_parses 94 = .ok (.ishl, 1) := by decide +kernel
theorem dX5_parses_95 : decode cX5_parses 95 = .ok (.iastore, 1) := by decide +kernel
theorem dX5_parses_96 : decode cX5_parses 96 = .ok (.iconst 0, 1) := by decide +kernel
theorem dX5_parses_97 : decode cX5_parses 97 = .ok (.istore 5, 2) := by decide +kernel
theorem dX5_parses_99 : decode cX5_parses 99 = .ok (.iload 5, 2) := by decide +kernel
theorem dX5_parses_101 : decode cX5_parses 101 = .ok (.iload_n 1, 1) := by decide +kernel
theorem dX5_parses_102 : decode cX5_parses 102 = .ok (.if_icmp .ge 110, 3) := by decide +kernel
theorem dX5_parses_105 : decode cX5_parses 105 = .ok (.iload_n 2, 1) := by decide +kernel
theorem dX5_parses_106 : decode cX5_parses 106 = .ok (.iconst 1, 1) := by decide +kernel
theorem dX5_parses_107 : decode cX5_parses 107 = .ok (.iadd, 1) := by decide +kernel
theorem dX5_parses_108 : decode cX5_parses 108 = .ok (.istore 6, 2) := by decide +kernel
theorem dX5_parses_110 : decode cX5_parses 110 = .ok (.iload 6, 2) := by decide +kernel
theorem dX5_parses_112 : decode cX5_parses 112 = .ok (.iload_n 3, 1) := by decide +kernel
theorem dX5_parses_113 : decode cX5_parses 113 = .ok (.if_icmp .ge 93, 3) := by decide +kernel
theorem dX5_parses_116 : decode cX5_parses 116 = .ok (.aload_n 0, 1) := by decide +kernel
theorem dX5_parses_117 : decode cX5_parses 117 = .ok (.getfield 34, 3) := by decide +kernel
theorem dX5_parses_120 : decode cX5_parses 120 = .ok (.iload_n 2, 1) := by decide +kernel
theorem dX5_parses_121 : decode cX5_parses 121 = .ok (.iload 6, 2) := by decide +kernel
theorem dX5_parses_123 : decode cX5_parses 123 = .ok (.invokestatic 82, 3) := by decide +kernel
theorem dX5_parses_126 : decode cX5_parses 126 = .ok (.aload_n 0, 1) := by decide +kernel
theorem dX5_parses_127 : decode cX5_parses 127 = .ok (.getfield 19, 3) := by decide +kernel
theorem dX5_parses_130 : decode cX5_parses 130 = .ok (.iload 5, 2) := by decide +kernel
theorem dX5_parses_132 : decode cX5_parses 132 = .ok (.iaload, 1) := by decide +kernel
theorem dX5_parses_133 : decode cX5_parses 133 = .ok (.iadd, 1) := by decide +kernel
theorem dX5_parses_134 : decode cX5_parses 134 = .ok (.iaload, 1) := by decide +kernel
theorem dX5_parses_135 : decode cX5_parses 135 = .ok (.istore 7, 2) := by decide +kernel
theorem dX5_parses_137 : decode cX5_parses 137 = .ok (.aload_n 0, 1) := by decide +kernel
theorem dX5_parses_138 : decode cX5_parses 138 = .ok (.getfield 34, 3) := by decide +kernel
theorem dX5_parses_141 : decode cX5_parses 141 = .ok (.iload 6, 2) := by decide +kernel
theorem dX5_parses_143 : decode cX5_parses 143 = .ok (.iload_n 3, 1) := by decide +kernel
theorem dX5_parses_144 : decode cX5_parses 144 = .ok (.invokestatic 82, 3) := by decide +kernel
theorem dX5_parses_147 : decode cX5_parses 147 = .ok (.aload_n 0, 1) := by decide +kernel
theorem dX5_parses_148 : decode cX5_parses 148 = .ok (.getfield 22, 3) := by decide +kernel
theorem dX5_parses_151 : decode cX5_parses 151 = .ok (.iload 5, 2) := by decide +kernel
theorem dX5_parses_153 : decode cX5_parses 153 = .ok (.iaload, 1) := by decide +kernel
theorem dX5_parses_154 : decode cX5_parses 154 = .ok (.iadd, 1) := by decide +kernel
theorem dX5_parses_155 : decode cX5_parses 155 = .ok (.iaload, 1) := by decide +kernel
theorem dX5_parses_156 : decode cX5_parses 156 = .ok (.istore 8, 2) := by decide +kernel
theorem dX5_parses_158 : decode cX5_parses 158 = .ok (.aload_n 0, 1) := by decide +kernel
theorem dX5_parses_159 : decode cX5_parses 159 = .ok (.getfield 34, 3) := by decide +kernel
theorem dX5_parses_162 : decode cX5_parses 162 = .ok (.iload 4, 2) := by decide +kernel
theorem dX5_parses_164 : decode cX5_parses 164 = .ok (.aload_n 0, 1) := by decide +kernel
theorem dX5_parses_165 : decode cX5_parses 165 = .ok (.getfield 16, 3) := by decide +kernel
theorem dX5_parses_168 : decode cX5_parses 168 = .ok (.iload 5, 2) := by decide +kernel
theorem dX5_parses_170 : decode cX5_parses 170 = .ok (.iaload, 1) := by decide +kernel
theorem dX5_parses_171 : decode cX5_parses 171 = .ok (.iadd, 1) := by decide +kernel
theorem dX5_parses_172 : decode cX5_parses 172 = .ok (.dup2, 1) := by decide +kernel
theorem dX5_parses_173 : decode cX5_parses 173 = .ok (.iaload, 1) := by decide +kernel
theorem dX5_parses_174 : decode cX5_parses 174 = .ok (.iload 7, 2) := by decide +kernel
theorem dX5_parses_176 : decode cX5_parses 176 = .ok (.ifCond .eq 8, 3) := by decide +kernel
theorem dX5_parses_179 : decode cX5_parses 179 = .ok (.iload 8, 2) := by decide +kernel
theorem dX5_parses_181 : decode cX5_parses 181 = .ok (.ifCond .ne 7, 3) := by decide +kernel
theorem dX5_parses_184 : decode cX5_parses 184 = .ok (.iconst 0, 1) := by decide +kernel
theorem dX5_parses_185 : decode cX5_parses 185 = .ok (.goto 13, 3) := by decide +kernel
theorem dX5_parses_188 : decode cX5_parses 188 = .ok (.aload_n 0, 1) := by decide +kernel
theorem dX5_parses_189 : decode cX5_parses 189 = .ok (.iload 5, 2) := by decide +kernel
theorem dX5_parses_191 : decode cX5_parses 191 = .ok (.iload 7, 2) := by decide +kernel
theorem dX5_parses_193 : decode cX5_parses 193 = .ok (.iload 8, 2) := by decide +kernel
theorem dX5_parses_195 : decode cX5_parses 195 = .ok (.invokevirtual 86, 3) := by decide +kernel
theorem dX5_parses_198 : decode cX5_parses 198 = .ok (.ior, 1) := by decide +kernel
theorem dX5_parses_199 : decode cX5_parses 199 = .ok (.iastore, 1) := by decide +kernel
theorem dX5_parses_200 : decode cX5_parses 200 = .ok (.iinc 6 1, 3) := by decide +kernel
theorem dX5_parses_203 : decode cX5_parses 203 = .ok (.goto (-93), 3) := by decide +kernel
theorem dX5_parses_206 : decode cX5_parses 206 = .ok (.iinc 5 1, 3) := by decide +kernel
theorem dX5_parses_209 : decode cX5_parses 209 = .ok (.goto (-110), 3) := by decide +kernel
theorem dX5_parses_212 : decode cX5_parses 212 = .ok (.iinc 3 1, 3) := by decide +kernel
theorem dX5_parses_215 : decode cX5_parses 215 = .ok (.goto (-200), 3) := by decide +kernel
theorem dX5_parses_218 : decode cX5_parses 218 = .ok (.iinc 2 (-1), 3) := by decide +kernel
theorem dX5_parses_221 : decode cX5_parses 221 = .ok (.goto (-214), 3) := by decide +kernel
theorem dX5_parses_224 : decode cX5_parses 224 = .ok (.return_, 1) := by decide +kernel
set_option maxRecDepth 20000 in
theorem ggX5_together_X5_makesBoth : GoodIn wsX5_together wsX5_makesBoth := goodIn_r _ [5, 6, 7, 8, 4, 9, 10, 11, 12, 13, 14, 15, 16, 17, 18, 19, 20, 21, 22, 23, 24] (by decide +kernel) (by decide +kernel)
set_option maxRecDepth 20000 in
theorem gX5_together_X5_makesBoth : GoodIn wsX5_together (wsV RX5 89 RX5 yX5_makesBoth wsX5_makesBoth) := goodIn_app (goodIn_of _ (by decide +kernel)) ggX5_together_X5_makesBoth
theorem dX5_together_0 : decode cX5_together 0 = .ok (.iconst 0, 1) := by decide +kernel
theorem dX5_together_1 : decode cX5_together 1 = .ok (.istore 4, 2) := by decide +kernel
theorem dX5_together_3 : decode cX5_together 3 = .ok (.iconst 0, 1) := by decide +kernel
theorem dX5_together_4 : decode cX5_together 4 = .ok (.istore 5, 2) := by decide +kernel
theorem dX5_together_6 : decode cX5_together 6 = .ok (.iload 5, 2) := by decide +kernel
theorem dX5_together_8 : decode cX5_together 8 = .ok (.bipush 16, 2) := by decide +kernel
theorem dX5_together_10 : decode cX5_together 10 = .ok (.if_icmp .ge 78, 3) := by decide +kernel
theorem dX5_together_13 : decode cX5_together 13 = .ok (.iconst 0, 1) := by decide +kernel
theorem dX5_together_14 : decode cX5_together 14 = .ok (.istore 6, 2) := by decide +kernel
theorem dX5_together_16 : decode cX5_together 16 = .ok (.iload 6, 2) := by decide +kernel
theorem dX5_together_18 : decode cX5_together 18 = .ok (.bipush 16, 2) := by decide +kernel
theorem dX5_together_20 : decode cX5_together 20 = .ok (.if_icmp .ge 62, 3) := by decide +kernel
theorem dX5_together_23 : decode cX5_together 23 = .ok (.iload_n 2, 1) := by decide +kernel
theorem dX5_together_24 : decode cX5_together 24 = .ok (.iload 5, 2) := by decide +kernel
theorem dX5_together_26 : decode cX5_together 26 = .ok (.ishr, 1) := by decide +kernel
theorem dX5_together_27 : decode cX5_together 27 = .ok (.iconst 1, 1) := by decide +kernel
theorem dX5_together_28 : decode cX5_together 28 = .ok (.iand, 1) := by decide +kernel
theorem dX5_together_29 : decode cX5_together 29 = .ok (.iconst 1, 1) := by decide +kernel
theorem dX5_together_30 : decode cX5_together 30 = .ok (.if_icmp .ne 52, 3) := by decide +kernel
theorem dX5_together_33 : decode cX5_together 33 = .ok (.iload_n 3, 1) := by decide +kernel
theorem dX5_together_34 : decode cX5_together 34 = .ok (.iload 6, 2) := by decide +kernel
theorem dX5_together_36 : decode cX5_together 36 = .ok (.ishr, 1) := by decide +kernel
theorem dX5_together_37 : decode cX5_together 37 = .ok (.iconst 1, 1) := by decide +kernel
theorem dX5_together_38 : decode cX5_together 38 = .ok (.iand, 1) := by decide +kernel
theorem dX5_together_39 : decode cX5_together 39 = .ok (.iconst 1, 1) := by decide +kernel
theorem dX5_together_40 : decode cX5_together 40 = .ok (.if_icmp .ne 15, 3) := by decide +kernel
theorem dX5_together_43 : decode cX5_together 43 = .ok (.aload_n 0, 1) := by decide +kernel
theorem dX5_together_44 : decode cX5_together 44 = .ok (.iload_n 1, 1) := by decide +kernel
theorem dX5_together_45 : decode cX5_together 45 = .ok (.iload 5, 2) := by decide +kernel
theorem dX5_together_47 : decode cX5_together 47 = .ok (.iload 6, 2) := by decide +kernel
theorem dX5_together_49 : decode cX5_together 49 = .ok (.invokevirtual 89, 3) := by decide +kernel
theorem dX5_together_52 : decode cX5_together 52 = .ok (.goto 4, 3) := by decide +kernel
theorem dX5_together_55 : decode cX5_together 55 = .ok (.iconst (-1), 1) := by decide +kernel
theorem dX5_together_56 : decode cX5_together 56 = .ok (.istore 7, 2) := by decide +kernel
theorem dX5_together_58 : decode cX5_together 58 = .ok (.iload 4, 2) := by decide +kernel
theorem dX5_together_60 : decode cX5_together 60 = .ok (.iload 7, 2) := by decide +kernel
theorem dX5_together_62 : decode cX5_together 62 = .ok (.ifCond .ge 7, 3) := by decide +kernel
theorem dX5_together_65 : decode cX5_together 65 = .ok (.iconst 0, 1) := by decide +kernel
theorem dX5_together_66 : decode cX5_together 66 = .ok (.goto 7, 3) := by decide +kernel
theorem dX5_together_69 : decode cX5_together 69 = .ok (.iconst 1, 1) := by decide +kernel
theorem dX5_together_70 : decode cX5_together 70 = .ok (.iload 7, 2) := by decide +kernel
theorem dX5_together_72 : decode cX5_together 72 = .ok (.ishl, 1) := by decide +kernel
theorem dX5_together_73 : decode cX5_together 73 = .ok (.ior, 1) := by decide +kernel
theorem dX5_together_74 : decode cX5_together 74 = .ok (.istore 4, 2) := by decide +kernel
theorem dX5_together_76 : decode cX5_together 76 = .ok (.iinc 6 1, 3) := by decide +kernel
theorem dX5_together_79 : decode cX5_together 79 = .ok (.goto (-63), 3) := by decide +kernel
theorem dX5_together_82 : decode cX5_together 82 = .ok (.iinc 5 1, 3) := by decide +kernel
theorem dX5_together_85 : decode cX5_together 85 = .ok (.goto (-79), 3) := by decide +kernel
theorem dX5_together_88 : decode cX5_together 88 = .ok (.iload 4, 2) := by decide +kernel
theorem dX5_together_90 : decode cX5_together 90 = .ok (.ireturn, 1) := by decide +kernel
set_option maxRecDepth 20000 in
theorem ggX5_isSentence_X5_parses : GoodIn wsX5_isSentence wsX5_parses := goodIn_r _ [8, 2, 3, 9, 10, 11, 12, 13, 14, 15, 16, 7, 17, 18, 19, 20, 21, 22, 23, 24, 25, 26, 27, 28, 29, 30, 31, 32, 33, 34, 35, 36, 37, 38, 39, 40, 41, 42, 43, 44] (by decide +kernel) (by decide +kernel)
set_option maxRecDepth 20000 in
theorem gX5_isSentence_X5_parses : GoodIn wsX5_isSentence (wsV RX5 92 RX5 yX5_parses wsX5_parses) := goodIn_app (goodIn_of _ (by decide +kernel)) ggX5_isSentence_X5_parses
set_option maxRecDepth 20000 in
theorem ggX5_isSentence_X5_span : GoodIn wsX5_isSentence wsX5_span := goodIn_r _ [17] (by decide +kernel) (by decide +kernel)
set_option maxRecDepth 20000 in
theorem gX5_isSentence_X5_span : GoodIn wsX5_isSentence (va_wsS RX5 82 yX5_span wsX5_span) := goodIn_app (goodIn_of _ (by decide +kernel)) ggX5_isSentence_X5_span
theorem dX5_isSentence_0 : decode cX5_isSentence 0 = .ok (.aload_n 0, 1) := by decide +kernel
theorem dX5_isSentence_1 : decode cX5_isSentence 1 = .ok (.aload_n 0, 1) := by decide +kernel
theorem dX5_isSentence_2 : decode cX5_isSentence 2 = .ok (.getfield 66, 3) := by decide +kernel
theorem dX5_isSentence_5 : decode cX5_isSentence 5 = .ok (.invokevirtual 92, 3) := by decide +kernel
theorem dX5_isSentence_8 : decode cX5_isSentence 8 = .ok (.aload_n 0, 1) := by decide +kernel
theorem dX5_isSentence_9 : decode cX5_isSentence 9 = .ok (.getfield 75, 3) := by decide +kernel
theorem dX5_isSentence_12 : decode cX5_isSentence 12 = .ok (.ifCond .le 23, 3) := by decide +kernel
theorem dX5_isSentence_15 : decode cX5_isSentence 15 = .ok (.aload_n 0, 1) := by decide +kernel
theorem dX5_isSentence_16 : decode cX5_isSentence 16 = .ok (.getfield 34, 3) := by decide +kernel
theorem dX5_isSentence_19 : decode cX5_isSentence 19 = .ok (.iconst 0, 1) := by decide +kernel
theorem dX5_isSentence_20 : decode cX5_isSentence 20 = .ok (.aload_n 0, 1) := by decide +kernel
theorem dX5_isSentence_21 : decode cX5_isSentence 21 = .ok (.getfield 75, 3) := by decide +kernel
theorem dX5_isSentence_24 : decode cX5_isSentence 24 = .ok (.invokestatic 82, 3) := by decide +kernel
theorem dX5_isSentence_27 : decode cX5_isSentence 27 = .ok (.iaload, 1) := by decide +kernel
theorem dX5_isSentence_28 : decode cX5_isSentence 28 = .ok (.ifCond .eq 7, 3) := by decide +kernel
theorem dX5_isSentence_31 : decode cX5_isSentence 31 = .ok (.iconst 1, 1) := by decide +kernel
theorem dX5_isSentence_32 : decode cX5_isSentence 32 = .ok (.goto 4, 3) := by decide +kernel
theorem dX5_isSentence_35 : decode cX5_isSentence 35 = .ok (.iconst 0, 1) := by decide +kernel
theorem dX5_isSentence_36 : decode cX5_isSentence 36 = .ok (.ireturn, 1) := by decide +kernel
set_option maxRecDepth 20000 in
theorem ggX5_counts_X5_span : GoodIn wsX5_counts wsX5_span := goodIn_r _ [13] (by decide +kernel) (by decide +kernel)
set_option maxRecDepth 20000 in
theorem gX5_counts_X5_span : GoodIn wsX5_counts (va_wsS RX5 82 yX5_span wsX5_span) := goodIn_app (goodIn_of _ (by decide +kernel)) ggX5_counts_X5_span
set_option maxRecDepth 20000 in
theorem ggX5_counts_X5_adds : GoodIn wsX5_counts wsX5_adds := goodIn_r _ [17, 2, 18, 19, 20, 12, 21, 22, 23, 24, 25, 26, 27, 28, 29, 30, 31, 32, 33, 34, 35, 36, 37, 38, 39, 40] (by decide +kernel) (by decide +kernel)
set_option maxRecDepth 20000 in
theorem gX5_counts_X5_adds : GoodIn wsX5_counts (wsV RX5 96 RX5 yX5_adds wsX5_adds) := goodIn_app (goodIn_of _ (by decide +kernel)) ggX5_counts_X5_adds
theorem dX5_counts_0 : decode cX5_counts 0 = .ok (.aload_n 0, 1) := by decide +kernel
theorem dX5_counts_1 : decode cX5_counts 1 = .ok (.getfield 75, 3) := by decide +kernel
theorem dX5_counts_4 : decode cX5_counts 4 = .ok (.iconst 1, 1) := by decide +kernel
theorem dX5_counts_5 : decode cX5_counts 5 = .ok (.isub, 1) := by decide +kernel
theorem dX5_counts_6 : decode cX5_counts 6 = .ok (.istore_n 1, 1) := by decide +kernel
theorem dX5_counts_7 : decode cX5_counts 7 = .ok (.iload_n 1, 1) := by decide +kernel
theorem dX5_counts_8 : decode cX5_counts 8 = .ok (.ifCond .lt 191, 3) := by decide +kernel
theorem dX5_counts_11 : decode cX5_counts 11 = .ok (.iload_n 1, 1) := by decide +kernel
theorem dX5_counts_12 : decode cX5_counts 12 = .ok (.iconst 1, 1) := by decide +kernel
theorem dX5_counts_13 : decode cX5_counts 13 = .ok (.iadd, 1) := by decide +kernel
theorem dX5_counts_14 : decode cX5_counts 14 = .ok (.istore_n 2, 1) := by decide +kernel
theorem dX5_counts_15 : decode cX5_counts 15 = .ok (.iload_n 2, 1) := by decide +kernel
theorem dX5_counts_16 : decode cX5_counts 16 = .ok (.aload_n 0, 1) := by decide +kernel
theorem dX5_counts_17 : decode cX5_counts 17 = .ok (.getfield 75, 3) := by decide +kernel
theorem dX5_counts_20 : decode cX5_counts 20 = .ok (.if_icmp .gt 173, 3) := by decide +kernel
theorem dX5_counts_23 : decode cX5_counts 23 = .ok (.bipush 16, 2) := by decide +kernel
theorem dX5_counts_25 : decode cX5_counts 25 = .ok (.iload_n 1, 1) := by decide +kernel
theorem dX5_counts_26 : decode cX5_counts 26 = .ok (.iload_n 2, 1) := by decide +kernel
theorem dX5_counts_27 : decode cX5_counts 27 = .ok (.invokestatic 82, 3) := by decide +kernel
theorem dX5_counts_30 : decode cX5_counts 30 = .ok (.imul, 1) := by decide +kernel
theorem dX5_counts_31 : decode cX5_counts 31 = .ok (.istore_n 3, 1) := by decide +kernel
theorem dX5_counts_32 : decode cX5_counts 32 = .ok (.iconst 0, 1) := by decide +kernel
theorem dX5_counts_33 : decode cX5_counts 33 = .ok (.istore 4, 2) := by decide +kernel
theorem dX5_counts_35 : decode cX5_counts 35 = .ok (.iload 4, 2) := by decide +kernel
theorem dX5_counts_37 : decode cX5_counts 37 = .ok (.sipush 128, 3) := by decide +kernel
theorem dX5_counts_40 : decode cX5_counts 40 = .ok (.if_icmp .ge 19, 3) := by decide +kernel
theorem dX5_counts_43 : decode cX5_counts 43 = .ok (.aload_n 0, 1) := by decide +kernel
theorem dX5_counts_44 : decode cX5_counts 44 = .ok (.getfield 37, 3) := by decide +kernel
theorem dX5_counts_47 : decode cX5_counts 47 = .ok (.iload_n 3, 1) := by decide +kernel
theorem dX5_counts_48 : decode cX5_counts 48 = .ok (.iload 4, 2) := by decide +kernel
theorem dX5_counts_50 : decode cX5_counts 50 = .ok (.iadd, 1) := by decide +kernel
theorem dX5_counts_51 : decode cX5_counts 51 = .ok (.lconst 0, 1) := by decide +kernel
theorem dX5_counts_52 : decode cX5_counts 52 = .ok (.lastore, 1) := by decide +kernel
theorem dX5_counts_53 : decode cX5_counts 53 = .ok (.iinc 4 1, 3) := by decide +kernel
theorem dX5_counts_56 : decode cX5_counts 56 = .ok (.goto (-21), 3) := by decide +kernel
theorem dX5_counts_59 : decode cX5_counts 59 = .ok (.iload_n 2, 1) := by decide +kernel
theorem dX5_counts_60 : decode cX5_counts 60 = .ok (.iload_n 1, 1) := by decide +kernel
theorem dX5_counts_61 : decode cX5_counts 61 = .ok (.iconst 1, 1) := by decide +kernel
theorem dX5_counts_62 : decode cX5_counts 62 = .ok (.iadd, 1) := by decide +kernel
theorem dX5_counts_63 : decode cX5_counts 63 = .ok (.if_icmp .ne 37, 3) := by decide +kernel
theorem dX5_counts_66 : decode cX5_counts 66 = .ok (.aload_n 0, 1) := by decide +kernel
theorem dX5_counts_67 : decode cX5_counts 67 = .ok (.getfield 37, 3) := by decide +kernel
theorem dX5_counts_70 : decode cX5_counts 70 = .ok (.iload_n 3, 1) := by decide +kernel
theorem dX5_counts_71 : decode cX5_counts 71 = .ok (.bipush 16, 2) := by decide +kernel
theorem dX5_counts_73 : decode cX5_counts 73 = .ok (.aload_n 0, 1) := by decide +kernel
theorem dX5_counts_74 : decode cX5_counts 74 = .ok (.getfield 7, 3) := by decide +kernel
theorem dX5_counts_77 : decode cX5_counts 77 = .ok (.aload_n 0, 1) := by decide +kernel
theorem dX5_counts_78 : decode cX5_counts 78 = .ok (.getfield 31, 3) := by decide +kernel
theorem dX5_counts_81 : decode cX5_counts 81 = .ok (.iload_n 1, 1) := by decide +kernel
theorem dX5_counts_82 : decode cX5_counts 82 = .ok (.iaload, 1) := by decide +kernel
theorem dX5_counts_83 : decode cX5_counts 83 = .ok (.iaload, 1) := by decide +kernel
theorem dX5_counts_84 : decode cX5_counts 84 = .ok (.imul, 1) := by decide +kernel
theorem dX5_counts_85 : decode cX5_counts 85 = .ok (.iadd, 1) := by decide +kernel
theorem dX5_counts_86 : decode cX5_counts 86 = .ok (.aload_n 0, 1) := by decide +kernel
theorem dX5_counts_87 : decode cX5_counts 87 = .ok (.getfield 13, 3) := by decide +kernel
theorem dX5_counts_90 : decode cX5_counts 90 = .ok (.aload_n 0, 1) := by decide +kernel
theorem dX5_counts_91 : decode cX5_counts 91 = .ok (.getfield 31, 3) := by decide +kernel
theorem dX5_counts_94 : decode cX5_counts 94 = .ok (.iload_n 1, 1) := by decide +kernel
theorem dX5_counts_95 : decode cX5_counts 95 = .ok (.iaload, 1) := by decide +kernel
theorem dX5_counts_96 : decode cX5_counts 96 = .ok (.iaload, 1) := by decide +kernel
theorem dX5_counts_97 : decode cX5_counts 97 = .ok (.iadd, 1) := by decide +kernel
theorem dX5_counts_98 : decode cX5_counts 98 = .ok (.lconst 1, 1) := by decide +kernel
theorem dX5_counts_99 : decode cX5_counts 99 = .ok (.lastore, 1) := by decide +kernel
theorem dX5_counts_100 : decode cX5_counts 100 = .ok (.iconst 0, 1) := by decide +kernel
theorem dX5_counts_101 : decode cX5_counts 101 = .ok (.istore 4, 2) := by decide +kernel
theorem dX5_counts_103 : decode cX5_counts 103 = .ok (.iload 4, 2) := by decide +kernel
theorem dX5_counts_105 : decode cX5_counts 105 = .ok (.aload_n 0, 1) := by decide +kernel
theorem dX5_counts_106 : decode cX5_counts 106 = .ok (.getfield 66, 3) := by decide +kernel
theorem dX5_counts_109 : decode cX5_counts 109 = .ok (.if_icmp .ge 78, 3) := by decide +kernel
theorem dX5_counts_112 : decode cX5_counts 112 = .ok (.iload_n 1, 1) := by decide +kernel
theorem dX5_counts_113 : decode cX5_counts 113 = .ok (.iconst 1, 1) := by decide +kernel
theorem dX5_counts_114 : decode cX5_counts 114 = .ok (.iadd, 1) := by decide +kernel
theorem dX5_counts_115 : decode cX5_counts 115 = .ok (.istore 5, 2) := by decide +kernel
theorem dX5_counts_117 : decode cX5_counts 117 = .ok (.iload 5, 2) := by decide +kernel
theorem dX5_counts_119 : decode cX5_counts 119 = .ok (.iload_n 2, 1) := by decide +kernel
theorem dX5_counts_120 : decode cX5_counts 120 = .ok (.if_icmp .ge 61, 3) := by decide +kernel
theorem dX5_counts_123 : decode cX5_counts 123 = .ok (.aload_n 0, 1) := by decide +kernel
theorem dX5_counts_124 : decode cX5_counts 124 = .ok (.iload 4, 2) := by decide +kernel
theorem dX5_counts_126 : decode cX5_counts 126 = .ok (.iload_n 3, 1) := by decide +kernel
theorem dX5_counts_127 : decode cX5_counts 127 = .ok (.bipush 16, 2) := by decide +kernel
theorem dX5_counts_129 : decode cX5_counts 129 = .ok (.aload_n 0, 1) := by decide +kernel
theorem dX5_counts_130 : decode cX5_counts 130 = .ok (.getfield 16, 3) := by decide +kernel
theorem dX5_counts_133 : decode cX5_counts 133 = .ok (.iload 4, 2) := by decide +kernel
theorem dX5_counts_135 : decode cX5_counts 135 = .ok (.iaload, 1) := by decide +kernel
theorem dX5_counts_136 : decode cX5_counts 136 = .ok (.imul, 1) := by decide +kernel
theorem dX5_counts_137 : decode cX5_counts 137 = .ok (.iadd, 1) := by decide +kernel
theorem dX5_counts_138 : decode cX5_counts 138 = .ok (.bipush 16, 2) := by decide +kernel
theorem dX5_counts_140 : decode cX5_counts 140 = .ok (.iload_n 1, 1) := by decide +kernel
theorem dX5_counts_141 : decode cX5_counts 141 = .ok (.iload 5, 2) := by decide +kernel
theorem dX5_counts_143 : decode cX5_counts 143 = .ok (.invokestatic 82, 3) := by decide +kernel
theorem dX5_counts_146 : decode cX5_counts 146 = .ok (.aload_n 0, 1) := by decide +kernel
theorem dX5_counts_147 : decode cX5_counts 147 = .ok (.getfield 19, 3) := by decide +kernel
theorem dX5_counts_150 : decode cX5_counts 150 = .ok (.iload 4, 2) := by decide +kernel
theorem dX5_counts_152 : decode cX5_counts 152 = .ok (.iaload, 1) := by decide +kernel
theorem dX5_counts_153 : decode cX5_counts 153 = .ok (.iadd, 1) := by decide +kernel
theorem dX5_counts_154 : decode cX5_counts 154 = .ok (.imul, 1) := by decide +kernel
theorem dX5_counts_155 : decode cX5_counts 155 = .ok (.bipush 16, 2) := by decide +kernel
theorem dX5_counts_157 : decode cX5_counts 157 = .ok (.iload 5, 2) := by decide +kernel
theorem dX5_counts_159 : decode cX5_counts 159 = .ok (.iload_n 2, 1) := by decide +kernel
theorem dX5_counts_160 : decode cX5_counts 160 = .ok (.invokestatic 82, 3) := by decide +kernel
theorem dX5_counts_163 : decode cX5_counts 163 = .ok (.aload_n 0, 1) := by decide +kernel
theorem dX5_counts_164 : decode cX5_counts 164 = .ok (.getfield 22, 3) := by decide +kernel
theorem dX5_counts_167 : decode cX5_counts 167 = .ok (.iload 4, 2) := by decide +kernel
theorem dX5_counts_169 : decode cX5_counts 169 = .ok (.iaload, 1) := by decide +kernel
theorem dX5_counts_170 : decode cX5_counts 170 = .ok (.iadd, 1) := by decide +kernel
theorem dX5_counts_171 : decode cX5_counts 171 = .ok (.imul, 1) := by decide +kernel
theorem dX5_counts_172 : decode cX5_counts 172 = .ok (.invokevirtual 96, 3) := by decide +kernel
theorem dX5_counts_175 : decode cX5_counts 175 = .ok (.iinc 5 1, 3) := by decide +kernel
theorem dX5_counts_178 : decode cX5_counts 178 = .ok (.goto (-61), 3) := by decide +kernel
theorem dX5_counts_181 : decode cX5_counts 181 = .ok (.iinc 4 1, 3) := by decide +kernel
theorem dX5_counts_184 : decode cX5_counts 184 = .ok (.goto (-81), 3) := by decide +kernel
theorem dX5_counts_187 : decode cX5_counts 187 = .ok (.iinc 2 1, 3) := by decide +kernel
theorem dX5_counts_190 : decode cX5_counts 190 = .ok (.goto (-175), 3) := by decide +kernel
theorem dX5_counts_193 : decode cX5_counts 193 = .ok (.iinc 1 (-1), 3) := by decide +kernel
theorem dX5_counts_196 : decode cX5_counts 196 = .ok (.goto (-189), 3) := by decide +kernel
theorem dX5_counts_199 : decode cX5_counts 199 = .ok (.return_, 1) := by decide +kernel
set_option maxRecDepth 20000 in
theorem ggX5_adds_X5_makesBoth : GoodIn wsX5_adds wsX5_makesBoth := goodIn_r _ [6, 7, 8, 9, 5, 10, 11, 12, 13, 14, 15, 16, 17, 18, 19, 20, 21, 22, 23, 24, 25] (by decide +kernel) (by decide +kernel)
set_option maxRecDepth 20000 in
theorem gX5_adds_X5_makesBoth : GoodIn wsX5_adds (wsV RX5 89 RX5 yX5_makesBoth wsX5_makesBoth) := goodIn_app (goodIn_of _ (by decide +kernel)) ggX5_adds_X5_makesBoth
theorem dX5_adds_0 : decode cX5_adds 0 = .ok (.iconst 0, 1) := by decide +kernel
theorem dX5_adds_1 : decode cX5_adds 1 = .ok (.istore 5, 2) := by decide +kernel
theorem dX5_adds_3 : decode cX5_adds 3 = .ok (.iload 5, 2) := by decide +kernel
theorem dX5_adds_5 : decode cX5_adds 5 = .ok (.bipush 16, 2) := by decide +kernel
theorem dX5_adds_7 : decode cX5_adds 7 = .ok (.if_icmp .ge 106, 3) := by decide +kernel
theorem dX5_adds_10 : decode cX5_adds 10 = .ok (.iconst 0, 1) := by decide +kernel
theorem dX5_adds_11 : decode cX5_adds 11 = .ok (.istore 6, 2) := by decide +kernel
theorem dX5_adds_13 : decode cX5_adds 13 = .ok (.iload 6, 2) := by decide +kernel
theorem dX5_adds_15 : decode cX5_adds 15 = .ok (.bipush 16, 2) := by decide +kernel
theorem dX5_adds_17 : decode cX5_adds 17 = .ok (.if_icmp .ge 90, 3) := by decide +kernel
theorem dX5_adds_20 : decode cX5_adds 20 = .ok (.aload_n 0, 1) := by decide +kernel
theorem dX5_adds_21 : decode cX5_adds 21 = .ok (.getfield 37, 3) := by decide +kernel
theorem dX5_adds_24 : decode cX5_adds 24 = .ok (.iload_n 3, 1) := by decide +kernel
theorem dX5_adds_25 : decode cX5_adds 25 = .ok (.iload 5, 2) := by decide +kernel
theorem dX5_adds_27 : decode cX5_adds 27 = .ok (.iadd, 1) := by decide +kernel
theorem dX5_adds_28 : decode cX5_adds 28 = .ok (.laload, 1) := by decide +kernel
theorem dX5_adds_29 : decode cX5_adds 29 = .ok (.lconst 0, 1) := by decide +kernel
theorem dX5_adds_30 : decode cX5_adds 30 = .ok (.lcmp, 1) := by decide +kernel
theorem dX5_adds_31 : decode cX5_adds 31 = .ok (.ifCond .le 76, 3) := by decide +kernel
theorem dX5_adds_34 : decode cX5_adds 34 = .ok (.aload_n 0, 1) := by decide +kernel
theorem dX5_adds_35 : decode cX5_adds 35 = .ok (.getfield 37, 3) := by decide +kernel
theorem dX5_adds_38 : decode cX5_adds 38 = .ok (.iload 4, 2) := by decide +kernel
theorem dX5_adds_40 : decode cX5_adds 40 = .ok (.iload 6, 2) := by decide +kernel
theorem dX5_adds_42 : decode cX5_adds 42 = .ok (.iadd, 1) := by decide +kernel
theorem dX5_adds_43 : decode cX5_adds 43 = .ok (.laload, 1) := by decide +kernel
theorem dX5_adds_44 : decode cX5_adds 44 = .ok (.lconst 0, 1) := by decide +kernel
theorem dX5_adds_45 : decode cX5_adds 45 = .ok (.lcmp, 1) := by decide +kernel
theorem dX5_adds_46 : decode cX5_adds 46 = .ok (.ifCond .le 15, 3) := by decide +kernel
theorem dX5_adds_49 : decode cX5_adds 49 = .ok (.aload_n 0, 1) := by decide +kernel
theorem dX5_adds_50 : decode cX5_adds 50 = .ok (.iload_n 1, 1) := by decide +kernel
theorem dX5_adds_51 : decode cX5_adds 51 = .ok (.iload 5, 2) := by decide +kernel
theorem dX5_adds_53 : decode cX5_adds 53 = .ok (.iload 6, 2) := by decide +kernel
theorem dX5_adds_55 : decode cX5_adds 55 = .ok (.invokevirtual 89, 3) := by decide +kernel
theorem dX5_adds_58 : decode cX5_adds 58 = .ok (.goto 4, 3) := by decide +kernel
theorem dX5_adds_61 : decode cX5_adds 61 = .ok (.iconst (-1), 1) := by decide +kernel
theorem dX5_adds_62 : decode cX5_adds 62 = .ok (.istore 7, 2) := by decide +kernel
theorem dX5_adds_64 : decode cX5_adds 64 = .ok (.iload 7, 2) := by decide +kernel
theorem dX5_adds_66 : decode cX5_adds 66 = .ok (.ifCond .lt 35, 3) := by decide +kernel
theorem dX5_adds_69 : decode cX5_adds 69 = .ok (.aload_n 0, 1) := by decide +kernel
theorem dX5_adds_70 : decode cX5_adds 70 = .ok (.getfield 37, 3) := by decide +kernel
theorem dX5_adds_73 : decode cX5_adds 73 = .ok (.iload_n 2, 1) := by decide +kernel
theorem dX5_adds_74 : decode cX5_adds 74 = .ok (.iload 7, 2) := by decide +kernel
theorem dX5_adds_76 : decode cX5_adds 76 = .ok (.iadd, 1) := by decide +kernel
theorem dX5_adds_77 : decode cX5_adds 77 = .ok (.dup2, 1) := by decide +kernel
theorem dX5_adds_78 : decode cX5_adds 78 = .ok (.laload, 1) := by decide +kernel
theorem dX5_adds_79 : decode cX5_adds 79 = .ok (.aload_n 0, 1) := by decide +kernel
theorem dX5_adds_80 : decode cX5_adds 80 = .ok (.getfield 37, 3) := by decide +kernel
theorem dX5_adds_83 : decode cX5_adds 83 = .ok (.iload_n 3, 1) := by decide +kernel
theorem dX5_adds_84 : decode cX5_adds 84 = .ok (.iload 5, 2) := by decide +kernel
theorem dX5_adds_86 : decode cX5_adds 86 = .ok (.iadd, 1) := by decide +kernel
theorem dX5_adds_87 : decode cX5_adds 87 = .ok (.laload, 1) := by decide +kernel
theorem dX5_adds_88 : decode cX5_adds 88 = .ok (.aload_n 0, 1) := by decide +kernel
theorem dX5_adds_89 : decode cX5_adds 89 = .ok (.getfield 37, 3) := by decide +kernel
theorem dX5_adds_92 : decode cX5_adds 92 = .ok (.iload 4, 2) := by decide +kernel
theorem dX5_adds_94 : decode cX5_adds 94 = .ok (.iload 6, 2) := by decide +kernel
theorem dX5_adds_96 : decode cX5_adds 96 = .ok (.iadd, 1) := by decide +kernel
theorem dX5_adds_97 : decode cX5_adds 97 = .ok (.laload, 1) := by decide +kernel
theorem dX5_adds_98 : decode cX5_adds 98 = .ok (.lmul, 1) := by decide +kernel
theorem dX5_adds_99 : decode cX5_adds 99 = .ok (.ladd, 1) := by decide +kernel
theorem dX5_adds_100 : decode cX5_adds 100 = .ok (.lastore, 1) := by decide +kernel
theorem dX5_adds_101 : decode cX5_adds 101 = .ok (.iinc 6 1, 3) := by decide +kernel
theorem dX5_adds_104 : decode cX5_adds 104 = .ok (.goto (-91), 3) := by decide +kernel
theorem dX5_adds_107 : decode cX5_adds 107 = .ok (.iinc 5 1, 3) := by decide +kernel
theorem dX5_adds_110 : decode cX5_adds 110 = .ok (.goto (-107), 3) := by decide +kernel
theorem dX5_adds_113 : decode cX5_adds 113 = .ok (.return_, 1) := by decide +kernel
set_option maxRecDepth 20000 in
theorem ggX5_countOf_X5_takes : GoodIn wsX5_countOf wsX5_takes := goodIn_r _ [8, 9, 10, 11, 12, 38, 39, 40, 41, 42, 43, 44, 45, 46, 47, 48, 49, 50, 51, 52] (by decide +kernel) (by decide +kernel)
set_option maxRecDepth 20000 in
theorem gX5_countOf_X5_takes : GoodIn wsX5_countOf (wsV RX5 100 RX5 yX5_takes wsX5_takes) := goodIn_app (goodIn_of _ (by decide +kernel)) ggX5_countOf_X5_takes
set_option maxRecDepth 20000 in
theorem ggX5_countOf_X5_counts : GoodIn wsX5_countOf wsX5_counts := goodIn_r _ [16, 10, 1, 17, 11, 18, 19, 20, 21, 22, 23, 24, 7, 25, 26, 27, 28, 29, 30, 31, 32, 33, 34, 35, 36, 37, 38, 39, 40, 41, 42, 43, 44, 45, 46, 47, 48, 49, 50, 51, 52] (by decide +kernel) (by decide +kernel)
set_option maxRecDepth 20000 in
theorem gX5_countOf_X5_counts : GoodIn wsX5_countOf (wsV RX5 103 RX5 yX5_counts wsX5_counts) := goodIn_app (goodIn_of _ (by decide +kernel)) ggX5_countOf_X5_counts
set_option maxRecDepth 20000 in
theorem ggX5_countOf_X5_span : GoodIn wsX5_countOf wsX5_span := goodIn_r _ [25] (by decide +kernel) (by decide +kernel)
set_option maxRecDepth 20000 in
theorem gX5_countOf_X5_span : GoodIn wsX5_countOf (va_wsS RX5 82 yX5_span wsX5_span) := goodIn_app (goodIn_of _ (by decide +kernel)) ggX5_countOf_X5_span
theorem dX5_countOf_0 : decode cX5_countOf 0 = .ok (.aload_n 0, 1) := by decide +kernel
theorem dX5_countOf_1 : decode cX5_countOf 1 = .ok (.invokevirtual 100, 3) := by decide +kernel
theorem dX5_countOf_4 : decode cX5_countOf 4 = .ok (.aload_n 0, 1) := by decide +kernel
theorem dX5_countOf_5 : decode cX5_countOf 5 = .ok (.invokevirtual 103, 3) := by decide +kernel
theorem dX5_countOf_8 : decode cX5_countOf 8 = .ok (.lconst 0, 1) := by decide +kernel
theorem dX5_countOf_9 : decode cX5_countOf 9 = .ok (.lstore 4, 2) := by decide +kernel
theorem dX5_countOf_11 : decode cX5_countOf 11 = .ok (.iconst 0, 1) := by decide +kernel
theorem dX5_countOf_12 : decode cX5_countOf 12 = .ok (.istore 6, 2) := by decide +kernel
theorem dX5_countOf_14 : decode cX5_countOf 14 = .ok (.iload 6, 2) := by decide +kernel
theorem dX5_countOf_16 : decode cX5_countOf 16 = .ok (.bipush 16, 2) := by decide +kernel
theorem dX5_countOf_18 : decode cX5_countOf 18 = .ok (.if_icmp .ge 32, 3) := by decide +kernel
theorem dX5_countOf_21 : decode cX5_countOf 21 = .ok (.lload 4, 2) := by decide +kernel
theorem dX5_countOf_23 : decode cX5_countOf 23 = .ok (.aload_n 0, 1) := by decide +kernel
theorem dX5_countOf_24 : decode cX5_countOf 24 = .ok (.getfield 37, 3) := by decide +kernel
theorem dX5_countOf_27 : decode cX5_countOf 27 = .ok (.bipush 16, 2) := by decide +kernel
theorem dX5_countOf_29 : decode cX5_countOf 29 = .ok (.iload_n 1, 1) := by decide +kernel
theorem dX5_countOf_30 : decode cX5_countOf 30 = .ok (.iload_n 2, 1) := by decide +kernel
theorem dX5_countOf_31 : decode cX5_countOf 31 = .ok (.invokestatic 82, 3) := by decide +kernel
theorem dX5_countOf_34 : decode cX5_countOf 34 = .ok (.iload_n 3, 1) := by decide +kernel
theorem dX5_countOf_35 : decode cX5_countOf 35 = .ok (.iadd, 1) := by decide +kernel
theorem dX5_countOf_36 : decode cX5_countOf 36 = .ok (.imul, 1) := by decide +kernel
theorem dX5_countOf_37 : decode cX5_countOf 37 = .ok (.iload 6, 2) := by decide +kernel
theorem dX5_countOf_39 : decode cX5_countOf 39 = .ok (.iadd, 1) := by decide +kernel
theorem dX5_countOf_40 : decode cX5_countOf 40 = .ok (.laload, 1) := by decide +kernel
theorem dX5_countOf_41 : decode cX5_countOf 41 = .ok (.ladd, 1) := by decide +kernel
theorem dX5_countOf_42 : decode cX5_countOf 42 = .ok (.lstore 4, 2) := by decide +kernel
theorem dX5_countOf_44 : decode cX5_countOf 44 = .ok (.iinc 6 1, 3) := by decide +kernel
theorem dX5_countOf_47 : decode cX5_countOf 47 = .ok (.goto (-33), 3) := by decide +kernel
theorem dX5_countOf_50 : decode cX5_countOf 50 = .ok (.lload 4, 2) := by decide +kernel
theorem dX5_countOf_52 : decode cX5_countOf 52 = .ok (.ldc2_w 106, 3) := by decide +kernel
theorem dX5_countOf_55 : decode cX5_countOf 55 = .ok (.lcmp, 1) := by decide +kernel
theorem dX5_countOf_56 : decode cX5_countOf 56 = .ok (.ifCond .le 8, 3) := by decide +kernel
theorem dX5_countOf_59 : decode cX5_countOf 59 = .ok (.ldc 108, 2) := by decide +kernel
theorem dX5_countOf_61 : decode cX5_countOf 61 = .ok (.goto 6, 3) := by decide +kernel
theorem dX5_countOf_64 : decode cX5_countOf 64 = .ok (.lload 4, 2) := by decide +kernel
theorem dX5_countOf_66 : decode cX5_countOf 66 = .ok (.l2i, 1) := by decide +kernel
theorem dX5_countOf_67 : decode cX5_countOf 67 = .ok (.ireturn, 1) := by decide +kernel
set_option maxRecDepth 20000 in
theorem ggX5_readings_X5_countOf : GoodIn wsX5_readings wsX5_countOf := goodIn_r _ [7, 8, 9, 10, 11, 12, 13, 6, 14, 2, 15, 16, 17, 18, 19, 20, 21, 22, 23, 24, 25, 26, 27, 28, 29, 30, 31, 32, 33, 34, 35, 36, 37, 38, 39, 40, 41, 42, 43, 44, 45, 46, 47, 48, 49, 50, 51, 52, 53, 54, 55, 56, 57] (by decide +kernel) (by decide +kernel)
set_option maxRecDepth 20000 in
theorem gX5_readings_X5_countOf : GoodIn wsX5_readings (wsV RX5 109 RX5 yX5_countOf wsX5_countOf) := goodIn_app (goodIn_of _ (by decide +kernel)) ggX5_readings_X5_countOf
theorem dX5_readings_0 : decode cX5_readings 0 = .ok (.aload_n 0, 1) := by decide +kernel
theorem dX5_readings_1 : decode cX5_readings 1 = .ok (.iconst 0, 1) := by decide +kernel
theorem dX5_readings_2 : decode cX5_readings 2 = .ok (.putfield 41, 3) := by decide +kernel
theorem dX5_readings_5 : decode cX5_readings 5 = .ok (.aload_n 0, 1) := by decide +kernel
theorem dX5_readings_6 : decode cX5_readings 6 = .ok (.getfield 69, 3) := by decide +kernel
theorem dX5_readings_9 : decode cX5_readings 9 = .ok (.ifCond .ne 7, 3) := by decide +kernel
theorem dX5_readings_12 : decode cX5_readings 12 = .ok (.iconst 0, 1) := by decide +kernel
theorem dX5_readings_13 : decode cX5_readings 13 = .ok (.goto 13, 3) := by decide +kernel
theorem dX5_readings_16 : decode cX5_readings 16 = .ok (.aload_n 0, 1) := by decide +kernel
theorem dX5_readings_17 : decode cX5_readings 17 = .ok (.iconst 0, 1) := by decide +kernel
theorem dX5_readings_18 : decode cX5_readings 18 = .ok (.aload_n 0, 1) := by decide +kernel
theorem dX5_readings_19 : decode cX5_readings 19 = .ok (.getfield 69, 3) := by decide +kernel
theorem dX5_readings_22 : decode cX5_readings 22 = .ok (.iconst 0, 1) := by decide +kernel
theorem dX5_readings_23 : decode cX5_readings 23 = .ok (.invokevirtual 109, 3) := by decide +kernel
theorem dX5_readings_26 : decode cX5_readings 26 = .ok (.ireturn, 1) := by decide +kernel
set_option maxRecDepth 20000 in
theorem ggX5_readingsPlainly_X5_readings : GoodIn wsX5_readingsPlainly wsX5_readings := goodIn_r _ [5, 6, 7, 8, 9, 10, 4, 11, 12, 13, 14, 15, 16, 17, 18, 19, 20, 21, 22, 23, 24, 25, 26, 27, 28, 29, 30, 31, 32, 33, 34, 35, 36, 37, 38, 39, 40, 41, 42, 43, 44, 45, 46, 47, 48, 49, 50, 51, 52, 53, 54, 55, 56, 57, 58, 59, 60, 61] (by decide +kernel) (by decide +kernel)
set_option maxRecDepth 20000 in
theorem gX5_readingsPlainly_X5_readings : GoodIn wsX5_readingsPlainly (wsV RX5 112 RX5 yX5_readings wsX5_readings) := goodIn_app (goodIn_of _ (by decide +kernel)) ggX5_readingsPlainly_X5_readings
theorem dX5_readingsPlainly_0 : decode cX5_readingsPlainly 0 = .ok (.aload_n 0, 1) := by decide +kernel
theorem dX5_readingsPlainly_1 : decode cX5_readingsPlainly 1 = .ok (.invokevirtual 112, 3) := by decide +kernel
theorem dX5_readingsPlainly_4 : decode cX5_readingsPlainly 4 = .ok (.ireturn, 1) := by decide +kernel
set_option maxRecDepth 20000 in
theorem ggX5_isPart_X5_isWithin : GoodIn wsX5_isPart wsX5_isWithin := goodIn_r _ [5] (by decide +kernel) (by decide +kernel)
set_option maxRecDepth 20000 in
theorem gX5_isPart_X5_isWithin : GoodIn wsX5_isPart (va_wsS RX5 48 yX5_isWithin wsX5_isWithin) := goodIn_app (goodIn_of _ (by decide +kernel)) ggX5_isPart_X5_isWithin
theorem dX5_isPart_0 : decode cX5_isPart 0 = .ok (.iload_n 1, 1) := by decide +kernel
theorem dX5_isPart_1 : decode cX5_isPart 1 = .ok (.ifCond .lt 30, 3) := by decide +kernel
theorem dX5_isPart_4 : decode cX5_isPart 4 = .ok (.iload_n 2, 1) := by decide +kernel
theorem dX5_isPart_5 : decode cX5_isPart 5 = .ok (.iload_n 1, 1) := by decide +kernel
theorem dX5_isPart_6 : decode cX5_isPart 6 = .ok (.if_icmp .le 25, 3) := by decide +kernel
theorem dX5_isPart_9 : decode cX5_isPart 9 = .ok (.iload_n 2, 1) := by decide +kernel
theorem dX5_isPart_10 : decode cX5_isPart 10 = .ok (.aload_n 0, 1) := by decide +kernel
theorem dX5_isPart_11 : decode cX5_isPart 11 = .ok (.getfield 69, 3) := by decide +kernel
theorem dX5_isPart_14 : decode cX5_isPart 14 = .ok (.if_icmp .gt 17, 3) := by decide +kernel
theorem dX5_isPart_17 : decode cX5_isPart 17 = .ok (.iload_n 3, 1) := by decide +kernel
theorem dX5_isPart_18 : decode cX5_isPart 18 = .ok (.iconst 0, 1) := by decide +kernel
theorem dX5_isPart_19 : decode cX5_isPart 19 = .ok (.bipush 7, 2) := by decide +kernel
theorem dX5_isPart_21 : decode cX5_isPart 21 = .ok (.invokestatic 48, 3) := by decide +kernel
theorem dX5_isPart_24 : decode cX5_isPart 24 = .ok (.ifCond .eq 7, 3) := by decide +kernel
theorem dX5_isPart_27 : decode cX5_isPart 27 = .ok (.iconst 1, 1) := by decide +kernel
theorem dX5_isPart_28 : decode cX5_isPart 28 = .ok (.goto 4, 3) := by decide +kernel
theorem dX5_isPart_31 : decode cX5_isPart 31 = .ok (.iconst 0, 1) := by decide +kernel
theorem dX5_isPart_32 : decode cX5_isPart 32 = .ok (.ireturn, 1) := by decide +kernel
set_option maxRecDepth 20000 in
theorem ggX5_readingsOf_X5_isPart : GoodIn wsX5_readingsOf wsX5_isPart := goodIn_r _ [5, 6, 7, 8, 4, 9, 54, 55, 56, 57, 58, 59, 60, 61, 62, 63, 64, 65, 66, 67, 68] (by decide +kernel) (by decide +kernel)
set_option maxRecDepth 20000 in
theorem gX5_readingsOf_X5_isPart : GoodIn wsX5_readingsOf (wsV RX5 116 RX5 yX5_isPart wsX5_isPart) := goodIn_app (goodIn_of _ (by decide +kernel)) ggX5_readingsOf_X5_isPart
set_option maxRecDepth 20000 in
theorem ggX5_readingsOf_X5_goes : GoodIn wsX5_readingsOf wsX5_goes := goodIn_r _ [13, 14, 54, 55, 56, 57, 58, 59, 60, 61, 62, 63, 64, 65, 66, 67, 68] (by decide +kernel) (by decide +kernel)
set_option maxRecDepth 20000 in
theorem gX5_readingsOf_X5_goes : GoodIn wsX5_readingsOf (wsV RX5 55 RX5 yX5_goes wsX5_goes) := goodIn_app (goodIn_of _ (by decide +kernel)) ggX5_readingsOf_X5_goes
set_option maxRecDepth 20000 in
theorem ggX5_readingsOf_X5_countOf : GoodIn wsX5_readingsOf wsX5_countOf := goodIn_r _ [18, 19, 20, 21, 22, 23, 24, 4, 25, 6, 26, 27, 28, 29, 30, 31, 32, 33, 34, 35, 36, 37, 38, 39, 40, 41, 42, 43, 44, 45, 46, 47, 48, 49, 50, 51, 52, 53, 54, 55, 56, 57, 58, 59, 60, 61, 62, 63, 64, 65, 66, 67, 68] (by decide +kernel) (by decide +kernel)
set_option maxRecDepth 20000 in
theorem gX5_readingsOf_X5_countOf : GoodIn wsX5_readingsOf (wsV RX5 109 RX5 yX5_countOf wsX5_countOf) := goodIn_app (goodIn_of _ (by decide +kernel)) ggX5_readingsOf_X5_countOf
theorem dX5_readingsOf_0 : decode cX5_readingsOf 0 = .ok (.aload_n 0, 1) := by decide +kernel
theorem dX5_readingsOf_1 : decode cX5_readingsOf 1 = .ok (.aload_n 0, 1) := by decide +kernel
theorem dX5_readingsOf_2 : decode cX5_readingsOf 2 = .ok (.iload_n 1, 1) := by decide +kernel
theorem dX5_readingsOf_3 : decode cX5_readingsOf 3 = .ok (.iload_n 2, 1) := by decide +kernel
theorem dX5_readingsOf_4 : decode cX5_readingsOf 4 = .ok (.iload_n 3, 1) := by decide +kernel
theorem dX5_readingsOf_5 : decode cX5_readingsOf 5 = .ok (.invokevirtual 116, 3) := by decide +kernel
theorem dX5_readingsOf_8 : decode cX5_readingsOf 8 = .ok (.iconst 1, 1) := by decide +kernel
theorem dX5_readingsOf_9 : decode cX5_readingsOf 9 = .ok (.invokevirtual 55, 3) := by decide +kernel
theorem dX5_readingsOf_12 : decode cX5_readingsOf 12 = .ok (.ifCond .eq 13, 3) := by decide +kernel
theorem dX5_readingsOf_15 : decode cX5_readingsOf 15 = .ok (.aload_n 0, 1) := by decide +kernel
theorem dX5_readingsOf_16 : decode cX5_readingsOf 16 = .ok (.iload_n 1, 1) := by decide +kernel
theorem dX5_readingsOf_17 : decode cX5_readingsOf 17 = .ok (.iload_n 2, 1) := by decide +kernel
theorem dX5_readingsOf_18 : decode cX5_readingsOf 18 = .ok (.iload_n 3, 1) := by decide +kernel
theorem dX5_readingsOf_19 : decode cX5_readingsOf 19 = .ok (.invokevirtual 109, 3) := by decide +kernel
theorem dX5_readingsOf_22 : decode cX5_readingsOf 22 = .ok (.goto 4, 3) := by decide +kernel
theorem dX5_readingsOf_25 : decode cX5_readingsOf 25 = .ok (.iconst 0, 1) := by decide +kernel
theorem dX5_readingsOf_26 : decode cX5_readingsOf 26 = .ok (.ireturn, 1) := by decide +kernel
set_option maxRecDepth 20000 in
theorem ggX5_has_X5_isPart : GoodIn wsX5_has wsX5_isPart := goodIn_r _ [7, 8, 9, 10, 6, 11, 51, 52, 53, 54, 55, 56, 57, 58, 59, 60, 61, 62, 63, 64, 65] (by decide +kernel) (by decide +kernel)
set_option maxRecDepth 20000 in
theorem gX5_has_X5_isPart : GoodIn wsX5_has (wsV RX5 116 RX5 yX5_isPart wsX5_isPart) := goodIn_app (goodIn_of _ (by decide +kernel)) ggX5_has_X5_isPart
set_option maxRecDepth 20000 in
theorem ggX5_has_X5_isPair : GoodIn wsX5_has wsX5_isPair := goodIn_r _ [14] (by decide +kernel) (by decide +kernel)
set_option maxRecDepth 20000 in
theorem gX5_has_X5_isPair : GoodIn wsX5_has (va_wsS RX5 63 yX5_isPair wsX5_isPair) := goodIn_app (goodIn_of _ (by decide +kernel)) ggX5_has_X5_isPair
set_option maxRecDepth 20000 in
theorem ggX5_has_X5_goes : GoodIn wsX5_has wsX5_goes := goodIn_r _ [18, 19, 51, 52, 53, 54, 55, 56, 57, 58, 59, 60, 61, 62, 63, 64, 65] (by decide +kernel) (by decide +kernel)
set_option maxRecDepth 20000 in
theorem gX5_has_X5_goes : GoodIn wsX5_has (wsV RX5 55 RX5 yX5_goes wsX5_goes) := goodIn_app (goodIn_of _ (by decide +kernel)) ggX5_has_X5_goes
set_option maxRecDepth 20000 in
theorem ggX5_has_X5_takes : GoodIn wsX5_has wsX5_takes := goodIn_r _ [23, 8, 24, 25, 26, 51, 52, 53, 54, 55, 56, 57, 58, 59, 60, 61, 62, 63, 64, 65] (by decide +kernel) (by decide +kernel)
set_option maxRecDepth 20000 in
theorem gX5_has_X5_takes : GoodIn wsX5_has (wsV RX5 100 RX5 yX5_takes wsX5_takes) := goodIn_app (goodIn_of _ (by decide +kernel)) ggX5_has_X5_takes
set_option maxRecDepth 20000 in
theorem ggX5_has_X5_parses : GoodIn wsX5_has wsX5_parses := goodIn_r _ [30, 24, 2, 31, 25, 32, 33, 34, 35, 36, 37, 6, 38, 39, 40, 41, 42, 43, 44, 45, 46, 47, 48, 49, 50, 51, 52, 53, 54, 55, 56, 57, 58, 59, 60, 61, 62, 63, 64, 65] (by decide +kernel) (by decide +kernel)
set_option maxRecDepth 20000 in
theorem gX5_has_X5_parses : GoodIn wsX5_has (wsV RX5 92 RX5 yX5_parses wsX5_parses) := goodIn_app (goodIn_of _ (by decide +kernel)) ggX5_has_X5_parses
set_option maxRecDepth 20000 in
theorem ggX5_has_X5_span : GoodIn wsX5_has wsX5_span := goodIn_r _ [38] (by decide +kernel) (by decide +kernel)
set_option maxRecDepth 20000 in
theorem gX5_has_X5_span : GoodIn wsX5_has (va_wsS RX5 82 yX5_span wsX5_span) := goodIn_app (goodIn_of _ (by decide +kernel)) ggX5_has_X5_span
theorem dX5_has_0 : decode cX5_has 0 = .ok (.aload_n 0, 1) := by decide +kernel
theorem dX5_has_1 : decode cX5_has 1 = .ok (.aload_n 0, 1) := by decide +kernel
theorem dX5_has_2 : decode cX5_has 2 = .ok (.iload_n 1, 1) := by decide +kernel
theorem dX5_has_3 : decode cX5_has 3 = .ok (.iload_n 2, 1) := by decide +kernel
theorem dX5_has_4 : decode cX5_has 4 = .ok (.iload_n 3, 1) := by decide +kernel
theorem dX5_has_5 : decode cX5_has 5 = .ok (.invokevirtual 116, 3) := by decide +kernel
theorem dX5_has_8 : decode cX5_has 8 = .ok (.iload 4, 2) := by decide +kernel
theorem dX5_has_10 : decode cX5_has 10 = .ok (.invokestatic 63, 3) := by decide +kernel
theorem dX5_has_13 : decode cX5_has 13 = .ok (.invokevirtual 55, 3) := by decide +kernel
theorem dX5_has_16 : decode cX5_has 16 = .ok (.ifCond .ne 5, 3) := by decide +kernel
theorem dX5_has_19 : decode cX5_has 19 = .ok (.iconst 0, 1) := by decide +kernel
theorem dX5_has_20 : decode cX5_has 20 = .ok (.ireturn, 1) := by decide +kernel
theorem dX5_has_21 : decode cX5_has 21 = .ok (.aload_n 0, 1) := by decide +kernel
theorem dX5_has_22 : decode cX5_has 22 = .ok (.invokevirtual 100, 3) := by decide +kernel
theorem dX5_has_25 : decode cX5_has 25 = .ok (.aload_n 0, 1) := by decide +kernel
theorem dX5_has_26 : decode cX5_has 26 = .ok (.aload_n 0, 1) := by decide +kernel
theorem dX5_has_27 : decode cX5_has 27 = .ok (.getfield 66, 3) := by decide +kernel
theorem dX5_has_30 : decode cX5_has 30 = .ok (.invokevirtual 92, 3) := by decide +kernel
theorem dX5_has_33 : decode cX5_has 33 = .ok (.aload_n 0, 1) := by decide +kernel
theorem dX5_has_34 : decode cX5_has 34 = .ok (.getfield 34, 3) := by decide +kernel
theorem dX5_has_37 : decode cX5_has 37 = .ok (.iload_n 1, 1) := by decide +kernel
theorem dX5_has_38 : decode cX5_has 38 = .ok (.iload_n 2, 1) := by decide +kernel
theorem dX5_has_39 : decode cX5_has 39 = .ok (.invokestatic 82, 3) := by decide +kernel
theorem dX5_has_42 : decode cX5_has 42 = .ok (.iload_n 3, 1) := by decide +kernel
theorem dX5_has_43 : decode cX5_has 43 = .ok (.iadd, 1) := by decide +kernel
theorem dX5_has_44 : decode cX5_has 44 = .ok (.iaload, 1) := by decide +kernel
theorem dX5_has_45 : decode cX5_has 45 = .ok (.iconst 4, 1) := by decide +kernel
theorem dX5_has_46 : decode cX5_has 46 = .ok (.iload 4, 2) := by decide +kernel
theorem dX5_has_48 : decode cX5_has 48 = .ok (.bipush 10, 2) := by decide +kernel
theorem dX5_has_50 : decode cX5_has 50 = .ok (.idiv, 1) := by decide +kernel
theorem dX5_has_51 : decode cX5_has 51 = .ok (.imul, 1) := by decide +kernel
theorem dX5_has_52 : decode cX5_has 52 = .ok (.iload 4, 2) := by decide +kernel
theorem dX5_has_54 : decode cX5_has 54 = .ok (.bipush 10, 2) := by decide +kernel
theorem dX5_has_56 : decode cX5_has 56 = .ok (.irem, 1) := by decide +kernel
theorem dX5_has_57 : decode cX5_has 57 = .ok (.iadd, 1) := by decide +kernel
theorem dX5_has_58 : decode cX5_has 58 = .ok (.ishr, 1) := by decide +kernel
theorem dX5_has_59 : decode cX5_has 59 = .ok (.iconst 1, 1) := by decide +kernel
theorem dX5_has_60 : decode cX5_has 60 = .ok (.iand, 1) := by decide +kernel
theorem dX5_has_61 : decode cX5_has 61 = .ok (.iconst 1, 1) := by decide +kernel
theorem dX5_has_62 : decode cX5_has 62 = .ok (.if_icmp .ne 7, 3) := by decide +kernel
theorem dX5_has_65 : decode cX5_has 65 = .ok (.iconst 1, 1) := by decide +kernel
theorem dX5_has_66 : decode cX5_has 66 = .ok (.goto 4, 3) := by decide +kernel
theorem dX5_has_69 : decode cX5_has 69 = .ok (.iconst 0, 1) := by decide +kernel
theorem dX5_has_70 : decode cX5_has 70 = .ok (.ireturn, 1) := by decide +kernel
set_option maxRecDepth 20000 in
theorem ggX5_level_X5_takes : GoodIn wsX5_level wsX5_takes := goodIn_r _ [9, 10, 3, 11, 12, 37, 38, 39, 40, 41, 42, 43, 44, 45, 46, 47, 48, 49, 50, 51] (by decide +kernel) (by decide +kernel)
set_option maxRecDepth 20000 in
theorem gX5_level_X5_takes : GoodIn wsX5_level (wsV RX5 100 RX5 yX5_takes wsX5_takes) := goodIn_app (goodIn_of _ (by decide +kernel)) ggX5_level_X5_takes
set_option maxRecDepth 20000 in
theorem ggX5_level_X5_parses : GoodIn wsX5_level wsX5_parses := goodIn_r _ [16, 3, 4, 17, 11, 18, 19, 20, 21, 22, 23, 8, 24, 25, 26, 27, 28, 29, 30, 31, 32, 33, 34, 35, 36, 37, 38, 39, 40, 41, 42, 43, 44, 45, 46, 47, 48, 49, 50, 51] (by decide +kernel) (by decide +kernel)
set_option maxRecDepth 20000 in
theorem gX5_level_X5_parses : GoodIn wsX5_level (wsV RX5 92 RX5 yX5_parses wsX5_parses) := goodIn_app (goodIn_of _ (by decide +kernel)) ggX5_level_X5_parses
set_option maxRecDepth 20000 in
theorem ggX5_level_X5_span : GoodIn wsX5_level wsX5_span := goodIn_r _ [24] (by decide +kernel) (by decide +kernel)
set_option maxRecDepth 20000 in
theorem gX5_level_X5_span : GoodIn wsX5_level (va_wsS RX5 82 yX5_span wsX5_span) := goodIn_app (goodIn_of _ (by decide +kernel)) ggX5_level_X5_span
theorem dX5_level_0 : decode cX5_level 0 = .ok (.aload_n 0, 1) := by decide +kernel
theorem dX5_level_1 : decode cX5_level 1 = .ok (.iconst 0, 1) := by decide +kernel
theorem dX5_level_2 : decode cX5_level 2 = .ok (.putfield 41, 3) := by decide +kernel
theorem dX5_level_5 : decode cX5_level 5 = .ok (.aload_n 0, 1) := by decide +kernel
theorem dX5_level_6 : decode cX5_level 6 = .ok (.invokevirtual 100, 3) := by decide +kernel
theorem dX5_level_9 : decode cX5_level 9 = .ok (.iconst (-1), 1) := by decide +kernel
theorem dX5_level_10 : decode cX5_level 10 = .ok (.istore_n 1, 1) := by decide +kernel
theorem dX5_level_11 : decode cX5_level 11 = .ok (.aload_n 0, 1) := by decide +kernel
theorem dX5_level_12 : decode cX5_level 12 = .ok (.getfield 66, 3) := by decide +kernel
theorem dX5_level_15 : decode cX5_level 15 = .ok (.istore_n 2, 1) := by decide +kernel
theorem dX5_level_16 : decode cX5_level 16 = .ok (.iload_n 2, 1) := by decide +kernel
theorem dX5_level_17 : decode cX5_level 17 = .ok (.ifCond .lt 43, 3) := by decide +kernel
theorem dX5_level_20 : decode cX5_level 20 = .ok (.aload_n 0, 1) := by decide +kernel
theorem dX5_level_21 : decode cX5_level 21 = .ok (.iload_n 2, 1) := by decide +kernel
theorem dX5_level_22 : decode cX5_level 22 = .ok (.invokevirtual 92, 3) := by decide +kernel
theorem dX5_level_25 : decode cX5_level 25 = .ok (.aload_n 0, 1) := by decide +kernel
theorem dX5_level_26 : decode cX5_level 26 = .ok (.getfield 75, 3) := by decide +kernel
theorem dX5_level_29 : decode cX5_level 29 = .ok (.ifCond .le 23, 3) := by decide +kernel
theorem dX5_level_32 : decode cX5_level 32 = .ok (.aload_n 0, 1) := by decide +kernel
theorem dX5_level_33 : decode cX5_level 33 = .ok (.getfield 34, 3) := by decide +kernel
theorem dX5_level_36 : decode cX5_level 36 = .ok (.iconst 0, 1) := by decide +kernel
theorem dX5_level_37 : decode cX5_level 37 = .ok (.aload_n 0, 1) := by decide +kernel
theorem dX5_level_38 : decode cX5_level 38 = .ok (.getfield 75, 3) := by decide +kernel
theorem dX5_level_41 : decode cX5_level 41 = .ok (.invokestatic 82, 3) := by decide +kernel
theorem dX5_level_44 : decode cX5_level 44 = .ok (.iaload, 1) := by decide +kernel
theorem dX5_level_45 : decode cX5_level 45 = .ok (.ifCond .eq 7, 3) := by decide +kernel
theorem dX5_level_48 : decode cX5_level 48 = .ok (.iload_n 2, 1) := by decide +kernel
theorem dX5_level_49 : decode cX5_level 49 = .ok (.goto 4, 3) := by decide +kernel
theorem dX5_level_52 : decode cX5_level 52 = .ok (.iload_n 1, 1) := by decide +kernel
theorem dX5_level_53 : decode cX5_level 53 = .ok (.istore_n 1, 1) := by decide +kernel
theorem dX5_level_54 : decode cX5_level 54 = .ok (.iinc 2 (-1), 3) := by decide +kernel
theorem dX5_level_57 : decode cX5_level 57 = .ok (.goto (-41), 3) := by decide +kernel
theorem dX5_level_60 : decode cX5_level 60 = .ok (.iload_n 1, 1) := by decide +kernel
theorem dX5_level_61 : decode cX5_level 61 = .ok (.ireturn, 1) := by decide +kernel
theorem dX5_rows_0 : decode cX5_rows 0 = .ok (.iconst 1, 1) := by decide +kernel
theorem dX5_rows_1 : decode cX5_rows 1 = .ok (.istore_n 2, 1) := by decide +kernel
theorem dX5_rows_2 : decode cX5_rows 2 = .ok (.iconst 0, 1) := by decide +kernel
theorem dX5_rows_3 : decode cX5_rows 3 = .ok (.istore_n 3, 1) := by decide +kernel
theorem dX5_rows_4 : decode cX5_rows 4 = .ok (.iload_n 3, 1) := by decide +kernel
theorem dX5_rows_5 : decode cX5_rows 5 = .ok (.iload_n 1, 1) := by decide +kernel
theorem dX5_rows_6 : decode cX5_rows 6 = .ok (.if_icmp .ge 16, 3) := by decide +kernel
theorem dX5_rows_9 : decode cX5_rows 9 = .ok (.iload_n 2, 1) := by decide +kernel
theorem dX5_rows_10 : decode cX5_rows 10 = .ok (.aload_n 0, 1) := by decide +kernel
theorem dX5_rows_11 : decode cX5_rows 11 = .ok (.getfield 45, 3) := by decide +kernel
theorem dX5_rows_14 : decode cX5_rows 14 = .ok (.imul, 1) := by decide +kernel
theorem dX5_rows_15 : decode cX5_rows 15 = .ok (.istore_n 2, 1) := by decide +kernel
theorem dX5_rows_16 : decode cX5_rows 16 = .ok (.iinc 3 1, 3) := by decide +kernel
theorem dX5_rows_19 : decode cX5_rows 19 = .ok (.goto (-15), 3) := by decide +kernel
theorem dX5_rows_22 : decode cX5_rows 22 = .ok (.iload_n 2, 1) := by decide +kernel
theorem dX5_rows_23 : decode cX5_rows 23 = .ok (.ireturn, 1) := by decide +kernel
theorem dX5_lays_0 : decode cX5_lays 0 = .ok (.iload_n 1, 1) := by decide +kernel
theorem dX5_lays_1 : decode cX5_lays 1 = .ok (.istore_n 3, 1) := by decide +kernel
theorem dX5_lays_2 : decode cX5_lays 2 = .ok (.aload_n 0, 1) := by decide +kernel
theorem dX5_lays_3 : decode cX5_lays 3 = .ok (.iload_n 2, 1) := by decide +kernel
theorem dX5_lays_4 : decode cX5_lays 4 = .ok (.putfield 75, 3) := by decide +kernel
theorem dX5_lays_7 : decode cX5_lays 7 = .ok (.iload_n 2, 1) := by decide +kernel
theorem dX5_lays_8 : decode cX5_lays 8 = .ok (.iconst 1, 1) := by decide +kernel
theorem dX5_lays_9 : decode cX5_lays 9 = .ok (.isub, 1) := by decide +kernel
theorem dX5_lays_10 : decode cX5_lays 10 = .ok (.istore 4, 2) := by decide +kernel
theorem dX5_lays_12 : decode cX5_lays 12 = .ok (.iload 4, 2) := by decide +kernel
theorem dX5_lays_14 : decode cX5_lays 14 = .ok (.ifCond .lt 29, 3) := by decide +kernel
theorem dX5_lays_17 : decode cX5_lays 17 = .ok (.aload_n 0, 1) := by decide +kernel
theorem dX5_lays_18 : decode cX5_lays 18 = .ok (.getfield 31, 3) := by decide +kernel
theorem dX5_lays_21 : decode cX5_lays 21 = .ok (.iload 4, 2) := by decide +kernel
theorem dX5_lays_23 : decode cX5_lays 23 = .ok (.iload_n 3, 1) := by decide +kernel
theorem dX5_lays_24 : decode cX5_lays 24 = .ok (.aload_n 0, 1) := by decide +kernel
theorem dX5_lays_25 : decode cX5_lays 25 = .ok (.getfield 45, 3) := by decide +kernel
theorem dX5_lays_28 : decode cX5_lays 28 = .ok (.irem, 1) := by decide +kernel
theorem dX5_lays_29 : decode cX5_lays 29 = .ok (.iastore, 1) := by decide +kernel
theorem dX5_lays_30 : decode cX5_lays 30 = .ok (.iload_n 3, 1) := by decide +kernel
theorem dX5_lays_31 : decode cX5_lays 31 = .ok (.aload_n 0, 1) := by decide +kernel
theorem dX5_lays_32 : decode cX5_lays 32 = .ok (.getfield 45, 3) := by decide +kernel
theorem dX5_lays_35 : decode cX5_lays 35 = .ok (.idiv, 1) := by decide +kernel
theorem dX5_lays_36 : decode cX5_lays 36 = .ok (.istore_n 3, 1) := by decide +kernel
theorem dX5_lays_37 : decode cX5_lays 37 = .ok (.iinc 4 (-1), 3) := by decide +kernel
theorem dX5_lays_40 : decode cX5_lays 40 = .ok (.goto (-28), 3) := by decide +kernel
theorem dX5_lays_43 : decode cX5_lays 43 = .ok (.return_, 1) := by decide +kernel
set_option maxRecDepth 20000 in
theorem ggX5_sentencesOf_X5_rows : GoodIn wsX5_sentencesOf wsX5_rows := goodIn_r _ [5, 6, 43, 44, 45, 46, 47, 48, 49, 50, 51, 52, 53, 54, 55, 56, 57] (by decide +kernel) (by decide +kernel)
set_option maxRecDepth 20000 in
theorem gX5_sentencesOf_X5_rows : GoodIn wsX5_sentencesOf (wsV RX5 119 RX5 yX5_rows wsX5_rows) := goodIn_app (goodIn_of _ (by decide +kernel)) ggX5_sentencesOf_X5_rows
set_option maxRecDepth 20000 in
theorem ggX5_sentencesOf_X5_lays : GoodIn wsX5_sentencesOf wsX5_lays := goodIn_r _ [10, 11, 12, 6, 43, 44, 45, 46, 47, 48, 49, 50, 51, 52, 53, 54, 55, 56, 57] (by decide +kernel) (by decide +kernel)
set_option maxRecDepth 20000 in
theorem gX5_sentencesOf_X5_lays : GoodIn wsX5_sentencesOf (wsV RX5 123 RX5 yX5_lays wsX5_lays) := goodIn_app (goodIn_of _ (by decide +kernel)) ggX5_sentencesOf_X5_lays
set_option maxRecDepth 20000 in
theorem ggX5_sentencesOf_X5_isSentence : GoodIn wsX5_sentencesOf wsX5_isSentence := goodIn_r _ [16, 17, 11, 18, 19, 20, 21, 4, 22, 23, 12, 24, 25, 26, 27, 28, 29, 30, 31, 32, 33, 34, 35, 36, 37, 38, 39, 40, 41, 42, 43, 44, 45, 46, 47, 48, 49, 50, 51, 52, 53, 54, 55, 56, 57] (by decide +kernel) (by decide +kernel)
set_option maxRecDepth 20000 in
theorem gX5_sentencesOf_X5_isSentence : GoodIn wsX5_sentencesOf (wsV RX5 127 RX5 yX5_isSentence wsX5_isSentence) := goodIn_app (goodIn_of _ (by decide +kernel)) ggX5_sentencesOf_X5_isSentence
theorem dX5_sentencesOf_0 : decode cX5_sentencesOf 0 = .ok (.iconst 0, 1) := by decide +kernel
theorem dX5_sentencesOf_1 : decode cX5_sentencesOf 1 = .ok (.istore_n 2, 1) := by decide +kernel
theorem dX5_sentencesOf_2 : decode cX5_sentencesOf 2 = .ok (.iconst 0, 1) := by decide +kernel
theorem dX5_sentencesOf_3 : decode cX5_sentencesOf 3 = .ok (.istore_n 3, 1) := by decide +kernel
theorem dX5_sentencesOf_4 : decode cX5_sentencesOf 4 = .ok (.iload_n 3, 1) := by decide +kernel
theorem dX5_sentencesOf_5 : decode cX5_sentencesOf 5 = .ok (.aload_n 0, 1) := by decide +kernel
theorem dX5_sentencesOf_6 : decode cX5_sentencesOf 6 = .ok (.iload_n 1, 1) := by decide +kernel
theorem dX5_sentencesOf_7 : decode cX5_sentencesOf 7 = .ok (.invokevirtual 119, 3) := by decide +kernel
theorem dX5_sentencesOf_10 : decode cX5_sentencesOf 10 = .ok (.if_icmp .ge 30, 3) := by decide +kernel
theorem dX5_sentencesOf_13 : decode cX5_sentencesOf 13 = .ok (.aload_n 0, 1) := by decide +kernel
theorem dX5_sentencesOf_14 : decode cX5_sentencesOf 14 = .ok (.iload_n 3, 1) := by decide +kernel
theorem dX5_sentencesOf_15 : decode cX5_sentencesOf 15 = .ok (.iload_n 1, 1) := by decide +kernel
theorem dX5_sentencesOf_16 : decode cX5_sentencesOf 16 = .ok (.invokevirtual 123, 3) := by decide +kernel
theorem dX5_sentencesOf_19 : decode cX5_sentencesOf 19 = .ok (.iload_n 2, 1) := by decide +kernel
theorem dX5_sentencesOf_20 : decode cX5_sentencesOf 20 = .ok (.aload_n 0, 1) := by decide +kernel
theorem dX5_sentencesOf_21 : decode cX5_sentencesOf 21 = .ok (.invokevirtual 127, 3) := by decide +kernel
theorem dX5_sentencesOf_24 : decode cX5_sentencesOf 24 = .ok (.ifCond .eq 7, 3) := by decide +kernel
theorem dX5_sentencesOf_27 : decode cX5_sentencesOf 27 = .ok (.iconst 1, 1) := by decide +kernel
theorem dX5_sentencesOf_28 : decode cX5_sentencesOf 28 = .ok (.goto 4, 3) := by decide +kernel
theorem dX5_sentencesOf_31 : decode cX5_sentencesOf 31 = .ok (.iconst 0, 1) := by decide +kernel
theorem dX5_sentencesOf_32 : decode cX5_sentencesOf 32 = .ok (.iadd, 1) := by decide +kernel
theorem dX5_sentencesOf_33 : decode cX5_sentencesOf 33 = .ok (.istore_n 2, 1) := by decide +kernel
theorem dX5_sentencesOf_34 : decode cX5_sentencesOf 34 = .ok (.iinc 3 1, 3) := by decide +kernel
theorem dX5_sentencesOf_37 : decode cX5_sentencesOf 37 = .ok (.goto (-33), 3) := by decide +kernel
theorem dX5_sentencesOf_40 : decode cX5_sentencesOf 40 = .ok (.iload_n 2, 1) := by decide +kernel
theorem dX5_sentencesOf_41 : decode cX5_sentencesOf 41 = .ok (.ireturn, 1) := by decide +kernel
theorem dX5_isShort_0 : decode cX5_isShort 0 = .ok (.iload_n 0, 1) := by decide +kernel
theorem dX5_isShort_1 : decode cX5_isShort 1 = .ok (.iconst 1, 1) := by decide +kernel
theorem dX5_isShort_2 : decode cX5_isShort 2 = .ok (.if_icmp .lt 12, 3) := by decide +kernel
theorem dX5_isShort_5 : decode cX5_isShort 5 = .ok (.iload_n 0, 1) := by decide +kernel
theorem dX5_isShort_6 : decode cX5_isShort 6 = .ok (.iconst 4, 1) := by decide +kernel
theorem dX5_isShort_7 : decode cX5_isShort 7 = .ok (.if_icmp .gt 7, 3) := by decide +kernel
theorem dX5_isShort_10 : decode cX5_isShort 10 = .ok (.iconst 1, 1) := by decide +kernel
theorem dX5_isShort_11 : decode cX5_isShort 11 = .ok (.goto 4, 3) := by decide +kernel
theorem dX5_isShort_14 : decode cX5_isShort 14 = .ok (.iconst 0, 1) := by decide +kernel
theorem dX5_isShort_15 : decode cX5_isShort 15 = .ok (.ireturn, 1) := by decide +kernel
set_option maxRecDepth 20000 in
theorem ggX5_sentences_X5_isShort : GoodIn wsX5_sentences wsX5_isShort := goodIn_r _ [4] (by decide +kernel) (by decide +kernel)
set_option maxRecDepth 20000 in
theorem gX5_sentences_X5_isShort : GoodIn wsX5_sentences (va_wsS RX5 131 yX5_isShort wsX5_isShort) := goodIn_app (goodIn_of _ (by decide +kernel)) ggX5_sentences_X5_isShort
set_option maxRecDepth 20000 in
theorem ggX5_sentences_X5_goes : GoodIn wsX5_sentences wsX5_goes := goodIn_r _ [8, 9, 55, 56, 57, 58, 59, 60, 61, 62, 63, 64, 65, 66, 67, 68, 69] (by decide +kernel) (by decide +kernel)
set_option maxRecDepth 20000 in
theorem gX5_sentences_X5_goes : GoodIn wsX5_sentences (wsV RX5 55 RX5 yX5_goes wsX5_goes) := goodIn_app (goodIn_of _ (by decide +kernel)) ggX5_sentences_X5_goes
set_option maxRecDepth 20000 in
theorem ggX5_sentences_X5_sentencesOf : GoodIn wsX5_sentences wsX5_sentencesOf := goodIn_r _ [13, 14, 15, 16, 3, 17, 18, 19, 20, 21, 22, 23, 24, 25, 26, 27, 28, 29, 30, 31, 32, 33, 34, 35, 36, 37, 38, 39, 40, 41, 42, 43, 44, 45, 46, 47, 48, 49, 50, 51, 52, 53, 54, 55, 56, 57, 58, 59, 60, 61, 62, 63, 64, 65, 66, 67, 68, 69] (by decide +kernel) (by decide +kernel)
set_option maxRecDepth 20000 in
theorem gX5_sentences_X5_sentencesOf : GoodIn wsX5_sentences (wsV RX5 134 RX5 yX5_sentencesOf wsX5_sentencesOf) := goodIn_app (goodIn_of _ (by decide +kernel)) ggX5_sentences_X5_sentencesOf
theorem dX5_sentences_0 : decode cX5_sentences 0 = .ok (.aload_n 0, 1) := by decide +kernel
theorem dX5_sentences_1 : decode cX5_sentences 1 = .ok (.iload_n 1, 1) := by decide +kernel
theorem dX5_sentences_2 : decode cX5_sentences 2 = .ok (.invokestatic 131, 3) := by decide +kernel
theorem dX5_sentences_5 : decode cX5_sentences 5 = .ok (.iconst 1, 1) := by decide +kernel
theorem dX5_sentences_6 : decode cX5_sentences 6 = .ok (.invokevirtual 55, 3) := by decide +kernel
theorem dX5_sentences_9 : decode cX5_sentences 9 = .ok (.ifCond .eq 11, 3) := by decide +kernel
theorem dX5_sentences_12 : decode cX5_sentences 12 = .ok (.aload_n 0, 1) := by decide +kernel
theorem dX5_sentences_13 : decode cX5_sentences 13 = .ok (.iload_n 1, 1) := by decide +kernel
theorem dX5_sentences_14 : decode cX5_sentences 14 = .ok (.invokevirtual 134, 3) := by decide +kernel
theorem dX5_sentences_17 : decode cX5_sentences 17 = .ok (.goto 4, 3) := by decide +kernel
theorem dX5_sentences_20 : decode cX5_sentences 20 = .ok (.iconst 0, 1) := by decide +kernel
theorem dX5_sentences_21 : decode cX5_sentences 21 = .ok (.ireturn, 1) := by decide +kernel
set_option maxRecDepth 20000 in
theorem ggX5_sentence_X5_isShort : GoodIn wsX5_sentence wsX5_isShort := goodIn_r _ [5] (by decide +kernel) (by decide +kernel)
set_option maxRecDepth 20000 in
theorem gX5_sentence_X5_isShort : GoodIn wsX5_sentence (va_wsS RX5 131 yX5_isShort wsX5_isShort) := goodIn_app (goodIn_of _ (by decide +kernel)) ggX5_sentence_X5_isShort
set_option maxRecDepth 20000 in
theorem ggX5_sentence_X5_goes : GoodIn wsX5_sentence wsX5_goes := goodIn_r _ [9, 10, 51, 52, 53, 54, 55, 56, 57, 58, 59, 60, 61, 62, 63, 64, 65] (by decide +kernel) (by decide +kernel)
set_option maxRecDepth 20000 in
theorem gX5_sentence_X5_goes : GoodIn wsX5_sentence (wsV RX5 55 RX5 yX5_goes wsX5_goes) := goodIn_app (goodIn_of _ (by decide +kernel)) ggX5_sentence_X5_goes
set_option maxRecDepth 20000 in
theorem ggX5_sentence_X5_rows : GoodIn wsX5_sentence wsX5_rows := goodIn_r _ [14, 15, 51, 52, 53, 54, 55, 56, 57, 58, 59, 60, 61, 62, 63, 64, 65] (by decide +kernel) (by decide +kernel)
set_option maxRecDepth 20000 in
theorem gX5_sentence_X5_rows : GoodIn wsX5_sentence (wsV RX5 119 RX5 yX5_rows wsX5_rows) := goodIn_app (goodIn_of _ (by decide +kernel)) ggX5_sentence_X5_rows
set_option maxRecDepth 20000 in
theorem ggX5_sentence_X5_lays : GoodIn wsX5_sentence wsX5_lays := goodIn_r _ [19, 20, 1, 15, 51, 52, 53, 54, 55, 56, 57, 58, 59, 60, 61, 62, 63, 64, 65] (by decide +kernel) (by decide +kernel)
set_option maxRecDepth 20000 in
theorem gX5_sentence_X5_lays : GoodIn wsX5_sentence (wsV RX5 123 RX5 yX5_lays wsX5_lays) := goodIn_app (goodIn_of _ (by decide +kernel)) ggX5_sentence_X5_lays
set_option maxRecDepth 20000 in
theorem ggX5_sentence_X5_isSentence : GoodIn wsX5_sentence wsX5_isSentence := goodIn_r _ [24, 25, 20, 26, 27, 28, 29, 4, 30, 31, 1, 32, 33, 34, 35, 36, 37, 38, 39, 40, 41, 42, 43, 44, 45, 46, 47, 48, 49, 50, 51, 52, 53, 54, 55, 56, 57, 58, 59, 60, 61, 62, 63, 64, 65] (by decide +kernel) (by decide +kernel)
set_option maxRecDepth 20000 in
theorem gX5_sentence_X5_isSentence : GoodIn wsX5_sentence (wsV RX5 127 RX5 yX5_isSentence wsX5_isSentence) := goodIn_app (goodIn_of _ (by decide +kernel)) ggX5_sentence_X5_isSentence
theorem dX5_sentence_0 : decode cX5_sentence 0 = .ok (.aload_n 0, 1) := by decide +kernel
theorem dX5_sentence_1 : decode cX5_sentence 1 = .ok (.iload_n 1, 1) := by decide +kernel
theorem dX5_sentence_2 : decode cX5_sentence 2 = .ok (.invokestatic 131, 3) := by decide +kernel
theorem dX5_sentence_5 : decode cX5_sentence 5 = .ok (.ifCond .eq 11, 3) := by decide +kernel
theorem dX5_sentence_8 : decode cX5_sentence 8 = .ok (.iload_n 2, 1) := by decide +kernel
theorem dX5_sentence_9 : decode cX5_sentence 9 = .ok (.ifCond .lt 7, 3) := by decide +kernel
theorem dX5_sentence_12 : decode cX5_sentence 12 = .ok (.iconst 1, 1) := by decide +kernel
theorem dX5_sentence_13 : decode cX5_sentence 13 = .ok (.goto 4, 3) := by decide +kernel
theorem dX5_sentence_16 : decode cX5_sentence 16 = .ok (.iconst 0, 1) := by decide +kernel
theorem dX5_sentence_17 : decode cX5_sentence 17 = .ok (.iconst 1, 1) := by decide +kernel
theorem dX5_sentence_18 : decode cX5_sentence 18 = .ok (.invokevirtual 55, 3) := by decide +kernel
theorem dX5_sentence_21 : decode cX5_sentence 21 = .ok (.ifCond .ne 5, 3) := by decide +kernel
theorem dX5_sentence_24 : decode cX5_sentence 24 = .ok (.iconst 0, 1) := by decide +kernel
theorem dX5_sentence_25 : decode cX5_sentence 25 = .ok (.ireturn, 1) := by decide +kernel
theorem dX5_sentence_26 : decode cX5_sentence 26 = .ok (.iload_n 2, 1) := by decide +kernel
theorem dX5_sentence_27 : decode cX5_sentence 27 = .ok (.istore_n 3, 1) := by decide +kernel
theorem dX5_sentence_28 : decode cX5_sentence 28 = .ok (.iconst (-1), 1) := by decide +kernel
theorem dX5_sentence_29 : decode cX5_sentence 29 = .ok (.istore 4, 2) := by decide +kernel
theorem dX5_sentence_31 : decode cX5_sentence 31 = .ok (.iconst 0, 1) := by decide +kernel
theorem dX5_sentence_32 : decode cX5_sentence 32 = .ok (.istore 5, 2) := by decide +kernel
theorem dX5_sentence_34 : decode cX5_sentence 34 = .ok (.iload 5, 2) := by decide +kernel
theorem dX5_sentence_36 : decode cX5_sentence 36 = .ok (.aload_n 0, 1) := by decide +kernel
theorem dX5_sentence_37 : decode cX5_sentence 37 = .ok (.iload_n 1, 1) := by decide +kernel
theorem dX5_sentence_38 : decode cX5_sentence 38 = .ok (.invokevirtual 119, 3) := by decide +kernel
theorem dX5_sentence_41 : decode cX5_sentence 41 = .ok (.if_icmp .ge 57, 3) := by decide +kernel
theorem dX5_sentence_44 : decode cX5_sentence 44 = .ok (.iload 4, 2) := by decide +kernel
theorem dX5_sentence_46 : decode cX5_sentence 46 = .ok (.ifCond .ge 52, 3) := by decide +kernel
theorem dX5_sentence_49 : decode cX5_sentence 49 = .ok (.aload_n 0, 1) := by decide +kernel
theorem dX5_sentence_50 : decode cX5_sentence 50 = .ok (.iload 5, 2) := by decide +kernel
theorem dX5_sentence_52 : decode cX5_sentence 52 = .ok (.iload_n 1, 1) := by decide +kernel
theorem dX5_sentence_53 : decode cX5_sentence 53 = .ok (.invokevirtual 123, 3) := by decide +kernel
theorem dX5_sentence_56 : decode cX5_sentence 56 = .ok (.aload_n 0, 1) := by decide +kernel
theorem dX5_sentence_57 : decode cX5_sentence 57 = .ok (.invokevirtual 127, 3) := by decide +kernel
theorem dX5_sentence_60 : decode cX5_sentence 60 = .ok (.istore 6, 2) := by decide +kernel
theorem dX5_sentence_62 : decode cX5_sentence 62 = .ok (.iload 6, 2) := by decide +kernel
theorem dX5_sentence_64 : decode cX5_sentence 64 = .ok (.ifCond .eq 12, 3) := by decide +kernel
theorem dX5_sentence_67 : decode cX5_sentence 67 = .ok (.iload_n 3, 1) := by decide +kernel
theorem dX5_sentence_68 : decode cX5_sentence 68 = .ok (.ifCond .ne 8, 3) := by decide +kernel
theorem dX5_sentence_71 : decode cX5_sentence 71 = .ok (.iload 5, 2) := by decide +kernel
theorem dX5_sentence_73 : decode cX5_sentence 73 = .ok (.goto 4, 3) := by decide +kernel
theorem dX5_sentence_76 : decode cX5_sentence 76 = .ok (.iconst (-1), 1) := by decide +kernel
theorem dX5_sentence_77 : decode cX5_sentence 77 = .ok (.istore 4, 2) := by decide +kernel
theorem dX5_sentence_79 : decode cX5_sentence 79 = .ok (.iload_n 3, 1) := by decide +kernel
theorem dX5_sentence_80 : decode cX5_sentence 80 = .ok (.iload 6, 2) := by decide +kernel
theorem dX5_sentence_82 : decode cX5_sentence 82 = .ok (.ifCond .eq 7, 3) := by decide +kernel
theorem dX5_sentence_85 : decode cX5_sentence 85 = .ok (.iconst 1, 1) := by decide +kernel
theorem dX5_sentence_86 : decode cX5_sentence 86 = .ok (.goto 4, 3) := by decide +kernel
theorem dX5_sentence_89 : decode cX5_sentence 89 = .ok (.iconst 0, 1) := by decide +kernel
theorem dX5_sentence_90 : decode cX5_sentence 90 = .ok (.isub, 1) := by decide +kernel
theorem dX5_sentence_91 : decode cX5_sentence 91 = .ok (.istore_n 3, 1) := by decide +kernel
theorem dX5_sentence_92 : decode cX5_sentence 92 = .ok (.iinc 5 1, 3) := by decide +kernel
theorem dX5_sentence_95 : decode cX5_sentence 95 = .ok (.goto (-61), 3) := by decide +kernel
theorem dX5_sentence_98 : decode cX5_sentence 98 = .ok (.iload 4, 2) := by decide +kernel
theorem dX5_sentence_100 : decode cX5_sentence 100 = .ok (.ifCond .ge 5, 3) := by decide +kernel
theorem dX5_sentence_103 : decode cX5_sentence 103 = .ok (.iconst (-1), 1) := by decide +kernel
theorem dX5_sentence_104 : decode cX5_sentence 104 = .ok (.ireturn, 1) := by decide +kernel
theorem dX5_sentence_105 : decode cX5_sentence 105 = .ok (.bipush 9, 2) := by decide +kernel
theorem dX5_sentence_107 : decode cX5_sentence 107 = .ok (.istore 5, 2) := by decide +kernel
theorem dX5_sentence_109 : decode cX5_sentence 109 = .ok (.iconst 0, 1) := by decide +kernel
theorem dX5_sentence_110 : decode cX5_sentence 110 = .ok (.istore 6, 2) := by decide +kernel
theorem dX5_sentence_112 : decode cX5_sentence 112 = .ok (.iload 6, 2) := by decide +kernel
theorem dX5_sentence_114 : decode cX5_sentence 114 = .ok (.iload_n 1, 1) := by decide +kernel
theorem dX5_sentence_115 : decode cX5_sentence 115 = .ok (.if_icmp .ge 24, 3) := by decide +kernel
theorem dX5_sentence_118 : decode cX5_sentence 118 = .ok (.bipush 10, 2) := by decide +kernel
theorem dX5_sentence_120 : decode cX5_sentence 120 = .ok (.iload 5, 2) := by decide +kernel
theorem dX5_sentence_122 : decode cX5_sentence 122 = .ok (.imul, 1) := by decide +kernel
theorem dX5_sentence_123 : decode cX5_sentence 123 = .ok (.aload_n 0, 1) := by decide +kernel
theorem dX5_sentence_124 : decode cX5_sentence 124 = .ok (.getfield 31, 3) := by decide +kernel
theorem dX5_sentence_127 : decode cX5_sentence 127 = .ok (.iload 6, 2) := by decide +kernel
theorem dX5_sentence_129 : decode cX5_sentence 129 = .ok (.iaload, 1) := by decide +kernel
theorem dX5_sentence_130 : decode cX5_sentence 130 = .ok (.iadd, 1) := by decide +kernel
theorem dX5_sentence_131 : decode cX5_sentence 131 = .ok (.istore 5, 2) := by decide +kernel
theorem dX5_sentence_133 : decode cX5_sentence 133 = .ok (.iinc 6 1, 3) := by decide +kernel
theorem dX5_sentence_136 : decode cX5_sentence 136 = .ok (.goto (-24), 3) := by decide +kernel
theorem dX5_sentence_139 : decode cX5_sentence 139 = .ok (.iload 5, 2) := by decide +kernel
theorem dX5_sentence_141 : decode cX5_sentence 141 = .ok (.ireturn, 1) := by decide +kernel
set_option maxRecDepth 20000 in
theorem ggX5_share_X5_isShort : GoodIn wsX5_share wsX5_isShort := goodIn_r _ [5] (by decide +kernel) (by decide +kernel)
set_option maxRecDepth 20000 in
theorem gX5_share_X5_isShort : GoodIn wsX5_share (va_wsS RX5 131 yX5_isShort wsX5_isShort) := goodIn_app (goodIn_of _ (by decide +kernel)) ggX5_share_X5_isShort
set_option maxRecDepth 20000 in
theorem ggX5_share_X5_goes : GoodIn wsX5_share wsX5_goes := goodIn_r _ [9, 10, 55, 56, 57, 58, 59, 60, 61, 62, 63, 64, 65, 66, 67, 68, 69] (by decide +kernel) (by decide +kernel)
set_option maxRecDepth 20000 in
theorem gX5_share_X5_goes : GoodIn wsX5_share (wsV RX5 55 RX5 yX5_goes wsX5_goes) := goodIn_app (goodIn_of _ (by decide +kernel)) ggX5_share_X5_goes
set_option maxRecDepth 20000 in
theorem ggX5_share_X5_sentencesOf : GoodIn wsX5_share wsX5_sentencesOf := goodIn_r _ [14, 15, 16, 17, 4, 18, 1, 19, 20, 21, 22, 23, 24, 25, 26, 27, 28, 29, 30, 31, 32, 33, 34, 35, 36, 37, 38, 39, 40, 41, 42, 43, 44, 45, 46, 47, 48, 49, 50, 51, 52, 53, 54, 55, 56, 57, 58, 59, 60, 61, 62, 63, 64, 65, 66, 67, 68, 69] (by decide +kernel) (by decide +kernel)
set_option maxRecDepth 20000 in
theorem gX5_share_X5_sentencesOf : GoodIn wsX5_share (wsV RX5 134 RX5 yX5_sentencesOf wsX5_sentencesOf) := goodIn_app (goodIn_of _ (by decide +kernel)) ggX5_share_X5_sentencesOf
set_option maxRecDepth 20000 in
theorem ggX5_share_X5_rows : GoodIn wsX5_share wsX5_rows := goodIn_r _ [18, 1, 55, 56, 57, 58, 59, 60, 61, 62, 63, 64, 65, 66, 67, 68, 69] (by decide +kernel) (by decide +kernel)
set_option maxRecDepth 20000 in
theorem gX5_share_X5_rows : GoodIn wsX5_share (wsV RX5 119 RX5 yX5_rows wsX5_rows) := goodIn_app (goodIn_of _ (by decide +kernel)) ggX5_share_X5_rows
theorem dX5_share_0 : decode cX5_share 0 = .ok (.aload_n 0, 1) := by decide +kernel
theorem dX5_share_1 : decode cX5_share 1 = .ok (.iload_n 1, 1) := by decide +kernel
theorem dX5_share_2 : decode cX5_share 2 = .ok (.invokestatic 131, 3) := by decide +kernel
theorem dX5_share_5 : decode cX5_share 5 = .ok (.iconst 1, 1) := by decide +kernel
theorem dX5_share_6 : decode cX5_share 6 = .ok (.invokevirtual 55, 3) := by decide +kernel
theorem dX5_share_9 : decode cX5_share 9 = .ok (.ifCond .ne 5, 3) := by decide +kernel
theorem dX5_share_12 : decode cX5_share 12 = .ok (.fconst 0, 1) := by decide +kernel
theorem dX5_share_13 : decode cX5_share 13 = .ok (.freturn, 1) := by decide +kernel
theorem dX5_share_14 : decode cX5_share 14 = .ok (.aload_n 0, 1) := by decide +kernel
theorem dX5_share_15 : decode cX5_share 15 = .ok (.getfield 45, 3) := by decide +kernel
theorem dX5_share_18 : decode cX5_share 18 = .ok (.ifCond .ne 7, 3) := by decide +kernel
theorem dX5_share_21 : decode cX5_share 21 = .ok (.fconst 0, 1) := by decide +kernel
theorem dX5_share_22 : decode cX5_share 22 = .ok (.goto 16, 3) := by decide +kernel
theorem dX5_share_25 : decode cX5_share 25 = .ok (.aload_n 0, 1) := by decide +kernel
theorem dX5_share_26 : decode cX5_share 26 = .ok (.iload_n 1, 1) := by decide +kernel
theorem dX5_share_27 : decode cX5_share 27 = .ok (.invokevirtual 134, 3) := by decide +kernel
theorem dX5_share_30 : decode cX5_share 30 = .ok (.i2f, 1) := by decide +kernel
theorem dX5_share_31 : decode cX5_share 31 = .ok (.aload_n 0, 1) := by decide +kernel
theorem dX5_share_32 : decode cX5_share 32 = .ok (.iload_n 1, 1) := by decide +kernel
theorem dX5_share_33 : decode cX5_share 33 = .ok (.invokevirtual 119, 3) := by decide +kernel
theorem dX5_share_36 : decode cX5_share 36 = .ok (.i2f, 1) := by decide +kernel
theorem dX5_share_37 : decode cX5_share 37 = .ok (.fdiv, 1) := by decide +kernel
theorem dX5_share_38 : decode cX5_share 38 = .ok (.freturn, 1) := by decide +kernel
set_option maxRecDepth 20000 in
theorem ggX5_spoil_X5_isPlace : GoodIn wsX5_spoil wsX5_isPlace := goodIn_r _ [9, 10, 50, 51, 52, 53, 54, 55, 56, 57, 58, 59, 60, 61, 62, 63, 64] (by decide +kernel) (by decide +kernel)
set_option maxRecDepth 20000 in
theorem gX5_spoil_X5_isPlace : GoodIn wsX5_spoil (wsV RX5 72 RX5 yX5_isPlace wsX5_isPlace) := goodIn_app (goodIn_of _ (by decide +kernel)) ggX5_spoil_X5_isPlace
set_option maxRecDepth 20000 in
theorem ggX5_spoil_X5_goes : GoodIn wsX5_spoil wsX5_goes := goodIn_r _ [14, 15, 50, 51, 52, 53, 54, 55, 56, 57, 58, 59, 60, 61, 62, 63, 64] (by decide +kernel) (by decide +kernel)
set_option maxRecDepth 20000 in
theorem gX5_spoil_X5_goes : GoodIn wsX5_spoil (wsV RX5 55 RX5 yX5_goes wsX5_goes) := goodIn_app (goodIn_of _ (by decide +kernel)) ggX5_spoil_X5_goes
set_option maxRecDepth 20000 in
theorem ggX5_spoil_X5_takes : GoodIn wsX5_spoil wsX5_takes := goodIn_r _ [19, 10, 20, 4, 2, 50, 51, 52, 53, 54, 55, 56, 57, 58, 59, 60, 61, 62, 63, 64] (by decide +kernel) (by decide +kernel)
set_option maxRecDepth 20000 in
theorem gX5_spoil_X5_takes : GoodIn wsX5_spoil (wsV RX5 100 RX5 yX5_takes wsX5_takes) := goodIn_app (goodIn_of _ (by decide +kernel)) ggX5_spoil_X5_takes
set_option maxRecDepth 20000 in
theorem ggX5_spoil_X5_isSentence : GoodIn wsX5_spoil wsX5_isSentence := goodIn_r _ [24, 25, 20, 26, 27, 28, 29, 8, 30, 3, 4, 31, 32, 33, 34, 35, 36, 37, 38, 39, 40, 41, 42, 43, 44, 45, 46, 47, 48, 49, 50, 51, 52, 53, 54, 55, 56, 57, 58, 59, 60, 61, 62, 63, 64] (by decide +kernel) (by decide +kernel)
set_option maxRecDepth 20000 in
theorem gX5_spoil_X5_isSentence : GoodIn wsX5_spoil (wsV RX5 127 RX5 yX5_isSentence wsX5_isSentence) := goodIn_app (goodIn_of _ (by decide +kernel)) ggX5_spoil_X5_isSentence
theorem dX5_spoil_0 : decode cX5_spoil 0 = .ok (.aload_n 0, 1) := by decide +kernel
theorem dX5_spoil_1 : decode cX5_spoil 1 = .ok (.aload_n 0, 1) := by decide +kernel
theorem dX5_spoil_2 : decode cX5_spoil 2 = .ok (.iload_n 1, 1) := by decide +kernel
theorem dX5_spoil_3 : decode cX5_spoil 3 = .ok (.invokevirtual 72, 3) := by decide +kernel
theorem dX5_spoil_6 : decode cX5_spoil 6 = .ok (.iconst 1, 1) := by decide +kernel
theorem dX5_spoil_7 : decode cX5_spoil 7 = .ok (.invokevirtual 55, 3) := by decide +kernel
theorem dX5_spoil_10 : decode cX5_spoil 10 = .ok (.ifCond .ne 5, 3) := by decide +kernel
theorem dX5_spoil_13 : decode cX5_spoil 13 = .ok (.iconst 0, 1) := by decide +kernel
theorem dX5_spoil_14 : decode cX5_spoil 14 = .ok (.ireturn, 1) := by decide +kernel
theorem dX5_spoil_15 : decode cX5_spoil 15 = .ok (.aload_n 0, 1) := by decide +kernel
theorem dX5_spoil_16 : decode cX5_spoil 16 = .ok (.invokevirtual 100, 3) := by decide +kernel
theorem dX5_spoil_19 : decode cX5_spoil 19 = .ok (.aload_n 0, 1) := by decide +kernel
theorem dX5_spoil_20 : decode cX5_spoil 20 = .ok (.invokevirtual 127, 3) := by decide +kernel
theorem dX5_spoil_23 : decode cX5_spoil 23 = .ok (.ifCond .ne 5, 3) := by decide +kernel
theorem dX5_spoil_26 : decode cX5_spoil 26 = .ok (.iconst (-1), 1) := by decide +kernel
theorem dX5_spoil_27 : decode cX5_spoil 27 = .ok (.ireturn, 1) := by decide +kernel
theorem dX5_spoil_28 : decode cX5_spoil 28 = .ok (.iconst (-1), 1) := by decide +kernel
theorem dX5_spoil_29 : decode cX5_spoil 29 = .ok (.istore_n 2, 1) := by decide +kernel
theorem dX5_spoil_30 : decode cX5_spoil 30 = .ok (.aload_n 0, 1) := by decide +kernel
theorem dX5_spoil_31 : decode cX5_spoil 31 = .ok (.getfield 45, 3) := by decide +kernel
theorem dX5_spoil_34 : decode cX5_spoil 34 = .ok (.iconst 1, 1) := by decide +kernel
theorem dX5_spoil_35 : decode cX5_spoil 35 = .ok (.isub, 1) := by decide +kernel
theorem dX5_spoil_36 : decode cX5_spoil 36 = .ok (.istore_n 3, 1) := by decide +kernel
theorem dX5_spoil_37 : decode cX5_spoil 37 = .ok (.iload_n 3, 1) := by decide +kernel
theorem dX5_spoil_38 : decode cX5_spoil 38 = .ok (.ifCond .lt 59, 3) := by decide +kernel
theorem dX5_spoil_41 : decode cX5_spoil 41 = .ok (.iload_n 3, 1) := by decide +kernel
theorem dX5_spoil_42 : decode cX5_spoil 42 = .ok (.aload_n 0, 1) := by decide +kernel
theorem dX5_spoil_43 : decode cX5_spoil 43 = .ok (.getfield 28, 3) := by decide +kernel
theorem dX5_spoil_46 : decode cX5_spoil 46 = .ok (.iload_n 1, 1) := by decide +kernel
theorem dX5_spoil_47 : decode cX5_spoil 47 = .ok (.iaload, 1) := by decide +kernel
theorem dX5_spoil_48 : decode cX5_spoil 48 = .ok (.if_icmp .eq 43, 3) := by decide +kernel
theorem dX5_spoil_51 : decode cX5_spoil 51 = .ok (.aload_n 0, 1) := by decide +kernel
theorem dX5_spoil_52 : decode cX5_spoil 52 = .ok (.getfield 7, 3) := by decide +kernel
theorem dX5_spoil_55 : decode cX5_spoil 55 = .ok (.iload_n 3, 1) := by decide +kernel
theorem dX5_spoil_56 : decode cX5_spoil 56 = .ok (.iaload, 1) := by decide +kernel
theorem dX5_spoil_57 : decode cX5_spoil 57 = .ok (.aload_n 0, 1) := by decide +kernel
theorem dX5_spoil_58 : decode cX5_spoil 58 = .ok (.getfield 7, 3) := by decide +kernel
theorem dX5_spoil_61 : decode cX5_spoil 61 = .ok (.aload_n 0, 1) := by decide +kernel
theorem dX5_spoil_62 : decode cX5_spoil 62 = .ok (.getfield 28, 3) := by decide +kernel
theorem dX5_spoil_65 : decode cX5_spoil 65 = .ok (.iload_n 1, 1) := by decide +kernel
theorem dX5_spoil_66 : decode cX5_spoil 66 = .ok (.iaload, 1) := by decide +kernel
theorem dX5_spoil_67 : decode cX5_spoil 67 = .ok (.iaload, 1) := by decide +kernel
theorem dX5_spoil_68 : decode cX5_spoil 68 = .ok (.if_icmp .ne 23, 3) := by decide +kernel
theorem dX5_spoil_71 : decode cX5_spoil 71 = .ok (.aload_n 0, 1) := by decide +kernel
theorem dX5_spoil_72 : decode cX5_spoil 72 = .ok (.getfield 31, 3) := by decide +kernel
theorem dX5_spoil_75 : decode cX5_spoil 75 = .ok (.iload_n 1, 1) := by decide +kernel
theorem dX5_spoil_76 : decode cX5_spoil 76 = .ok (.iload_n 3, 1) := by decide +kernel
theorem dX5_spoil_77 : decode cX5_spoil 77 = .ok (.iastore, 1) := by decide +kernel
theorem dX5_spoil_78 : decode cX5_spoil 78 = .ok (.aload_n 0, 1) := by decide +kernel
theorem dX5_spoil_79 : decode cX5_spoil 79 = .ok (.invokevirtual 127, 3) := by decide +kernel
theorem dX5_spoil_82 : decode cX5_spoil 82 = .ok (.ifCond .eq 7, 3) := by decide +kernel
theorem dX5_spoil_85 : decode cX5_spoil 85 = .ok (.iload_n 2, 1) := by decide +kernel
theorem dX5_spoil_86 : decode cX5_spoil 86 = .ok (.goto 4, 3) := by decide +kernel
theorem dX5_spoil_89 : decode cX5_spoil 89 = .ok (.iload_n 3, 1) := by decide +kernel
theorem dX5_spoil_90 : decode cX5_spoil 90 = .ok (.istore_n 2, 1) := by decide +kernel
theorem dX5_spoil_91 : decode cX5_spoil 91 = .ok (.iinc 3 (-1), 3) := by decide +kernel
theorem dX5_spoil_94 : decode cX5_spoil 94 = .ok (.goto (-57), 3) := by decide +kernel
theorem dX5_spoil_97 : decode cX5_spoil 97 = .ok (.iload_n 2, 1) := by decide +kernel
theorem dX5_spoil_98 : decode cX5_spoil 98 = .ok (.ireturn, 1) := by decide +kernel
set_option maxRecDepth 20000 in
theorem ggX5_changes_X5_takes : GoodIn wsX5_changes wsX5_takes := goodIn_r _ [9, 2, 10, 4, 11, 42, 43, 44, 45, 46, 47, 48, 49, 50, 51, 52, 53, 54, 55, 56] (by decide +kernel) (by decide +kernel)
set_option maxRecDepth 20000 in
theorem gX5_changes_X5_takes : GoodIn wsX5_changes (wsV RX5 100 RX5 yX5_takes wsX5_takes) := goodIn_app (goodIn_of _ (by decide +kernel)) ggX5_changes_X5_takes
set_option maxRecDepth 20000 in
theorem ggX5_changes_X5_isSentence : GoodIn wsX5_changes wsX5_isSentence := goodIn_r _ [15, 16, 10, 17, 18, 19, 20, 8, 21, 22, 4, 23, 24, 25, 26, 27, 28, 29, 30, 31, 32, 33, 34, 35, 36, 37, 38, 39, 40, 41, 42, 43, 44, 45, 46, 47, 48, 49, 50, 51, 52, 53, 54, 55, 56] (by decide +kernel) (by decide +kernel)
set_option maxRecDepth 20000 in
theorem gX5_changes_X5_isSentence : GoodIn wsX5_changes (wsV RX5 127 RX5 yX5_isSentence wsX5_isSentence) := goodIn_app (goodIn_of _ (by decide +kernel)) ggX5_changes_X5_isSentence
theorem dX5_changes_0 : decode cX5_changes 0 = .ok (.aload_n 0, 1) := by decide +kernel
theorem dX5_changes_1 : decode cX5_changes 1 = .ok (.iconst 0, 1) := by decide +kernel
theorem dX5_changes_2 : decode cX5_changes 2 = .ok (.putfield 41, 3) := by decide +kernel
theorem dX5_changes_5 : decode cX5_changes 5 = .ok (.aload_n 0, 1) := by decide +kernel
theorem dX5_changes_6 : decode cX5_changes 6 = .ok (.invokevirtual 100, 3) := by decide +kernel
theorem dX5_changes_9 : decode cX5_changes 9 = .ok (.aload_n 0, 1) := by decide +kernel
theorem dX5_changes_10 : decode cX5_changes 10 = .ok (.invokevirtual 127, 3) := by decide +kernel
theorem dX5_changes_13 : decode cX5_changes 13 = .ok (.ifCond .eq 5, 3) := by decide +kernel
theorem dX5_changes_16 : decode cX5_changes 16 = .ok (.iconst 0, 1) := by decide +kernel
theorem dX5_changes_17 : decode cX5_changes 17 = .ok (.ireturn, 1) := by decide +kernel
theorem dX5_changes_18 : decode cX5_changes 18 = .ok (.iconst (-1), 1) := by decide +kernel
theorem dX5_changes_19 : decode cX5_changes 19 = .ok (.istore_n 1, 1) := by decide +kernel
theorem dX5_changes_20 : decode cX5_changes 20 = .ok (.iconst 0, 1) := by decide +kernel
theorem dX5_changes_21 : decode cX5_changes 21 = .ok (.istore_n 2, 1) := by decide +kernel
theorem dX5_changes_22 : decode cX5_changes 22 = .ok (.iload_n 2, 1) := by decide +kernel
theorem dX5_changes_23 : decode cX5_changes 23 = .ok (.aload_n 0, 1) := by decide +kernel
theorem dX5_changes_24 : decode cX5_changes 24 = .ok (.getfield 69, 3) := by decide +kernel
theorem dX5_changes_27 : decode cX5_changes 27 = .ok (.if_icmp .ge 49, 3) := by decide +kernel
theorem dX5_changes_30 : decode cX5_changes 30 = .ok (.iconst 0, 1) := by decide +kernel
theorem dX5_changes_31 : decode cX5_changes 31 = .ok (.istore_n 3, 1) := by decide +kernel
theorem dX5_changes_32 : decode cX5_changes 32 = .ok (.iload_n 3, 1) := by decide +kernel
theorem dX5_changes_33 : decode cX5_changes 33 = .ok (.aload_n 0, 1) := by decide +kernel
theorem dX5_changes_34 : decode cX5_changes 34 = .ok (.getfield 45, 3) := by decide +kernel
theorem dX5_changes_37 : decode cX5_changes 37 = .ok (.if_icmp .ge 33, 3) := by decide +kernel
theorem dX5_changes_40 : decode cX5_changes 40 = .ok (.aload_n 0, 1) := by decide +kernel
theorem dX5_changes_41 : decode cX5_changes 41 = .ok (.invokevirtual 100, 3) := by decide +kernel
theorem dX5_changes_44 : decode cX5_changes 44 = .ok (.aload_n 0, 1) := by decide +kernel
theorem dX5_changes_45 : decode cX5_changes 45 = .ok (.getfield 31, 3) := by decide +kernel
theorem dX5_changes_48 : decode cX5_changes 48 = .ok (.iload_n 2, 1) := by decide +kernel
theorem dX5_changes_49 : decode cX5_changes 49 = .ok (.iload_n 3, 1) := by decide +kernel
theorem dX5_changes_50 : decode cX5_changes 50 = .ok (.iastore, 1) := by decide +kernel
theorem dX5_changes_51 : decode cX5_changes 51 = .ok (.aload_n 0, 1) := by decide +kernel
theorem dX5_changes_52 : decode cX5_changes 52 = .ok (.invokevirtual 127, 3) := by decide +kernel
theorem dX5_changes_55 : decode cX5_changes 55 = .ok (.ifCond .eq 7, 3) := by decide +kernel
theorem dX5_changes_58 : decode cX5_changes 58 = .ok (.iconst 1, 1) := by decide +kernel
theorem dX5_changes_59 : decode cX5_changes 59 = .ok (.goto 4, 3) := by decide +kernel
theorem dX5_changes_62 : decode cX5_changes 62 = .ok (.iload_n 1, 1) := by decide +kernel
theorem dX5_changes_63 : decode cX5_changes 63 = .ok (.istore_n 1, 1) := by decide +kernel
theorem dX5_changes_64 : decode cX5_changes 64 = .ok (.iinc 3 1, 3) := by decide +kernel
theorem dX5_changes_67 : decode cX5_changes 67 = .ok (.goto (-35), 3) := by decide +kernel
theorem dX5_changes_70 : decode cX5_changes 70 = .ok (.iinc 2 1, 3) := by decide +kernel
theorem dX5_changes_73 : decode cX5_changes 73 = .ok (.goto (-51), 3) := by decide +kernel
theorem dX5_changes_76 : decode cX5_changes 76 = .ok (.iconst 0, 1) := by decide +kernel
theorem dX5_changes_77 : decode cX5_changes 77 = .ok (.istore_n 2, 1) := by decide +kernel
theorem dX5_changes_78 : decode cX5_changes 78 = .ok (.iload_n 2, 1) := by decide +kernel
theorem dX5_changes_79 : decode cX5_changes 79 = .ok (.aload_n 0, 1) := by decide +kernel
theorem dX5_changes_80 : decode cX5_changes 80 = .ok (.getfield 69, 3) := by decide +kernel
theorem dX5_changes_83 : decode cX5_changes 83 = .ok (.if_icmp .ge 105, 3) := by decide +kernel
theorem dX5_changes_86 : decode cX5_changes 86 = .ok (.iload_n 1, 1) := by decide +kernel
theorem dX5_changes_87 : decode cX5_changes 87 = .ok (.ifCond .ge 101, 3) := by decide +kernel
theorem dX5_changes_90 : decode cX5_changes 90 = .ok (.iload_n 2, 1) := by decide +kernel
theorem dX5_changes_91 : decode cX5_changes 91 = .ok (.iconst 1, 1) := by decide +kernel
theorem dX5_changes_92 : decode cX5_changes 92 = .ok (.iadd, 1) := by decide +kernel
theorem dX5_changes_93 : decode cX5_changes 93 = .ok (.istore_n 3, 1) := by decide +kernel
theorem dX5_changes_94 : decode cX5_changes 94 = .ok (.iload_n 3, 1) := by decide +kernel
theorem dX5_changes_95 : decode cX5_changes 95 = .ok (.aload_n 0, 1) := by decide +kernel
theorem dX5_changes_96 : decode cX5_changes 96 = .ok (.getfield 69, 3) := by decide +kernel
theorem dX5_changes_99 : decode cX5_changes 99 = .ok (.if_icmp .ge 83, 3) := by decide +kernel
theorem dX5_changes_102 : decode cX5_changes 102 = .ok (.iload_n 1, 1) := by decide +kernel
theorem dX5_changes_103 : decode cX5_changes 103 = .ok (.ifCond .ge 79, 3) := by decide +kernel
theorem dX5_changes_106 : decode cX5_changes 106 = .ok (.aload_n 0, 1) := by decide +kernel
theorem dX5_changes_107 : decode cX5_changes 107 = .ok (.invokevirtual 100, 3) := by decide +kernel
theorem dX5_changes_110 : decode cX5_changes 110 = .ok (.iconst 0, 1) := by decide +kernel
theorem dX5_changes_111 : decode cX5_changes 111 = .ok (.istore 4, 2) := by decide +kernel
theorem dX5_changes_113 : decode cX5_changes 113 = .ok (.iload 4, 2) := by decide +kernel
theorem dX5_changes_115 : decode cX5_changes 115 = .ok (.aload_n 0, 1) := by decide +kernel
theorem dX5_changes_116 : decode cX5_changes 116 = .ok (.getfield 45, 3) := by decide +kernel
theorem dX5_changes_119 : decode cX5_changes 119 = .ok (.aload_n 0, 1) := by decide +kernel
theorem dX5_changes_120 : decode cX5_changes 120 = .ok (.getfield 45, 3) := by decide +kernel
theorem dX5_changes_123 : decode cX5_changes 123 = .ok (.imul, 1) := by decide +kernel
theorem dX5_changes_124 : decode cX5_changes 124 = .ok (.if_icmp .ge 52, 3) := by decide +kernel
theorem dX5_changes_127 : decode cX5_changes 127 = .ok (.iload_n 1, 1) := by decide +kernel
theorem dX5_changes_128 : decode cX5_changes 128 = .ok (.ifCond .ge 48, 3) := by decide +kernel
theorem dX5_changes_131 : decode cX5_changes 131 = .ok (.aload_n 0, 1) := by decide +kernel
theorem dX5_changes_132 : decode cX5_changes 132 = .ok (.getfield 31, 3) := by decide +kernel
theorem dX5_changes_135 : decode cX5_changes 135 = .ok (.iload_n 2, 1) := by decide +kernel
theorem dX5_changes_136 : decode cX5_changes 136 = .ok (.iload 4, 2) := by decide +kernel
theorem dX5_changes_138 : decode cX5_changes 138 = .ok (.aload_n 0, 1) := by decide +kernel
theorem dX5_changes_139 : decode cX5_changes 139 = .ok (.getfield 45, 3) := by decide +kernel
theorem dX5_changes_142 : decode cX5_changes 142 = .ok (.idiv, 1) := by decide +kernel
theorem dX5_changes_143 : decode cX5_changes 143 = .ok (.iastore, 1) := by decide +kernel
theorem dX5_changes_144 : decode cX5_changes 144 = .ok (.aload_n 0, 1) := by decide +kernel
theorem dX5_changes_145 : decode cX5_changes 145 = .ok (.getfield 31, 3) := by decide +kernel
theorem dX5_changes_148 : decode cX5_changes 148 = .ok (.iload_n 3, 1) := by decide +kernel
theorem dX5_changes_149 : decode cX5_changes 149 = .ok (.iload 4, 2) := by decide +kernel
theorem dX5_changes_151 : decode cX5_changes 151 = .ok (.aload_n 0, 1) := by decide +kernel
theorem dX5_changes_152 : decode cX5_changes 152 = .ok (.getfield 45, 3) := by decide +kernel
theorem dX5_changes_155 : decode cX5_changes 155 = .ok (.irem, 1) := by decide +kernel
theorem dX5_changes_156 : decode cX5_changes 156 = .ok (.iastore, 1) := by decide +kernel
theorem dX5_changes_157 : decode cX5_changes 157 = .ok (.aload_n 0, 1) := by decide +kernel
theorem dX5_changes_158 : decode cX5_changes 158 = .ok (.invokevirtual 127, 3) := by decide +kernel
theorem dX5_changes_161 : decode cX5_changes 161 = .ok (.ifCond .eq 7, 3) := by decide +kernel
theorem dX5_changes_164 : decode cX5_changes 164 = .ok (.iconst 2, 1) := by decide +kernel
theorem dX5_changes_165 : decode cX5_changes 165 = .ok (.goto 4, 3) := by decide +kernel
theorem dX5_changes_168 : decode cX5_changes 168 = .ok (.iconst (-1), 1) := by decide +kernel
theorem dX5_changes_169 : decode cX5_changes 169 = .ok (.istore_n 1, 1) := by decide +kernel
theorem dX5_changes_170 : decode cX5_changes 170 = .ok (.iinc 4 1, 3) := by decide +kernel
theorem dX5_changes_173 : decode cX5_changes 173 = .ok (.goto (-60), 3) := by decide +kernel
theorem dX5_changes_176 : decode cX5_changes 176 = .ok (.iinc 3 1, 3) := by decide +kernel
theorem dX5_changes_179 : decode cX5_changes 179 = .ok (.goto (-85), 3) := by decide +kernel
theorem dX5_changes_182 : decode cX5_changes 182 = .ok (.iinc 2 1, 3) := by decide +kernel
theorem dX5_changes_185 : decode cX5_changes 185 = .ok (.goto (-107), 3) := by decide +kernel
theorem dX5_changes_188 : decode cX5_changes 188 = .ok (.iload_n 1, 1) := by decide +kernel
theorem dX5_changes_189 : decode cX5_changes 189 = .ok (.ireturn, 1) := by decide +kernel
set_option maxRecDepth 20000 in
theorem ggX5_correction_X5_goes : GoodIn wsX5_correction wsX5_goes := goodIn_r _ [9, 10, 46, 47, 48, 49, 50, 51, 52, 53, 54, 55, 56, 57, 58, 59, 60] (by decide +kernel) (by decide +kernel)
set_option maxRecDepth 20000 in
theorem gX5_correction_X5_goes : GoodIn wsX5_correction (wsV RX5 55 RX5 yX5_goes wsX5_goes) := goodIn_app (goodIn_of _ (by decide +kernel)) ggX5_correction_X5_goes
set_option maxRecDepth 20000 in
theorem ggX5_correction_X5_takes : GoodIn wsX5_correction wsX5_takes := goodIn_r _ [14, 1, 15, 3, 4, 46, 47, 48, 49, 50, 51, 52, 53, 54, 55, 56, 57, 58, 59, 60] (by decide +kernel) (by decide +kernel)
set_option maxRecDepth 20000 in
theorem gX5_correction_X5_takes : GoodIn wsX5_correction (wsV RX5 100 RX5 yX5_takes wsX5_takes) := goodIn_app (goodIn_of _ (by decide +kernel)) ggX5_correction_X5_takes
set_option maxRecDepth 20000 in
theorem ggX5_correction_X5_isSentence : GoodIn wsX5_correction wsX5_isSentence := goodIn_r _ [19, 20, 15, 21, 22, 23, 24, 8, 25, 26, 3, 27, 28, 29, 30, 31, 32, 33, 34, 35, 36, 37, 38, 39, 40, 41, 42, 43, 44, 45, 46, 47, 48, 49, 50, 51, 52, 53, 54, 55, 56, 57, 58, 59, 60] (by decide +kernel) (by decide +kernel)
set_option maxRecDepth 20000 in
theorem gX5_correction_X5_isSentence : GoodIn wsX5_correction (wsV RX5 127 RX5 yX5_isSentence wsX5_isSentence) := goodIn_app (goodIn_of _ (by decide +kernel)) ggX5_correction_X5_isSentence
theorem dX5_correction_0 : decode cX5_correction 0 = .ok (.aload_n 0, 1) := by decide +kernel
theorem dX5_correction_1 : decode cX5_correction 1 = .ok (.iload_n 1, 1) := by decide +kernel
theorem dX5_correction_2 : decode cX5_correction 2 = .ok (.ifCond .lt 7, 3) := by decide +kernel
theorem dX5_correction_5 : decode cX5_correction 5 = .ok (.iconst 1, 1) := by decide +kernel
theorem dX5_correction_6 : decode cX5_correction 6 = .ok (.goto 4, 3) := by decide +kernel
theorem dX5_correction_9 : decode cX5_correction 9 = .ok (.iconst 0, 1) := by decide +kernel
theorem dX5_correction_10 : decode cX5_correction 10 = .ok (.iconst 1, 1) := by decide +kernel
theorem dX5_correction_11 : decode cX5_correction 11 = .ok (.invokevirtual 55, 3) := by decide +kernel
theorem dX5_correction_14 : decode cX5_correction 14 = .ok (.ifCond .ne 5, 3) := by decide +kernel
theorem dX5_correction_17 : decode cX5_correction 17 = .ok (.iconst 0, 1) := by decide +kernel
theorem dX5_correction_18 : decode cX5_correction 18 = .ok (.ireturn, 1) := by decide +kernel
theorem dX5_correction_19 : decode cX5_correction 19 = .ok (.iload_n 1, 1) := by decide +kernel
theorem dX5_correction_20 : decode cX5_correction 20 = .ok (.istore_n 2, 1) := by decide +kernel
theorem dX5_correction_21 : decode cX5_correction 21 = .ok (.iconst (-1), 1) := by decide +kernel
theorem dX5_correction_22 : decode cX5_correction 22 = .ok (.istore_n 3, 1) := by decide +kernel
theorem dX5_correction_23 : decode cX5_correction 23 = .ok (.iconst 0, 1) := by decide +kernel
theorem dX5_correction_24 : decode cX5_correction 24 = .ok (.istore 4, 2) := by decide +kernel
theorem dX5_correction_26 : decode cX5_correction 26 = .ok (.iload 4, 2) := by decide +kernel
theorem dX5_correction_28 : decode cX5_correction 28 = .ok (.aload_n 0, 1) := by decide +kernel
theorem dX5_correction_29 : decode cX5_correction 29 = .ok (.getfield 69, 3) := by decide +kernel
theorem dX5_correction_32 : decode cX5_correction 32 = .ok (.if_icmp .ge 105, 3) := by decide +kernel
theorem dX5_correction_35 : decode cX5_correction 35 = .ok (.aload_n 0, 1) := by decide +kernel
theorem dX5_correction_36 : decode cX5_correction 36 = .ok (.invokevirtual 100, 3) := by decide +kernel
theorem dX5_correction_39 : decode cX5_correction 39 = .ok (.iconst 0, 1) := by decide +kernel
theorem dX5_correction_40 : decode cX5_correction 40 = .ok (.istore 5, 2) := by decide +kernel
theorem dX5_correction_42 : decode cX5_correction 42 = .ok (.iload 5, 2) := by decide +kernel
theorem dX5_correction_44 : decode cX5_correction 44 = .ok (.aload_n 0, 1) := by decide +kernel
theorem dX5_correction_45 : decode cX5_correction 45 = .ok (.getfield 45, 3) := by decide +kernel
theorem dX5_correction_48 : decode cX5_correction 48 = .ok (.if_icmp .ge 83, 3) := by decide +kernel
theorem dX5_correction_51 : decode cX5_correction 51 = .ok (.iload_n 3, 1) := by decide +kernel
theorem dX5_correction_52 : decode cX5_correction 52 = .ok (.ifCond .ge 79, 3) := by decide +kernel
theorem dX5_correction_55 : decode cX5_correction 55 = .ok (.aload_n 0, 1) := by decide +kernel
theorem dX5_correction_56 : decode cX5_correction 56 = .ok (.getfield 31, 3) := by decide +kernel
theorem dX5_correction_59 : decode cX5_correction 59 = .ok (.iload 4, 2) := by decide +kernel
theorem dX5_correction_61 : decode cX5_correction 61 = .ok (.iload 5, 2) := by decide +kernel
theorem dX5_correction_63 : decode cX5_correction 63 = .ok (.iastore, 1) := by decide +kernel
theorem dX5_correction_64 : decode cX5_correction 64 = .ok (.iload 5, 2) := by decide +kernel
theorem dX5_correction_66 : decode cX5_correction 66 = .ok (.aload_n 0, 1) := by decide +kernel
theorem dX5_correction_67 : decode cX5_correction 67 = .ok (.getfield 28, 3) := by decide +kernel
theorem dX5_correction_70 : decode cX5_correction 70 = .ok (.iload 4, 2) := by decide +kernel
theorem dX5_correction_72 : decode cX5_correction 72 = .ok (.iaload, 1) := by decide +kernel
theorem dX5_correction_73 : decode cX5_correction 73 = .ok (.if_icmp .eq 14, 3) := by decide +kernel
theorem dX5_correction_76 : decode cX5_correction 76 = .ok (.aload_n 0, 1) := by decide +kernel
theorem dX5_correction_77 : decode cX5_correction 77 = .ok (.invokevirtual 127, 3) := by decide +kernel
theorem dX5_correction_80 : decode cX5_correction 80 = .ok (.ifCond .eq 7, 3) := by decide +kernel
theorem dX5_correction_83 : decode cX5_correction 83 = .ok (.iconst 1, 1) := by decide +kernel
theorem dX5_correction_84 : decode cX5_correction 84 = .ok (.goto 4, 3) := by decide +kernel
theorem dX5_correction_87 : decode cX5_correction 87 = .ok (.iconst 0, 1) := by decide +kernel
theorem dX5_correction_88 : decode cX5_correction 88 = .ok (.istore 6, 2) := by decide +kernel
theorem dX5_correction_90 : decode cX5_correction 90 = .ok (.iload 6, 2) := by decide +kernel
theorem dX5_correction_92 : decode cX5_correction 92 = .ok (.ifCond .eq 18, 3) := by decide +kernel
theorem dX5_correction_95 : decode cX5_correction 95 = .ok (.iload_n 2, 1) := by decide +kernel
theorem dX5_correction_96 : decode cX5_correction 96 = .ok (.ifCond .ne 14, 3) := by decide +kernel
theorem dX5_correction_99 : decode cX5_correction 99 = .ok (.bipush 10, 2) := by decide +kernel
theorem dX5_correction_101 : decode cX5_correction 101 = .ok (.iload 4, 2) := by decide +kernel
theorem dX5_correction_103 : decode cX5_correction 103 = .ok (.imul, 1) := by decide +kernel
theorem dX5_correction_104 : decode cX5_correction 104 = .ok (.iload 5, 2) := by decide +kernel
theorem dX5_correction_106 : decode cX5_correction 106 = .ok (.iadd, 1) := by decide +kernel
theorem dX5_correction_107 : decode cX5_correction 107 = .ok (.goto 4, 3) := by decide +kernel
theorem dX5_correction_110 : decode cX5_correction 110 = .ok (.iconst (-1), 1) := by decide +kernel
theorem dX5_correction_111 : decode cX5_correction 111 = .ok (.istore_n 3, 1) := by decide +kernel
theorem dX5_correction_112 : decode cX5_correction 112 = .ok (.iload_n 2, 1) := by decide +kernel
theorem dX5_correction_113 : decode cX5_correction 113 = .ok (.iload 6, 2) := by decide +kernel
theorem dX5_correction_115 : decode cX5_correction 115 = .ok (.ifCond .eq 7, 3) := by decide +kernel
theorem dX5_correction_118 : decode cX5_correction 118 = .ok (.iconst 1, 1) := by decide +kernel
theorem dX5_correction_119 : decode cX5_correction 119 = .ok (.goto 4, 3) := by decide +kernel
theorem dX5_correction_122 : decode cX5_correction 122 = .ok (.iconst 0, 1) := by decide +kernel
theorem dX5_correction_123 : decode cX5_correction 123 = .ok (.isub, 1) := by decide +kernel
theorem dX5_correction_124 : decode cX5_correction 124 = .ok (.istore_n 2, 1) := by decide +kernel
theorem dX5_correction_125 : decode cX5_correction 125 = .ok (.iinc 5 1, 3) := by decide +kernel
theorem dX5_correction_128 : decode cX5_correction 128 = .ok (.goto (-86), 3) := by decide +kernel
theorem dX5_correction_131 : decode cX5_correction 131 = .ok (.iinc 4 1, 3) := by decide +kernel
theorem dX5_correction_134 : decode cX5_correction 134 = .ok (.goto (-108), 3) := by decide +kernel
theorem dX5_correction_137 : decode cX5_correction 137 = .ok (.iload_n 3, 1) := by decide +kernel
theorem dX5_correction_138 : decode cX5_correction 138 = .ok (.ireturn, 1) := by decide +kernel
theorem dJ7_fill_53178_0 : decode cJ7_fill_53178 0 = .ok (.iconst 0, 1) := by decide +kernel
theorem dJ7_fill_53178_1 : decode cJ7_fill_53178 1 = .ok (.istore_n 2, 1) := by decide +kernel
theorem dJ7_fill_53178_2 : decode cJ7_fill_53178 2 = .ok (.aload_n 0, 1) := by decide +kernel
theorem dJ7_fill_53178_3 : decode cJ7_fill_53178 3 = .ok (.arraylength, 1) := by decide +kernel
theorem dJ7_fill_53178_4 : decode cJ7_fill_53178 4 = .ok (.istore_n 3, 1) := by decide +kernel
theorem dJ7_fill_53178_5 : decode cJ7_fill_53178 5 = .ok (.iload_n 2, 1) := by decide +kernel
theorem dJ7_fill_53178_6 : decode cJ7_fill_53178 6 = .ok (.iload_n 3, 1) := by decide +kernel
theorem dJ7_fill_53178_7 : decode cJ7_fill_53178 7 = .ok (.if_icmp .ge 13, 3) := by decide +kernel
theorem dJ7_fill_53178_10 : decode cJ7_fill_53178 10 = .ok (.aload_n 0, 1) := by decide +kernel
theorem dJ7_fill_53178_11 : decode cJ7_fill_53178 11 = .ok (.iload_n 2, 1) := by decide +kernel
theorem dJ7_fill_53178_12 : decode cJ7_fill_53178 12 = .ok (.iload_n 1, 1) := by decide +kernel
theorem dJ7_fill_53178_13 : decode cJ7_fill_53178 13 = .ok (.iastore, 1) := by decide +kernel
theorem dJ7_fill_53178_14 : decode cJ7_fill_53178 14 = .ok (.iinc 2 1, 3) := by decide +kernel
theorem dJ7_fill_53178_17 : decode cJ7_fill_53178 17 = .ok (.goto (-12), 3) := by decide +kernel
theorem dJ7_fill_53178_20 : decode cJ7_fill_53178 20 = .ok (.return_, 1) := by decide +kernel

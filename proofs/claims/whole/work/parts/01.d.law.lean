set_option maxRecDepth 20000 in
theorem ggL_addWord_X4_addWord : GoodIn wsL_addWord wsX4_addWord := goodIn_ca (goodIn_ca (goodIn_r _ [7, 8, 9, 10, 11, 12, 13, 14, 6, 15, 16, 17, 18, 19, 20, 21, 22, 23, 24, 25, 26, 27, 28, 29, 30, 31, 32, 33, 34, 35, 36, 37, 38, 39, 40, 41, 42] (by decide +kernel) (by decide +kernel)) (goodIn_sub (fun _ h => List.mem_cons_of_mem _ (List.mem_append_left _ (List.mem_append_right _ h))) (by decide +kernel))) (goodIn_sub (fun _ h => List.mem_cons_of_mem _ (List.mem_append_right _ h)) (by decide +kernel))
set_option maxRecDepth 20000 in
theorem gL_addWord_X4_addWord : GoodIn wsL_addWord (wsV RL 7 RX4 yX4_addWord wsX4_addWord) := goodIn_app (goodIn_of _ (by decide +kernel)) ggL_addWord_X4_addWord
theorem dL_addWord_0 : decode cL_addWord 0 = .ok (.aload 4, 2) := by decide +kernel
theorem dL_addWord_2 : decode cL_addWord 2 = .ok (.iconst 0, 1) := by decide +kernel
theorem dL_addWord_3 : decode cL_addWord 3 = .ok (.aload_n 0, 1) := by decide +kernel
theorem dL_addWord_4 : decode cL_addWord 4 = .ok (.iload_n 1, 1) := by decide +kernel
theorem dL_addWord_5 : decode cL_addWord 5 = .ok (.iload_n 2, 1) := by decide +kernel
theorem dL_addWord_6 : decode cL_addWord 6 = .ok (.iload_n 3, 1) := by decide +kernel
theorem dL_addWord_7 : decode cL_addWord 7 = .ok (.invokevirtual 7, 3) := by decide +kernel
theorem dL_addWord_10 : decode cL_addWord 10 = .ok (.i2l, 1) := by decide +kernel
theorem dL_addWord_11 : decode cL_addWord 11 = .ok (.lastore, 1) := by decide +kernel
theorem dL_addWord_12 : decode cL_addWord 12 = .ok (.goto 11, 3) := by decide +kernel
theorem dL_addWord_15 : decode cL_addWord 15 = .ok (.astore 5, 2) := by decide +kernel
theorem dL_addWord_17 : decode cL_addWord 17 = .ok (.iconst 1, 1) := by decide +kernel
theorem dL_addWord_18 : decode cL_addWord 18 = .ok (.ireturn, 1) := by decide +kernel
theorem dL_addWord_19 : decode cL_addWord 19 = .ok (.astore 5, 2) := by decide +kernel
theorem dL_addWord_21 : decode cL_addWord 21 = .ok (.iconst 2, 1) := by decide +kernel
theorem dL_addWord_22 : decode cL_addWord 22 = .ok (.ireturn, 1) := by decide +kernel
theorem dL_addWord_23 : decode cL_addWord 23 = .ok (.iconst 0, 1) := by decide +kernel
theorem dL_addWord_24 : decode cL_addWord 24 = .ok (.ireturn, 1) := by decide +kernel
set_option maxRecDepth 20000 in
theorem ggL_setWord_X4_setWord : GoodIn wsL_setWord wsX4_setWord := goodIn_ca (goodIn_ca (goodIn_r _ [7, 8, 9, 10, 11, 12, 13, 14, 6, 15, 16, 17, 18, 19, 20, 21, 22, 23, 24, 25, 26, 27, 28, 29, 30, 31, 32, 33, 34, 35, 36, 37, 38, 39, 40, 41, 42] (by decide +kernel) (by decide +kernel)) (goodIn_sub (fun _ h => List.mem_cons_of_mem _ (List.mem_append_left _ (List.mem_append_right _ h))) (by decide +kernel))) (goodIn_sub (fun _ h => List.mem_cons_of_mem _ (List.mem_append_right _ h)) (by decide +kernel))
set_option maxRecDepth 20000 in
theorem gL_setWord_X4_setWord : GoodIn wsL_setWord (wsV RL 17 RX4 yX4_setWord wsX4_setWord) := goodIn_app (goodIn_of _ (by decide +kernel)) ggL_setWord_X4_setWord
theorem dL_setWord_0 : decode cL_setWord 0 = .ok (.aload 5, 2) := by decide +kernel
theorem dL_setWord_2 : decode cL_setWord 2 = .ok (.iconst 0, 1) := by decide +kernel
theorem dL_setWord_3 : decode cL_setWord 3 = .ok (.aload_n 0, 1) := by decide +kernel
theorem dL_setWord_4 : decode cL_setWord 4 = .ok (.iload_n 1, 1) := by decide +kernel
theorem dL_setWord_5 : decode cL_setWord 5 = .ok (.iload_n 2, 1) := by decide +kernel
theorem dL_setWord_6 : decode cL_setWord 6 = .ok (.iload_n 3, 1) := by decide +kernel
theorem dL_setWord_7 : decode cL_setWord 7 = .ok (.iload 4, 2) := by decide +kernel
theorem dL_setWord_9 : decode cL_setWord 9 = .ok (.invokevirtual 17, 3) := by decide +kernel
theorem dL_setWord_12 : decode cL_setWord 12 = .ok (.i2l, 1) := by decide +kernel
theorem dL_setWord_13 : decode cL_setWord 13 = .ok (.lastore, 1) := by decide +kernel
theorem dL_setWord_14 : decode cL_setWord 14 = .ok (.goto 11, 3) := by decide +kernel
theorem dL_setWord_17 : decode cL_setWord 17 = .ok (.astore 6, 2) := by decide +kernel
theorem dL_setWord_19 : decode cL_setWord 19 = .ok (.iconst 1, 1) := by decide +kernel
theorem dL_setWord_20 : decode cL_setWord 20 = .ok (.ireturn, 1) := by decide +kernel
theorem dL_setWord_21 : decode cL_setWord 21 = .ok (.astore 6, 2) := by decide +kernel
theorem dL_setWord_23 : decode cL_setWord 23 = .ok (.iconst 2, 1) := by decide +kernel
theorem dL_setWord_24 : decode cL_setWord 24 = .ok (.ireturn, 1) := by decide +kernel
theorem dL_setWord_25 : decode cL_setWord 25 = .ok (.iconst 0, 1) := by decide +kernel
theorem dL_setWord_26 : decode cL_setWord 26 = .ok (.ireturn, 1) := by decide +kernel
set_option maxRecDepth 20000 in
theorem ggL_addRule_X4_addRule : GoodIn wsL_addRule wsX4_addRule := goodIn_ca (goodIn_ca (goodIn_r _ [7, 8, 9, 10, 11, 12, 13, 14, 6, 15, 16, 17, 18, 19, 20, 21, 22, 23, 24, 25, 26, 27, 28, 29, 30, 31, 32, 33, 34, 35, 36, 37, 38, 39, 40, 41, 42, 43, 44, 45, 46, 47, 48, 49] (by decide +kernel) (by decide +kernel)) (goodIn_sub (fun _ h => List.mem_cons_of_mem _ (List.mem_append_left _ (List.mem_append_right _ h))) (by decide +kernel))) (goodIn_sub (fun _ h => List.mem_cons_of_mem _ (List.mem_append_right _ h)) (by decide +kernel))
set_option maxRecDepth 20000 in
theorem gL_addRule_X4_addRule : GoodIn wsL_addRule (wsV RL 23 RX4 yX4_addRule wsX4_addRule) := goodIn_app (goodIn_of _ (by decide +kernel)) ggL_addRule_X4_addRule
theorem dL_addRule_0 : decode cL_addRule 0 = .ok (.aload 5, 2) := by decide +kernel
theorem dL_addRule_2 : decode cL_addRule 2 = .ok (.iconst 0, 1) := by decide +kernel
theorem dL_addRule_3 : decode cL_addRule 3 = .ok (.aload_n 0, 1) := by decide +kernel
theorem dL_addRule_4 : decode cL_addRule 4 = .ok (.iload_n 1, 1) := by decide +kernel
theorem dL_addRule_5 : decode cL_addRule 5 = .ok (.iload_n 2, 1) := by decide +kernel
theorem dL_addRule_6 : decode cL_addRule 6 = .ok (.iload_n 3, 1) := by decide +kernel
theorem dL_addRule_7 : decode cL_addRule 7 = .ok (.iload 4, 2) := by decide +kernel
theorem dL_addRule_9 : decode cL_addRule 9 = .ok (.invokevirtual 23, 3) := by decide +kernel
theorem dL_addRule_12 : decode cL_addRule 12 = .ok (.i2l, 1) := by decide +kernel
theorem dL_addRule_13 : decode cL_addRule 13 = .ok (.lastore, 1) := by decide +kernel
theorem dL_addRule_14 : decode cL_addRule 14 = .ok (.goto 11, 3) := by decide +kernel
theorem dL_addRule_17 : decode cL_addRule 17 = .ok (.astore 6, 2) := by decide +kernel
theorem dL_addRule_19 : decode cL_addRule 19 = .ok (.iconst 1, 1) := by decide +kernel
theorem dL_addRule_20 : decode cL_addRule 20 = .ok (.ireturn, 1) := by decide +kernel
theorem dL_addRule_21 : decode cL_addRule 21 = .ok (.astore 6, 2) := by decide +kernel
theorem dL_addRule_23 : decode cL_addRule 23 = .ok (.iconst 2, 1) := by decide +kernel
theorem dL_addRule_24 : decode cL_addRule 24 = .ok (.ireturn, 1) := by decide +kernel
theorem dL_addRule_25 : decode cL_addRule 25 = .ok (.iconst 0, 1) := by decide +kernel
theorem dL_addRule_26 : decode cL_addRule 26 = .ok (.ireturn, 1) := by decide +kernel
set_option maxRecDepth 20000 in
theorem ggL_dropRule_X4_dropRule : GoodIn wsL_dropRule wsX4_dropRule := goodIn_ca (goodIn_r _ [6, 7, 8, 9, 10, 11, 12, 13, 14, 15, 16, 17, 18, 19, 20, 21, 22, 23, 24] (by decide +kernel) (by decide +kernel)) (goodIn_sub (fun _ h => List.mem_cons_of_mem _ (List.mem_append_right _ h)) (by decide +kernel))
set_option maxRecDepth 20000 in
theorem gL_dropRule_X4_dropRule : GoodIn wsL_dropRule (wsV RL 26 RX4 yX4_dropRule wsX4_dropRule) := goodIn_app (goodIn_of _ (by decide +kernel)) ggL_dropRule_X4_dropRule
theorem dL_dropRule_0 : decode cL_dropRule 0 = .ok (.aload_n 1, 1) := by decide +kernel
theorem dL_dropRule_1 : decode cL_dropRule 1 = .ok (.iconst 0, 1) := by decide +kernel
theorem dL_dropRule_2 : decode cL_dropRule 2 = .ok (.aload_n 0, 1) := by decide +kernel
theorem dL_dropRule_3 : decode cL_dropRule 3 = .ok (.invokevirtual 26, 3) := by decide +kernel
theorem dL_dropRule_6 : decode cL_dropRule 6 = .ok (.i2l, 1) := by decide +kernel
theorem dL_dropRule_7 : decode cL_dropRule 7 = .ok (.lastore, 1) := by decide +kernel
theorem dL_dropRule_8 : decode cL_dropRule 8 = .ok (.goto 6, 3) := by decide +kernel
theorem dL_dropRule_11 : decode cL_dropRule 11 = .ok (.astore_n 2, 1) := by decide +kernel
theorem dL_dropRule_12 : decode cL_dropRule 12 = .ok (.iconst 1, 1) := by decide +kernel
theorem dL_dropRule_13 : decode cL_dropRule 13 = .ok (.ireturn, 1) := by decide +kernel
theorem dL_dropRule_14 : decode cL_dropRule 14 = .ok (.iconst 0, 1) := by decide +kernel
theorem dL_dropRule_15 : decode cL_dropRule 15 = .ok (.ireturn, 1) := by decide +kernel
set_option maxRecDepth 20000 in
theorem ggL_say_X4_say : GoodIn wsL_say wsX4_say := goodIn_ca (goodIn_ca (goodIn_r _ [7, 8, 9, 10, 11, 12, 13, 14, 15, 16, 6, 17, 18, 19, 20, 21, 22, 23, 24, 25, 26, 27, 28, 29, 30, 31, 32] (by decide +kernel) (by decide +kernel)) (goodIn_sub (fun _ h => List.mem_cons_of_mem _ (List.mem_append_left _ (List.mem_append_right _ h))) (by decide +kernel))) (goodIn_sub (fun _ h => List.mem_cons_of_mem _ (List.mem_append_right _ h)) (by decide +kernel))
set_option maxRecDepth 20000 in
theorem gL_say_X4_say : GoodIn wsL_say (wsV RL 30 RX4 yX4_say wsX4_say) := goodIn_app (goodIn_of _ (by decide +kernel)) ggL_say_X4_say
theorem dL_say_0 : decode cL_say 0 = .ok (.aload_n 2, 1) := by decide +kernel
theorem dL_say_1 : decode cL_say 1 = .ok (.iconst 0, 1) := by decide +kernel
theorem dL_say_2 : decode cL_say 2 = .ok (.aload_n 0, 1) := by decide +kernel
theorem dL_say_3 : decode cL_say 3 = .ok (.iload_n 1, 1) := by decide +kernel
theorem dL_say_4 : decode cL_say 4 = .ok (.invokevirtual 30, 3) := by decide +kernel
theorem dL_say_7 : decode cL_say 7 = .ok (.i2l, 1) := by decide +kernel
theorem dL_say_8 : decode cL_say 8 = .ok (.lastore, 1) := by decide +kernel
theorem dL_say_9 : decode cL_say 9 = .ok (.goto 9, 3) := by decide +kernel
theorem dL_say_12 : decode cL_say 12 = .ok (.astore_n 3, 1) := by decide +kernel
theorem dL_say_13 : decode cL_say 13 = .ok (.iconst 1, 1) := by decide +kernel
theorem dL_say_14 : decode cL_say 14 = .ok (.ireturn, 1) := by decide +kernel
theorem dL_say_15 : decode cL_say 15 = .ok (.astore_n 3, 1) := by decide +kernel
theorem dL_say_16 : decode cL_say 16 = .ok (.iconst 2, 1) := by decide +kernel
theorem dL_say_17 : decode cL_say 17 = .ok (.ireturn, 1) := by decide +kernel
theorem dL_say_18 : decode cL_say 18 = .ok (.iconst 0, 1) := by decide +kernel
theorem dL_say_19 : decode cL_say 19 = .ok (.ireturn, 1) := by decide +kernel
set_option maxRecDepth 20000 in
theorem ggL_change_X4_change : GoodIn wsL_change wsX4_change := goodIn_ca (goodIn_r _ [6, 7, 8, 9, 10, 11, 12, 13, 5, 14, 15, 16, 17, 18, 19, 20, 21, 22, 23, 24, 25, 26, 27, 28, 29] (by decide +kernel) (by decide +kernel)) (goodIn_sub (fun _ h => List.mem_cons_of_mem _ (List.mem_append_right _ h)) (by decide +kernel))
set_option maxRecDepth 20000 in
theorem gL_change_X4_change : GoodIn wsL_change (wsV RL 34 RX4 yX4_change wsX4_change) := goodIn_app (goodIn_of _ (by decide +kernel)) ggL_change_X4_change
theorem dL_change_0 : decode cL_change 0 = .ok (.aload_n 3, 1) := by decide +kernel
theorem dL_change_1 : decode cL_change 1 = .ok (.iconst 0, 1) := by decide +kernel
theorem dL_change_2 : decode cL_change 2 = .ok (.aload_n 0, 1) := by decide +kernel
theorem dL_change_3 : decode cL_change 3 = .ok (.iload_n 1, 1) := by decide +kernel
theorem dL_change_4 : decode cL_change 4 = .ok (.iload_n 2, 1) := by decide +kernel
theorem dL_change_5 : decode cL_change 5 = .ok (.invokevirtual 34, 3) := by decide +kernel
theorem dL_change_8 : decode cL_change 8 = .ok (.i2l, 1) := by decide +kernel
theorem dL_change_9 : decode cL_change 9 = .ok (.lastore, 1) := by decide +kernel
theorem dL_change_10 : decode cL_change 10 = .ok (.goto 7, 3) := by decide +kernel
theorem dL_change_13 : decode cL_change 13 = .ok (.astore 4, 2) := by decide +kernel
theorem dL_change_15 : decode cL_change 15 = .ok (.iconst 1, 1) := by decide +kernel
theorem dL_change_16 : decode cL_change 16 = .ok (.ireturn, 1) := by decide +kernel
theorem dL_change_17 : decode cL_change 17 = .ok (.iconst 0, 1) := by decide +kernel
theorem dL_change_18 : decode cL_change 18 = .ok (.ireturn, 1) := by decide +kernel
set_option maxRecDepth 20000 in
theorem ggL_wordAt_X4_wordAt : GoodIn wsL_wordAt wsX4_wordAt := goodIn_ca (goodIn_r _ [6, 7, 8, 9, 10, 11, 12, 5, 13, 14, 15, 16, 17, 18, 19, 20] (by decide +kernel) (by decide +kernel)) (goodIn_sub (fun _ h => List.mem_cons_of_mem _ (List.mem_append_right _ h)) (by decide +kernel))
set_option maxRecDepth 20000 in
theorem gL_wordAt_X4_wordAt : GoodIn wsL_wordAt (wsV RL 38 RX4 yX4_wordAt wsX4_wordAt) := goodIn_app (goodIn_of _ (by decide +kernel)) ggL_wordAt_X4_wordAt
theorem dL_wordAt_0 : decode cL_wordAt 0 = .ok (.aload_n 2, 1) := by decide +kernel
theorem dL_wordAt_1 : decode cL_wordAt 1 = .ok (.iconst 0, 1) := by decide +kernel
theorem dL_wordAt_2 : decode cL_wordAt 2 = .ok (.aload_n 0, 1) := by decide +kernel
theorem dL_wordAt_3 : decode cL_wordAt 3 = .ok (.iload_n 1, 1) := by decide +kernel
theorem dL_wordAt_4 : decode cL_wordAt 4 = .ok (.invokevirtual 38, 3) := by decide +kernel
theorem dL_wordAt_7 : decode cL_wordAt 7 = .ok (.i2l, 1) := by decide +kernel
theorem dL_wordAt_8 : decode cL_wordAt 8 = .ok (.lastore, 1) := by decide +kernel
theorem dL_wordAt_9 : decode cL_wordAt 9 = .ok (.goto 6, 3) := by decide +kernel
theorem dL_wordAt_12 : decode cL_wordAt 12 = .ok (.astore_n 3, 1) := by decide +kernel
theorem dL_wordAt_13 : decode cL_wordAt 13 = .ok (.iconst 1, 1) := by decide +kernel
theorem dL_wordAt_14 : decode cL_wordAt 14 = .ok (.ireturn, 1) := by decide +kernel
theorem dL_wordAt_15 : decode cL_wordAt 15 = .ok (.iconst 0, 1) := by decide +kernel
theorem dL_wordAt_16 : decode cL_wordAt 16 = .ok (.ireturn, 1) := by decide +kernel
set_option maxRecDepth 20000 in
theorem ggL_readingsOf_X4_readingsOf : GoodIn wsL_readingsOf wsX4_readingsOf := goodIn_ca (goodIn_r _ [6, 7, 8, 9, 10, 11, 5, 12, 13, 14, 15, 16, 17, 18, 19, 20, 21, 22, 23, 24, 25, 26, 27, 28, 29, 30, 31, 32, 33, 34, 35, 36, 37, 38, 39, 40, 41, 42, 43, 44, 45, 46, 47, 48, 49, 50, 51, 52, 53, 54, 55, 56, 57, 58, 59, 60, 61, 62, 63, 64, 65, 66, 67, 68, 69, 70, 71, 72, 73, 74, 75, 76, 77, 78, 79, 80, 81] (by decide +kernel) (by decide +kernel)) (goodIn_sub (fun _ h => List.mem_cons_of_mem _ (List.mem_append_right _ h)) (by decide +kernel))
set_option maxRecDepth 20000 in
theorem gL_readingsOf_X4_readingsOf : GoodIn wsL_readingsOf (wsV RL 41 RX4 yX4_readingsOf wsX4_readingsOf) := goodIn_app (goodIn_of _ (by decide +kernel)) ggL_readingsOf_X4_readingsOf
theorem dL_readingsOf_0 : decode cL_readingsOf 0 = .ok (.aload 4, 2) := by decide +kernel
theorem dL_readingsOf_2 : decode cL_readingsOf 2 = .ok (.iconst 0, 1) := by decide +kernel
theorem dL_readingsOf_3 : decode cL_readingsOf 3 = .ok (.aload_n 0, 1) := by decide +kernel
theorem dL_readingsOf_4 : decode cL_readingsOf 4 = .ok (.iload_n 1, 1) := by decide +kernel
theorem dL_readingsOf_5 : decode cL_readingsOf 5 = .ok (.iload_n 2, 1) := by decide +kernel
theorem dL_readingsOf_6 : decode cL_readingsOf 6 = .ok (.iload_n 3, 1) := by decide +kernel
theorem dL_readingsOf_7 : decode cL_readingsOf 7 = .ok (.invokevirtual 41, 3) := by decide +kernel
theorem dL_readingsOf_10 : decode cL_readingsOf 10 = .ok (.i2l, 1) := by decide +kernel
theorem dL_readingsOf_11 : decode cL_readingsOf 11 = .ok (.lastore, 1) := by decide +kernel
theorem dL_readingsOf_12 : decode cL_readingsOf 12 = .ok (.goto 7, 3) := by decide +kernel
theorem dL_readingsOf_15 : decode cL_readingsOf 15 = .ok (.astore 5, 2) := by decide +kernel
theorem dL_readingsOf_17 : decode cL_readingsOf 17 = .ok (.iconst 1, 1) := by decide +kernel
theorem dL_readingsOf_18 : decode cL_readingsOf 18 = .ok (.ireturn, 1) := by decide +kernel
theorem dL_readingsOf_19 : decode cL_readingsOf 19 = .ok (.iconst 0, 1) := by decide +kernel
theorem dL_readingsOf_20 : decode cL_readingsOf 20 = .ok (.ireturn, 1) := by decide +kernel
set_option maxRecDepth 20000 in
theorem ggL_has_X4_has : GoodIn wsL_has wsX4_has := goodIn_ca (goodIn_ca (goodIn_r _ [7, 8, 9, 10, 11, 12, 13, 14, 15, 16, 17, 18, 6, 19, 20, 21, 22, 23, 24, 25, 26, 27, 28, 29, 30, 31, 32, 33, 34, 35, 36, 37, 38, 39, 40, 41, 42, 43, 44, 45, 46, 47, 48, 49, 50, 51, 52, 53, 54, 55, 56, 57, 58, 59, 60, 61, 62, 63, 64, 65, 66, 67, 68, 69, 70, 71, 72, 73, 74, 75, 76, 77, 78, 79, 80, 81, 82] (by decide +kernel) (by decide +kernel)) (goodIn_sub (fun _ h => List.mem_cons_of_mem _ (List.mem_append_left _ (List.mem_append_right _ h))) (by decide +kernel))) (goodIn_sub (fun _ h => List.mem_cons_of_mem _ (List.mem_append_right _ h)) (by decide +kernel))
set_option maxRecDepth 20000 in
theorem gL_has_X4_has : GoodIn wsL_has (wsV RL 44 RX4 yX4_has wsX4_has) := goodIn_app (goodIn_of _ (by decide +kernel)) ggL_has_X4_has
theorem dL_has_0 : decode cL_has 0 = .ok (.aload 5, 2) := by decide +kernel
theorem dL_has_2 : decode cL_has 2 = .ok (.iconst 0, 1) := by decide +kernel
theorem dL_has_3 : decode cL_has 3 = .ok (.aload_n 0, 1) := by decide +kernel
theorem dL_has_4 : decode cL_has 4 = .ok (.iload_n 1, 1) := by decide +kernel
theorem dL_has_5 : decode cL_has 5 = .ok (.iload_n 2, 1) := by decide +kernel
theorem dL_has_6 : decode cL_has 6 = .ok (.iload_n 3, 1) := by decide +kernel
theorem dL_has_7 : decode cL_has 7 = .ok (.iload 4, 2) := by decide +kernel
theorem dL_has_9 : decode cL_has 9 = .ok (.invokevirtual 44, 3) := by decide +kernel
theorem dL_has_12 : decode cL_has 12 = .ok (.ifCond .eq 7, 3) := by decide +kernel
theorem dL_has_15 : decode cL_has 15 = .ok (.lconst 1, 1) := by decide +kernel
theorem dL_has_16 : decode cL_has 16 = .ok (.goto 4, 3) := by decide +kernel
theorem dL_has_19 : decode cL_has 19 = .ok (.lconst 0, 1) := by decide +kernel
theorem dL_has_20 : decode cL_has 20 = .ok (.lastore, 1) := by decide +kernel
theorem dL_has_21 : decode cL_has 21 = .ok (.goto 11, 3) := by decide +kernel
theorem dL_has_24 : decode cL_has 24 = .ok (.astore 6, 2) := by decide +kernel
theorem dL_has_26 : decode cL_has 26 = .ok (.iconst 1, 1) := by decide +kernel
theorem dL_has_27 : decode cL_has 27 = .ok (.ireturn, 1) := by decide +kernel
theorem dL_has_28 : decode cL_has 28 = .ok (.astore 6, 2) := by decide +kernel
theorem dL_has_30 : decode cL_has 30 = .ok (.iconst 2, 1) := by decide +kernel
theorem dL_has_31 : decode cL_has 31 = .ok (.ireturn, 1) := by decide +kernel
theorem dL_has_32 : decode cL_has 32 = .ok (.iconst 0, 1) := by decide +kernel
theorem dL_has_33 : decode cL_has 33 = .ok (.ireturn, 1) := by decide +kernel
set_option maxRecDepth 20000 in
theorem ggL_sentences_X4_sentences : GoodIn wsL_sentences wsX4_sentences := goodIn_ca (goodIn_r _ [6, 7, 8, 9, 10, 5, 11, 12, 13, 14, 15, 16, 17, 18, 19, 20, 21, 22, 23, 24, 25, 26, 27, 28, 29, 30, 31, 32, 33, 34, 35, 36, 37, 38, 39, 40, 41, 42, 43, 44, 45, 46, 47, 48, 49, 50, 51, 52, 53, 54, 55, 56, 57, 58, 59, 60, 61, 62, 63, 64, 65, 66, 67, 68, 69, 70, 71, 72, 73, 74, 75, 76, 77, 78, 79, 80, 81, 82] (by decide +kernel) (by decide +kernel)) (goodIn_sub (fun _ h => List.mem_cons_of_mem _ (List.mem_append_right _ h)) (by decide +kernel))
set_option maxRecDepth 20000 in
theorem gL_sentences_X4_sentences : GoodIn wsL_sentences (wsV RL 48 RX4 yX4_sentences wsX4_sentences) := goodIn_app (goodIn_of _ (by decide +kernel)) ggL_sentences_X4_sentences
theorem dL_sentences_0 : decode cL_sentences 0 = .ok (.aload_n 2, 1) := by decide +kernel
theorem dL_sentences_1 : decode cL_sentences 1 = .ok (.iconst 0, 1) := by decide +kernel
theorem dL_sentences_2 : decode cL_sentences 2 = .ok (.aload_n 0, 1) := by decide +kernel
theorem dL_sentences_3 : decode cL_sentences 3 = .ok (.iload_n 1, 1) := by decide +kernel
theorem dL_sentences_4 : decode cL_sentences 4 = .ok (.invokevirtual 48, 3) := by decide +kernel
theorem dL_sentences_7 : decode cL_sentences 7 = .ok (.i2l, 1) := by decide +kernel
theorem dL_sentences_8 : decode cL_sentences 8 = .ok (.lastore, 1) := by decide +kernel
theorem dL_sentences_9 : decode cL_sentences 9 = .ok (.goto 6, 3) := by decide +kernel
theorem dL_sentences_12 : decode cL_sentences 12 = .ok (.astore_n 3, 1) := by decide +kernel
theorem dL_sentences_13 : decode cL_sentences 13 = .ok (.iconst 1, 1) := by decide +kernel
theorem dL_sentences_14 : decode cL_sentences 14 = .ok (.ireturn, 1) := by decide +kernel
theorem dL_sentences_15 : decode cL_sentences 15 = .ok (.iconst 0, 1) := by decide +kernel
theorem dL_sentences_16 : decode cL_sentences 16 = .ok (.ireturn, 1) := by decide +kernel
set_option maxRecDepth 20000 in
theorem ggL_sentence_X4_sentence : GoodIn wsL_sentence wsX4_sentence := goodIn_ca (goodIn_r _ [6, 7, 8, 9, 10, 5, 11, 12, 13, 14, 15, 16, 17, 18, 19, 20, 21, 22, 23, 24, 25, 26, 27, 28, 29, 30, 31, 32, 33, 34, 35, 36, 37, 38, 39, 40, 41, 42, 43, 44, 45, 46, 47, 48, 49, 50, 51, 52, 53, 54, 55, 56, 57, 58, 59, 60, 61, 62, 63, 64, 65, 66, 67, 68, 69, 70, 71, 72, 73, 74, 75, 76, 77, 78, 79, 80, 81, 82, 83, 84, 85, 86] (by decide +kernel) (by decide +kernel)) (goodIn_sub (fun _ h => List.mem_cons_of_mem _ (List.mem_append_right _ h)) (by decide +kernel))
set_option maxRecDepth 20000 in
theorem gL_sentence_X4_sentence : GoodIn wsL_sentence (wsV RL 51 RX4 yX4_sentence wsX4_sentence) := goodIn_app (goodIn_of _ (by decide +kernel)) ggL_sentence_X4_sentence
theorem dL_sentence_0 : decode cL_sentence 0 = .ok (.aload_n 3, 1) := by decide +kernel
theorem dL_sentence_1 : decode cL_sentence 1 = .ok (.iconst 0, 1) := by decide +kernel
theorem dL_sentence_2 : decode cL_sentence 2 = .ok (.aload_n 0, 1) := by decide +kernel
theorem dL_sentence_3 : decode cL_sentence 3 = .ok (.iload_n 1, 1) := by decide +kernel
theorem dL_sentence_4 : decode cL_sentence 4 = .ok (.iload_n 2, 1) := by decide +kernel
theorem dL_sentence_5 : decode cL_sentence 5 = .ok (.invokevirtual 51, 3) := by decide +kernel
theorem dL_sentence_8 : decode cL_sentence 8 = .ok (.i2l, 1) := by decide +kernel
theorem dL_sentence_9 : decode cL_sentence 9 = .ok (.lastore, 1) := by decide +kernel
theorem dL_sentence_10 : decode cL_sentence 10 = .ok (.goto 7, 3) := by decide +kernel
theorem dL_sentence_13 : decode cL_sentence 13 = .ok (.astore 4, 2) := by decide +kernel
theorem dL_sentence_15 : decode cL_sentence 15 = .ok (.iconst 1, 1) := by decide +kernel
theorem dL_sentence_16 : decode cL_sentence 16 = .ok (.ireturn, 1) := by decide +kernel
theorem dL_sentence_17 : decode cL_sentence 17 = .ok (.iconst 0, 1) := by decide +kernel
theorem dL_sentence_18 : decode cL_sentence 18 = .ok (.ireturn, 1) := by decide +kernel
set_option maxRecDepth 20000 in
theorem ggL_share_X4_share : GoodIn wsL_share wsX4_share := goodIn_ca (goodIn_r _ [6, 7, 8, 9, 10, 5, 11, 12, 13, 14, 15, 16, 17, 18, 19, 20, 21, 22, 23, 24, 25, 26, 27, 28, 29, 30, 31, 32, 33, 34, 35, 36, 37, 38, 39, 40, 41, 42, 43, 44, 45, 46, 47, 48, 49, 50, 51, 52, 53, 54, 55, 56, 57, 58, 59, 60, 61, 62, 63, 64, 65, 66, 67, 68, 69, 70, 71, 72, 73, 74, 75, 76, 77, 78, 79, 80, 81, 82] (by decide +kernel) (by decide +kernel)) (goodIn_sub (fun _ h => List.mem_cons_of_mem _ (List.mem_append_right _ h)) (by decide +kernel))
set_option maxRecDepth 20000 in
theorem gL_share_X4_share : GoodIn wsL_share (wsV RL 54 RX4 yX4_share wsX4_share) := goodIn_app (goodIn_of _ (by decide +kernel)) ggL_share_X4_share
theorem dL_share_0 : decode cL_share 0 = .ok (.aload_n 2, 1) := by decide +kernel
theorem dL_share_1 : decode cL_share 1 = .ok (.iconst 0, 1) := by decide +kernel
theorem dL_share_2 : decode cL_share 2 = .ok (.aload_n 0, 1) := by decide +kernel
theorem dL_share_3 : decode cL_share 3 = .ok (.iload_n 1, 1) := by decide +kernel
theorem dL_share_4 : decode cL_share 4 = .ok (.invokevirtual 54, 3) := by decide +kernel
theorem dL_share_7 : decode cL_share 7 = .ok (.f2d, 1) := by decide +kernel
theorem dL_share_8 : decode cL_share 8 = .ok (.dastore, 1) := by decide +kernel
theorem dL_share_9 : decode cL_share 9 = .ok (.goto 6, 3) := by decide +kernel
theorem dL_share_12 : decode cL_share 12 = .ok (.astore_n 3, 1) := by decide +kernel
theorem dL_share_13 : decode cL_share 13 = .ok (.iconst 1, 1) := by decide +kernel
theorem dL_share_14 : decode cL_share 14 = .ok (.ireturn, 1) := by decide +kernel
theorem dL_share_15 : decode cL_share 15 = .ok (.iconst 0, 1) := by decide +kernel
theorem dL_share_16 : decode cL_share 16 = .ok (.ireturn, 1) := by decide +kernel
set_option maxRecDepth 20000 in
theorem ggL_spoil_X4_spoil : GoodIn wsL_spoil wsX4_spoil := goodIn_ca (goodIn_r _ [6, 7, 8, 9, 10, 11, 12, 13, 5, 14, 15, 16, 17, 18, 19, 20, 21, 22, 23, 24, 25, 26, 27, 28, 29, 30, 31, 32, 33, 34, 35, 36, 37, 38, 39, 40, 41, 42, 43, 44, 45, 46, 47, 48, 49, 50, 51, 52, 53, 54, 55, 56, 57, 58, 59, 60, 61, 62, 63, 64, 65, 66, 67, 68, 69, 70, 71, 72, 73, 74, 75, 76, 77, 78, 79, 80, 81, 82, 83, 84, 85, 86, 87, 88] (by decide +kernel) (by decide +kernel)) (goodIn_sub (fun _ h => List.mem_cons_of_mem _ (List.mem_append_right _ h)) (by decide +kernel))
set_option maxRecDepth 20000 in
theorem gL_spoil_X4_spoil : GoodIn wsL_spoil (wsV RL 58 RX4 yX4_spoil wsX4_spoil) := goodIn_app (goodIn_of _ (by decide +kernel)) ggL_spoil_X4_spoil
theorem dL_spoil_0 : decode cL_spoil 0 = .ok (.aload_n 2, 1) := by decide +kernel
theorem dL_spoil_1 : decode cL_spoil 1 = .ok (.iconst 0, 1) := by decide +kernel
theorem dL_spoil_2 : decode cL_spoil 2 = .ok (.aload_n 0, 1) := by decide +kernel
theorem dL_spoil_3 : decode cL_spoil 3 = .ok (.iload_n 1, 1) := by decide +kernel
theorem dL_spoil_4 : decode cL_spoil 4 = .ok (.invokevirtual 58, 3) := by decide +kernel
theorem dL_spoil_7 : decode cL_spoil 7 = .ok (.i2l, 1) := by decide +kernel
theorem dL_spoil_8 : decode cL_spoil 8 = .ok (.lastore, 1) := by decide +kernel
theorem dL_spoil_9 : decode cL_spoil 9 = .ok (.goto 6, 3) := by decide +kernel
theorem dL_spoil_12 : decode cL_spoil 12 = .ok (.astore_n 3, 1) := by decide +kernel
theorem dL_spoil_13 : decode cL_spoil 13 = .ok (.iconst 1, 1) := by decide +kernel
theorem dL_spoil_14 : decode cL_spoil 14 = .ok (.ireturn, 1) := by decide +kernel
theorem dL_spoil_15 : decode cL_spoil 15 = .ok (.iconst 0, 1) := by decide +kernel
theorem dL_spoil_16 : decode cL_spoil 16 = .ok (.ireturn, 1) := by decide +kernel
set_option maxRecDepth 20000 in
theorem ggL_correction_X4_correction : GoodIn wsL_correction wsX4_correction := goodIn_ca (goodIn_r _ [6, 7, 8, 9, 10, 11, 12, 13, 14, 5, 15, 16, 17, 18, 19, 20, 21, 22, 23, 24, 25, 26, 27, 28, 29, 30, 31, 32, 33, 34, 35, 36, 37, 38, 39, 40, 41, 42, 43, 44, 45, 46, 47, 48, 49, 50, 51, 52, 53, 54, 55, 56, 57, 58, 59, 60, 61, 62, 63, 64, 65, 66, 67, 68, 69, 70, 71, 72, 73, 74, 75, 76, 77, 78] (by decide +kernel) (by decide +kernel)) (goodIn_sub (fun _ h => List.mem_cons_of_mem _ (List.mem_append_right _ h)) (by decide +kernel))
set_option maxRecDepth 20000 in
theorem gL_correction_X4_correction : GoodIn wsL_correction (wsV RL 61 RX4 yX4_correction wsX4_correction) := goodIn_app (goodIn_of _ (by decide +kernel)) ggL_correction_X4_correction
theorem dL_correction_0 : decode cL_correction 0 = .ok (.aload_n 2, 1) := by decide +kernel
theorem dL_correction_1 : decode cL_correction 1 = .ok (.iconst 0, 1) := by decide +kernel
theorem dL_correction_2 : decode cL_correction 2 = .ok (.aload_n 0, 1) := by decide +kernel
theorem dL_correction_3 : decode cL_correction 3 = .ok (.iload_n 1, 1) := by decide +kernel
theorem dL_correction_4 : decode cL_correction 4 = .ok (.invokevirtual 61, 3) := by decide +kernel
theorem dL_correction_7 : decode cL_correction 7 = .ok (.i2l, 1) := by decide +kernel
theorem dL_correction_8 : decode cL_correction 8 = .ok (.lastore, 1) := by decide +kernel
theorem dL_correction_9 : decode cL_correction 9 = .ok (.goto 6, 3) := by decide +kernel
theorem dL_correction_12 : decode cL_correction 12 = .ok (.astore_n 3, 1) := by decide +kernel
theorem dL_correction_13 : decode cL_correction 13 = .ok (.iconst 1, 1) := by decide +kernel
theorem dL_correction_14 : decode cL_correction 14 = .ok (.ireturn, 1) := by decide +kernel
theorem dL_correction_15 : decode cL_correction 15 = .ok (.iconst 0, 1) := by decide +kernel
theorem dL_correction_16 : decode cL_correction 16 = .ok (.ireturn, 1) := by decide +kernel
set_option maxRecDepth 20000 in
theorem ggL_law_X4_init : GoodIn wsL_law wsX4_init := goodIn_r _ [10, 11, 12, 13, 14, 15, 16, 17, 18, 19, 20, 21, 22, 23, 24, 25, 26, 27, 28, 29, 30, 31, 32, 33, 34, 35, 36, 37, 38, 39, 40, 41, 42, 43, 44, 45, 46, 47, 48, 49, 50, 51, 52, 53, 54, 55, 56, 57, 58, 59, 543, 544, 545, 546, 547, 548, 549, 550, 521, 522, 523, 524, 525, 526, 527, 551, 552, 553] (by decide +kernel) (by decide +kernel)
set_option maxRecDepth 20000 in
theorem gL_law_X4_init : GoodIn wsL_law (wsX4_init) := ggL_law_X4_init
set_option maxRecDepth 20000 in
theorem ggL_law_X5_init : GoodIn wsL_law wsX5_init := goodIn_r _ [62, 63, 12, 13, 18, 64, 65, 66, 67, 68, 69, 70, 71, 72, 6, 73, 528, 529, 530, 531, 532, 533, 534, 535, 536, 537, 538, 539, 540, 541, 542] (by decide +kernel) (by decide +kernel)
set_option maxRecDepth 20000 in
theorem gL_law_X5_init : GoodIn wsL_law (wsX5_init) := ggL_law_X5_init
set_option maxRecDepth 20000 in
theorem ggL_law_L_addWord : GoodIn wsL_law wsL_addWord := goodIn_ca (goodIn_ca (goodIn_r _ [77, 78, 79, 80, 81, 82, 2, 83, 84, 85, 86, 87, 17, 88, 89, 90, 91, 92, 93, 94, 95, 96, 97, 16, 98, 99, 38, 39, 521, 522, 523, 524, 525, 526, 527, 543, 544, 545, 546, 547, 548, 549, 550] (by decide +kernel) (by decide +kernel)) (goodIn_sub (fun _ h => List.mem_append_left _ (List.mem_append_left _ (List.mem_append_right _ h))) (by decide +kernel))) (goodIn_sub (fun _ h => List.mem_append_left _ (List.mem_append_right _ h)) (by decide +kernel))
set_option maxRecDepth 20000 in
theorem gL_law_L_addWord : GoodIn wsL_law (va_wsS RL 68 yL_addWord wsL_addWord) := goodIn_app (goodIn_of _ (by decide +kernel)) ggL_law_L_addWord
set_option maxRecDepth 20000 in
theorem ggL_law_X5_addWord : GoodIn wsL_law wsX5_addWord := goodIn_r _ [103, 104, 64, 65, 105, 106, 5, 107, 108, 109, 110, 111, 112, 113, 114, 115, 528, 529, 530, 531, 532, 533, 534, 535, 536, 537, 538, 539, 540, 541, 542] (by decide +kernel) (by decide +kernel)
set_option maxRecDepth 20000 in
theorem gL_law_X5_addWord : GoodIn wsL_law (wsV RL 73 RX5 yX5_addWord wsX5_addWord) := goodIn_app (goodIn_of _ (by decide +kernel)) ggL_law_X5_addWord
set_option maxRecDepth 20000 in
theorem ggL_law_X5_thrown : GoodIn wsL_law wsX5_thrown := goodIn_r _ [119, 115, 528, 529, 530, 531, 532, 533, 534, 535, 536, 537, 538, 539, 540, 541, 542] (by decide +kernel) (by decide +kernel)
set_option maxRecDepth 20000 in
theorem gL_law_X5_thrown : GoodIn wsL_law (wsV RL 74 RX5 yX5_thrown wsX5_thrown) := goodIn_app (goodIn_of _ (by decide +kernel)) ggL_law_X5_thrown
set_option maxRecDepth 20000 in
theorem ggL_law_L_setWord : GoodIn wsL_law wsL_setWord := goodIn_ca (goodIn_ca (goodIn_r _ [122, 123, 78, 124, 125, 126, 2, 127, 128, 129, 84, 85, 17, 91, 92, 93, 88, 89, 90, 94, 95, 96, 97, 16, 98, 99, 38, 39, 521, 522, 523, 524, 525, 526, 527, 543, 544, 545, 546, 547, 548, 549, 550] (by decide +kernel) (by decide +kernel)) (goodIn_sub (fun _ h => List.mem_append_right _ h) (by decide +kernel))) (goodIn_sub (fun _ h => List.mem_append_left _ (List.mem_append_left _ (List.mem_append_right _ h))) (by decide +kernel))
set_option maxRecDepth 20000 in
theorem gL_law_L_setWord : GoodIn wsL_law (va_wsS RL 77 yL_setWord wsL_setWord) := goodIn_app (goodIn_of _ (by decide +kernel)) ggL_law_L_setWord
set_option maxRecDepth 20000 in
theorem ggL_law_X5_setWord : GoodIn wsL_law wsX5_setWord := goodIn_r _ [133, 64, 65, 134, 135, 136, 5, 137, 104, 105, 106, 107, 108, 109, 110, 111, 112, 113, 114, 115, 528, 529, 530, 531, 532, 533, 534, 535, 536, 537, 538, 539, 540, 541, 542] (by decide +kernel) (by decide +kernel)
set_option maxRecDepth 20000 in
theorem gL_law_X5_setWord : GoodIn wsL_law (wsV RL 80 RX5 yX5_setWord wsX5_setWord) := goodIn_app (goodIn_of _ (by decide +kernel)) ggL_law_X5_setWord
set_option maxRecDepth 20000 in
theorem ggL_law_L_addRule : GoodIn wsL_law wsL_addRule := goodIn_ca (goodIn_ca (goodIn_r _ [140, 78, 79, 141, 142, 143, 2, 144, 84, 85, 86, 87, 17, 91, 92, 93, 145, 146, 147, 148, 16, 149, 150, 41, 42, 43, 45, 151, 152, 153, 154, 155, 156, 95, 96, 521, 522, 523, 524, 525, 526, 527, 543, 544, 545, 546, 547, 548, 549, 550] (by decide +kernel) (by decide +kernel)) (goodIn_sub (fun _ h => List.mem_append_left _ (List.mem_append_left _ (List.mem_append_right _ h))) (by decide +kernel))) (goodIn_sub (fun _ h => List.mem_append_left _ (List.mem_append_right _ h)) (by decide +kernel))
set_option maxRecDepth 20000 in
theorem gL_law_L_addRule : GoodIn wsL_law (va_wsS RL 81 yL_addRule wsL_addRule) := goodIn_app (goodIn_of _ (by decide +kernel)) ggL_law_L_addRule
set_option maxRecDepth 20000 in
theorem ggL_law_X5_addRule : GoodIn wsL_law wsX5_addRule := goodIn_r _ [160, 161, 66, 67, 68, 69, 108, 109, 5, 110, 162, 163, 164, 111, 112, 113, 114, 115, 528, 529, 530, 531, 532, 533, 534, 535, 536, 537, 538, 539, 540, 541, 542] (by decide +kernel) (by decide +kernel)
set_option maxRecDepth 20000 in
theorem gL_law_X5_addRule : GoodIn wsL_law (wsV RL 83 RX5 yX5_addRule wsX5_addRule) := goodIn_app (goodIn_of _ (by decide +kernel)) ggL_law_X5_addRule
set_option maxRecDepth 20000 in
theorem ggL_law_L_dropRule : GoodIn wsL_law wsL_dropRule := goodIn_ca (goodIn_r _ [167, 79, 168, 169, 170, 2, 171, 86, 87, 17, 521, 522, 523, 524, 525, 526, 527, 543, 544, 545, 546, 547, 548, 549, 550] (by decide +kernel) (by decide +kernel)) (goodIn_sub (fun _ h => List.mem_append_left _ (List.mem_append_right _ h)) (by decide +kernel))
set_option maxRecDepth 20000 in
theorem gL_law_L_dropRule : GoodIn wsL_law (va_wsS RL 84 yL_dropRule wsL_dropRule) := goodIn_app (goodIn_of _ (by decide +kernel)) ggL_law_L_dropRule
set_option maxRecDepth 20000 in
theorem ggL_law_X5_dropRule : GoodIn wsL_law wsX5_dropRule := goodIn_r _ [175, 161, 111, 112, 113, 5, 114, 115, 528, 529, 530, 531, 532, 533, 534, 535, 536, 537, 538, 539, 540, 541, 542] (by decide +kernel) (by decide +kernel)
set_option maxRecDepth 20000 in
theorem gL_law_X5_dropRule : GoodIn wsL_law (wsV RL 87 RX5 yX5_dropRule wsX5_dropRule) := goodIn_app (goodIn_of _ (by decide +kernel)) ggL_law_X5_dropRule
set_option maxRecDepth 20000 in
theorem ggL_law_L_say : GoodIn wsL_law wsL_say := goodIn_ca (goodIn_ca (goodIn_r _ [178, 123, 79, 179, 180, 181, 2, 182, 128, 129, 86, 87, 17, 20, 19, 91, 92, 93, 521, 522, 523, 524, 525, 526, 527, 543, 544, 545, 546, 547, 548, 549, 550] (by decide +kernel) (by decide +kernel)) (goodIn_sub (fun _ h => List.mem_append_right _ h) (by decide +kernel))) (goodIn_sub (fun _ h => List.mem_append_left _ (List.mem_append_right _ h)) (by decide +kernel))
set_option maxRecDepth 20000 in
theorem gL_law_L_say : GoodIn wsL_law (va_wsS RL 88 yL_say wsL_say) := goodIn_app (goodIn_of _ (by decide +kernel)) ggL_law_L_say
set_option maxRecDepth 20000 in
theorem ggL_law_X5_say : GoodIn wsL_law wsX5_say := goodIn_r _ [186, 187, 70, 134, 135, 136, 5, 137, 104, 111, 112, 113, 114, 115, 528, 529, 530, 531, 532, 533, 534, 535, 536, 537, 538, 539, 540, 541, 542] (by decide +kernel) (by decide +kernel)
set_option maxRecDepth 20000 in
theorem gL_law_X5_say : GoodIn wsL_law (wsV RL 91 RX5 yX5_say wsX5_say) := goodIn_app (goodIn_of _ (by decide +kernel)) ggL_law_X5_say
set_option maxRecDepth 20000 in
theorem ggL_law_L_change : GoodIn wsL_law wsL_change := goodIn_ca (goodIn_r _ [190, 123, 191, 192, 193, 2, 194, 128, 129, 20, 17, 19, 91, 92, 93, 521, 522, 523, 524, 525, 526, 527, 543, 544, 545, 546, 547, 548, 549, 550] (by decide +kernel) (by decide +kernel)) (goodIn_sub (fun _ h => List.mem_append_right _ h) (by decide +kernel))
set_option maxRecDepth 20000 in
theorem gL_law_L_change : GoodIn wsL_law (va_wsS RL 92 yL_change wsL_change) := goodIn_app (goodIn_of _ (by decide +kernel)) ggL_law_L_change
set_option maxRecDepth 20000 in
theorem ggL_law_X5_change : GoodIn wsL_law wsX5_change := goodIn_r _ [198, 70, 199, 200, 201, 5, 202, 187, 134, 135, 136, 137, 104, 111, 112, 113, 114, 115, 528, 529, 530, 531, 532, 533, 534, 535, 536, 537, 538, 539, 540, 541, 542] (by decide +kernel) (by decide +kernel)
set_option maxRecDepth 20000 in
theorem gL_law_X5_change : GoodIn wsL_law (wsV RL 95 RX5 yX5_change wsX5_change) := goodIn_app (goodIn_of _ (by decide +kernel)) ggL_law_X5_change
set_option maxRecDepth 20000 in
theorem ggL_law_X4_hush : GoodIn wsL_law wsX4_hush := goodIn_r _ [206, 20, 521, 522, 523, 524, 525, 526, 527] (by decide +kernel) (by decide +kernel)
set_option maxRecDepth 20000 in
theorem gL_law_X4_hush : GoodIn wsL_law (wsV RL 96 RX4 yX4_hush wsX4_hush) := goodIn_app (goodIn_of _ (by decide +kernel)) ggL_law_X4_hush
set_option maxRecDepth 20000 in
theorem ggL_law_X5_hush : GoodIn wsL_law wsX5_hush := goodIn_r _ [210, 115, 187, 528, 529, 530, 531, 532, 533, 534, 535, 536, 537, 538, 539, 540, 541, 542] (by decide +kernel) (by decide +kernel)
set_option maxRecDepth 20000 in
theorem gL_law_X5_hush : GoodIn wsL_law (wsV RL 99 RX5 yX5_hush wsX5_hush) := goodIn_app (goodIn_of _ (by decide +kernel)) ggL_law_X5_hush
set_option maxRecDepth 20000 in
theorem ggL_law_X4_said : GoodIn wsL_law wsX4_said := goodIn_r _ [214, 20, 521, 522, 523, 524, 525, 526, 527] (by decide +kernel) (by decide +kernel)
set_option maxRecDepth 20000 in
theorem gL_law_X4_said : GoodIn wsL_law (wsV RL 100 RX4 yX4_said wsX4_said) := goodIn_app (goodIn_of _ (by decide +kernel)) ggL_law_X4_said
set_option maxRecDepth 20000 in
theorem ggL_law_X5_said : GoodIn wsL_law wsX5_said := goodIn_r _ [218, 115, 187, 528, 529, 530, 531, 532, 533, 534, 535, 536, 537, 538, 539, 540, 541, 542] (by decide +kernel) (by decide +kernel)
set_option maxRecDepth 20000 in
theorem gL_law_X5_said : GoodIn wsL_law (wsV RL 103 RX5 yX5_said wsX5_said) := goodIn_app (goodIn_of _ (by decide +kernel)) ggL_law_X5_said
set_option maxRecDepth 20000 in
theorem ggL_law_L_wordAt : GoodIn wsL_law wsL_wordAt := goodIn_ca (goodIn_r _ [221, 123, 222, 223, 224, 2, 225, 128, 129, 20, 19, 91, 92, 93, 521, 522, 523, 524, 525, 526, 527] (by decide +kernel) (by decide +kernel)) (goodIn_sub (fun _ h => List.mem_append_right _ h) (by decide +kernel))
set_option maxRecDepth 20000 in
theorem gL_law_L_wordAt : GoodIn wsL_law (va_wsS RL 104 yL_wordAt wsL_wordAt) := goodIn_app (goodIn_of _ (by decide +kernel)) ggL_law_L_wordAt
set_option maxRecDepth 20000 in
theorem ggL_law_X5_wordAt : GoodIn wsL_law wsX5_wordAt := goodIn_r _ [229, 70, 199, 200, 201, 5, 202, 187, 111, 112, 113, 114, 115, 528, 529, 530, 531, 532, 533, 534, 535, 536, 537, 538, 539, 540, 541, 542] (by decide +kernel) (by decide +kernel)
set_option maxRecDepth 20000 in
theorem gL_law_X5_wordAt : GoodIn wsL_law (wsV RL 106 RX5 yX5_wordAt wsX5_wordAt) := goodIn_app (goodIn_of _ (by decide +kernel)) ggL_law_X5_wordAt
set_option maxRecDepth 20000 in
theorem ggL_law_X4_readings : GoodIn wsL_law wsX4_readings := goodIn_r _ [233, 20, 234, 235, 236, 2, 237, 29, 17, 19, 238, 28, 239, 240, 241, 242, 243, 244, 54, 245, 246, 247, 248, 249, 250, 251, 16, 252, 253, 38, 39, 254, 255, 256, 40, 42, 257, 258, 259, 260, 45, 43, 41, 261, 262, 263, 264, 265, 266, 267, 268, 269, 521, 522, 523, 524, 525, 526, 527, 552, 543, 544, 545, 546, 547, 548, 549, 550] (by decide +kernel) (by decide +kernel)
set_option maxRecDepth 20000 in
theorem gL_law_X4_readings : GoodIn wsL_law (wsV RL 107 RX4 yX4_readings wsX4_readings) := goodIn_app (goodIn_of _ (by decide +kernel)) ggL_law_X4_readings
set_option maxRecDepth 20000 in
theorem ggL_law_X5_readings : GoodIn wsL_law wsX5_readings := goodIn_r _ [273, 115, 187, 274, 275, 276, 5, 277, 73, 278, 279, 280, 281, 282, 283, 284, 71, 70, 285, 286, 287, 288, 64, 65, 161, 66, 67, 68, 289, 290, 291, 292, 293, 294, 295, 296, 297, 298, 299, 69, 300, 301, 302, 528, 529, 530, 531, 532, 533, 534, 535, 536, 537, 538, 539, 540, 541, 542] (by decide +kernel) (by decide +kernel)
set_option maxRecDepth 20000 in
theorem gL_law_X5_readings : GoodIn wsL_law (wsV RL 110 RX5 yX5_readings wsX5_readings) := goodIn_app (goodIn_of _ (by decide +kernel)) ggL_law_X5_readings
set_option maxRecDepth 20000 in
theorem ggL_law_X4_readingsPlainly : GoodIn wsL_law wsX4_readingsPlainly := goodIn_r _ [306, 20, 33, 17, 19, 307, 32, 308, 309, 59, 310, 311, 312, 313, 248, 249, 250, 251, 16, 252, 253, 38, 39, 254, 255, 256, 40, 42, 257, 258, 259, 260, 45, 43, 41, 264, 2, 265, 266, 267, 268, 269, 521, 522, 523, 524, 525, 526, 527, 553, 543, 544, 545, 546, 547, 548, 549, 550] (by decide +kernel) (by decide +kernel)
set_option maxRecDepth 20000 in
theorem gL_law_X4_readingsPlainly : GoodIn wsL_law (wsV RL 111 RX4 yX4_readingsPlainly wsX4_readingsPlainly) := goodIn_app (goodIn_of _ (by decide +kernel)) ggL_law_X4_readingsPlainly
set_option maxRecDepth 20000 in
theorem ggL_law_X5_readingsPlainly : GoodIn wsL_law wsX5_readingsPlainly := goodIn_r _ [317, 318, 271, 272, 5, 273, 115, 187, 274, 275, 276, 277, 73, 278, 279, 280, 281, 282, 283, 284, 71, 70, 285, 286, 287, 288, 64, 65, 161, 66, 67, 68, 289, 290, 291, 292, 293, 294, 295, 296, 297, 298, 299, 69, 300, 301, 302, 528, 529, 530, 531, 532, 533, 534, 535, 536, 537, 538, 539, 540, 541, 542] (by decide +kernel) (by decide +kernel)
set_option maxRecDepth 20000 in
theorem gL_law_X5_readingsPlainly : GoodIn wsL_law (wsV RL 114 RX5 yX5_readingsPlainly wsX5_readingsPlainly) := goodIn_app (goodIn_of _ (by decide +kernel)) ggL_law_X5_readingsPlainly
set_option maxRecDepth 20000 in
theorem ggL_law_L_readingsOf : GoodIn wsL_law wsL_readingsOf := goodIn_ca (goodIn_r _ [321, 123, 322, 323, 324, 2, 325, 128, 129, 326, 327, 328, 329, 20, 91, 92, 93, 234, 235, 236, 237, 29, 17, 19, 238, 28, 239, 240, 241, 242, 243, 244, 54, 245, 246, 247, 248, 249, 250, 251, 16, 252, 253, 38, 39, 254, 255, 256, 40, 42, 257, 258, 259, 260, 45, 43, 41, 261, 262, 263, 264, 265, 266, 267, 268, 269, 521, 522, 523, 524, 525, 526, 527, 552, 543, 544, 545, 546, 547, 548, 549, 550] (by decide +kernel) (by decide +kernel)) (goodIn_sub (fun _ h => List.mem_append_right _ h) (by decide +kernel))
set_option maxRecDepth 20000 in
theorem gL_law_L_readingsOf : GoodIn wsL_law (va_wsS RL 115 yL_readingsOf wsL_readingsOf) := goodIn_app (goodIn_of _ (by decide +kernel)) ggL_law_L_readingsOf
set_option maxRecDepth 20000 in
theorem ggL_law_X5_readingsOf : GoodIn wsL_law wsX5_readingsOf := goodIn_r _ [333, 334, 335, 336, 5, 337, 187, 108, 109, 110, 111, 112, 113, 114, 115, 274, 275, 276, 277, 73, 278, 279, 280, 281, 282, 283, 284, 71, 70, 285, 286, 287, 288, 64, 65, 161, 66, 67, 68, 289, 290, 291, 292, 293, 294, 295, 296, 297, 298, 299, 69, 300, 301, 302, 528, 529, 530, 531, 532, 533, 534, 535, 536, 537, 538, 539, 540, 541, 542] (by decide +kernel) (by decide +kernel)
set_option maxRecDepth 20000 in
theorem gL_law_X5_readingsOf : GoodIn wsL_law (wsV RL 117 RX5 yX5_readingsOf wsX5_readingsOf) := goodIn_app (goodIn_of _ (by decide +kernel)) ggL_law_X5_readingsOf
set_option maxRecDepth 20000 in
theorem ggL_law_L_has : GoodIn wsL_law wsL_has := goodIn_ca (goodIn_ca (goodIn_r _ [340, 123, 78, 341, 342, 343, 2, 344, 128, 129, 84, 85, 25, 17, 19, 20, 326, 327, 328, 329, 91, 92, 93, 145, 146, 147, 345, 24, 346, 347, 348, 349, 350, 351, 352, 353, 354, 355, 49, 245, 246, 356, 357, 358, 359, 360, 361, 362, 363, 364, 365, 366, 367, 368, 16, 369, 370, 45, 371, 372, 373, 374, 375, 94, 95, 96, 376, 521, 522, 523, 524, 525, 526, 527, 543, 544, 545, 546, 547, 548, 549, 550, 551] (by decide +kernel) (by decide +kernel)) (goodIn_sub (fun _ h => List.mem_append_right _ h) (by decide +kernel))) (goodIn_sub (fun _ h => List.mem_append_left _ (List.mem_append_left _ (List.mem_append_right _ h))) (by decide +kernel))
set_option maxRecDepth 20000 in
theorem gL_law_L_has : GoodIn wsL_law (va_wsS RL 118 yL_has wsL_has) := goodIn_app (goodIn_of _ (by decide +kernel)) ggL_law_L_has
set_option maxRecDepth 20000 in
theorem ggL_law_X5_has : GoodIn wsL_law wsX5_has := goodIn_r _ [380, 161, 72, 334, 335, 336, 5, 337, 187, 108, 109, 110, 162, 163, 164, 111, 112, 113, 114, 115, 280, 281, 282, 283, 284, 71, 70, 381, 382, 383, 384, 64, 65, 67, 68, 66, 289, 290, 291, 385, 386, 387, 388, 296, 297, 298, 299, 69, 300, 301, 302, 528, 529, 530, 531, 532, 533, 534, 535, 536, 537, 538, 539, 540, 541, 542] (by decide +kernel) (by decide +kernel)
set_option maxRecDepth 20000 in
theorem gL_law_X5_has : GoodIn wsL_law (wsV RL 120 RX5 yX5_has wsX5_has) := goodIn_app (goodIn_of _ (by decide +kernel)) ggL_law_X5_has
set_option maxRecDepth 20000 in
theorem ggL_law_X4_level : GoodIn wsL_law wsX4_level := goodIn_r _ [392, 17, 25, 19, 20, 345, 24, 346, 347, 348, 349, 350, 351, 352, 353, 354, 355, 49, 245, 2, 246, 356, 357, 358, 359, 360, 361, 362, 363, 364, 365, 366, 367, 368, 16, 369, 370, 45, 371, 372, 393, 394, 395, 396, 373, 374, 375, 521, 522, 523, 524, 525, 526, 527, 543, 544, 545, 546, 547, 548, 549, 550, 551] (by decide +kernel) (by decide +kernel)
set_option maxRecDepth 20000 in
theorem gL_law_X4_level : GoodIn wsL_law (wsV RL 121 RX4 yX4_level wsX4_level) := goodIn_app (goodIn_of _ (by decide +kernel)) ggL_law_X4_level
set_option maxRecDepth 20000 in
theorem ggL_law_X5_level : GoodIn wsL_law wsX5_level := goodIn_r _ [400, 115, 161, 284, 72, 280, 281, 282, 5, 283, 187, 71, 70, 381, 382, 383, 384, 64, 65, 67, 68, 66, 289, 290, 291, 385, 386, 387, 388, 296, 297, 298, 299, 69, 300, 301, 302, 528, 529, 530, 531, 532, 533, 534, 535, 536, 537, 538, 539, 540, 541, 542] (by decide +kernel) (by decide +kernel)
set_option maxRecDepth 20000 in
theorem gL_law_X5_level : GoodIn wsL_law (wsV RL 124 RX5 yX5_level wsX5_level) := goodIn_app (goodIn_of _ (by decide +kernel)) ggL_law_X5_level
set_option maxRecDepth 20000 in
theorem ggL_law_L_sentences : GoodIn wsL_law wsL_sentences := goodIn_ca (goodIn_r _ [403, 78, 404, 405, 406, 2, 407, 84, 85, 408, 409, 410, 411, 412, 413, 414, 17, 415, 416, 417, 418, 25, 21, 419, 420, 421, 422, 349, 24, 350, 351, 352, 353, 354, 355, 49, 245, 246, 356, 357, 358, 359, 361, 362, 363, 364, 365, 366, 367, 368, 16, 369, 370, 45, 371, 372, 393, 394, 395, 396, 373, 374, 375, 423, 424, 425, 426, 521, 522, 523, 524, 525, 526, 527, 543, 544, 545, 546, 547, 548, 549, 550, 551] (by decide +kernel) (by decide +kernel)) (goodIn_sub (fun _ h => List.mem_append_left _ (List.mem_append_left _ (List.mem_append_right _ h))) (by decide +kernel))
set_option maxRecDepth 20000 in
theorem gL_law_L_sentences : GoodIn wsL_law (va_wsS RL 125 yL_sentences wsL_sentences) := goodIn_app (goodIn_of _ (by decide +kernel)) ggL_law_L_sentences
set_option maxRecDepth 20000 in
theorem ggL_law_X5_sentences : GoodIn wsL_law wsX5_sentences := goodIn_r _ [430, 431, 432, 5, 433, 111, 112, 113, 114, 115, 434, 435, 436, 437, 438, 439, 440, 441, 104, 442, 443, 444, 445, 284, 71, 446, 447, 448, 449, 161, 72, 381, 382, 383, 384, 64, 65, 67, 68, 66, 289, 290, 291, 385, 386, 387, 388, 296, 297, 298, 299, 69, 300, 301, 302, 528, 529, 530, 531, 532, 533, 534, 535, 536, 537, 538, 539, 540, 541, 542] (by decide +kernel) (by decide +kernel)
set_option maxRecDepth 20000 in
theorem gL_law_X5_sentences : GoodIn wsL_law (wsV RL 127 RX5 yX5_sentences wsX5_sentences) := goodIn_app (goodIn_of _ (by decide +kernel)) ggL_law_X5_sentences
set_option maxRecDepth 20000 in
theorem ggL_law_L_sentence : GoodIn wsL_law wsL_sentence := goodIn_ca (goodIn_r _ [452, 78, 453, 454, 455, 2, 456, 84, 85, 408, 409, 410, 415, 416, 417, 418, 25, 17, 21, 411, 412, 413, 414, 419, 420, 421, 422, 349, 24, 350, 351, 352, 353, 354, 355, 49, 245, 246, 356, 357, 358, 359, 361, 362, 363, 364, 365, 366, 367, 368, 16, 369, 370, 45, 371, 372, 393, 394, 395, 396, 373, 374, 375, 423, 424, 425, 426, 457, 458, 459, 460, 521, 522, 523, 524, 525, 526, 527, 543, 544, 545, 546, 547, 548, 549, 550, 551] (by decide +kernel) (by decide +kernel)) (goodIn_sub (fun _ h => List.mem_append_left _ (List.mem_append_left _ (List.mem_append_right _ h))) (by decide +kernel))
set_option maxRecDepth 20000 in
theorem gL_law_L_sentence : GoodIn wsL_law (va_wsS RL 128 yL_sentence wsL_sentence) := goodIn_app (goodIn_of _ (by decide +kernel)) ggL_law_L_sentence
set_option maxRecDepth 20000 in
theorem ggL_law_X5_sentence : GoodIn wsL_law wsX5_sentence := goodIn_r _ [464, 71, 431, 432, 5, 433, 111, 112, 113, 114, 115, 438, 439, 440, 441, 104, 442, 443, 444, 445, 284, 446, 447, 448, 449, 161, 72, 381, 382, 383, 384, 64, 65, 67, 68, 66, 289, 290, 291, 385, 386, 387, 388, 296, 297, 298, 299, 69, 300, 301, 302, 528, 529, 530, 531, 532, 533, 534, 535, 536, 537, 538, 539, 540, 541, 542] (by decide +kernel) (by decide +kernel)
set_option maxRecDepth 20000 in
theorem gL_law_X5_sentence : GoodIn wsL_law (wsV RL 130 RX5 yX5_sentence wsX5_sentence) := goodIn_app (goodIn_of _ (by decide +kernel)) ggL_law_X5_sentence
set_option maxRecDepth 20000 in
theorem ggL_law_L_share : GoodIn wsL_law wsL_share := goodIn_ca (goodIn_r _ [467, 78, 468, 469, 470, 2, 471, 84, 85, 408, 409, 410, 411, 412, 413, 414, 17, 415, 416, 417, 418, 25, 21, 419, 420, 421, 422, 349, 24, 350, 351, 352, 353, 354, 355, 49, 245, 246, 356, 357, 358, 359, 361, 362, 363, 364, 365, 366, 367, 368, 16, 369, 370, 45, 371, 372, 393, 394, 395, 396, 373, 374, 375, 423, 424, 425, 426, 521, 522, 523, 524, 525, 526, 527, 543, 544, 545, 546, 547, 548, 549, 550, 551] (by decide +kernel) (by decide +kernel)) (goodIn_sub (fun _ h => List.mem_append_left _ (List.mem_append_left _ (List.mem_append_right _ h))) (by decide +kernel))
set_option maxRecDepth 20000 in
theorem gL_law_L_share : GoodIn wsL_law (va_wsS RL 131 yL_share wsL_share) := goodIn_app (goodIn_of _ (by decide +kernel)) ggL_law_L_share
set_option maxRecDepth 20000 in
theorem ggL_law_X5_share : GoodIn wsL_law wsX5_share := goodIn_r _ [475, 104, 431, 432, 5, 433, 111, 112, 113, 114, 115, 434, 435, 436, 437, 438, 439, 440, 441, 442, 443, 444, 445, 284, 71, 446, 447, 448, 449, 161, 72, 381, 382, 383, 384, 64, 65, 67, 68, 66, 289, 290, 291, 385, 386, 387, 388, 296, 297, 298, 299, 69, 300, 301, 302, 528, 529, 530, 531, 532, 533, 534, 535, 536, 537, 538, 539, 540, 541, 542] (by decide +kernel) (by decide +kernel)
set_option maxRecDepth 20000 in
theorem gL_law_X5_share : GoodIn wsL_law (wsV RL 134 RX5 yX5_share wsX5_share) := goodIn_app (goodIn_of _ (by decide +kernel)) ggL_law_X5_share
set_option maxRecDepth 20000 in
theorem ggL_law_L_spoil : GoodIn wsL_law wsL_spoil := goodIn_ca (goodIn_r _ [478, 123, 479, 480, 481, 2, 482, 128, 129, 20, 17, 19, 91, 92, 93, 483, 484, 485, 486, 25, 487, 24, 488, 489, 352, 353, 354, 355, 49, 245, 246, 356, 357, 358, 359, 349, 350, 351, 361, 362, 363, 364, 365, 366, 367, 368, 16, 369, 370, 45, 371, 372, 393, 394, 395, 396, 373, 374, 375, 490, 491, 492, 493, 21, 494, 495, 496, 497, 345, 346, 347, 348, 360, 521, 522, 523, 524, 525, 526, 527, 543, 544, 545, 546, 547, 548, 549, 550, 551] (by decide +kernel) (by decide +kernel)) (goodIn_sub (fun _ h => List.mem_append_right _ h) (by decide +kernel))
set_option maxRecDepth 20000 in
theorem gL_law_L_spoil : GoodIn wsL_law (va_wsS RL 135 yL_spoil wsL_spoil) := goodIn_app (goodIn_of _ (by decide +kernel)) ggL_law_L_spoil
set_option maxRecDepth 20000 in
theorem ggL_law_X5_spoil : GoodIn wsL_law wsX5_spoil := goodIn_r _ [501, 104, 70, 64, 71, 199, 200, 201, 5, 202, 187, 111, 112, 113, 114, 115, 280, 281, 282, 283, 284, 446, 447, 448, 449, 161, 72, 381, 382, 383, 384, 65, 67, 68, 66, 289, 290, 291, 385, 386, 387, 388, 296, 297, 298, 299, 69, 300, 301, 302, 528, 529, 530, 531, 532, 533, 534, 535, 536, 537, 538, 539, 540, 541, 542] (by decide +kernel) (by decide +kernel)
set_option maxRecDepth 20000 in
theorem gL_law_X5_spoil : GoodIn wsL_law (wsV RL 137 RX5 yX5_spoil wsX5_spoil) := goodIn_app (goodIn_of _ (by decide +kernel)) ggL_law_X5_spoil
set_option maxRecDepth 20000 in
theorem ggL_law_X4_changes : GoodIn wsL_law wsX4_changes := goodIn_r _ [505, 20, 483, 484, 485, 2, 486, 25, 17, 19, 487, 24, 488, 489, 352, 353, 354, 355, 49, 245, 246, 356, 357, 358, 359, 349, 350, 351, 361, 362, 363, 364, 365, 366, 367, 368, 16, 369, 370, 45, 371, 372, 393, 394, 395, 396, 373, 374, 375, 521, 522, 523, 524, 525, 526, 527, 543, 544, 545, 546, 547, 548, 549, 550, 551] (by decide +kernel) (by decide +kernel)
set_option maxRecDepth 20000 in
theorem gL_law_X4_changes : GoodIn wsL_law (wsV RL 138 RX4 yX4_changes wsX4_changes) := goodIn_app (goodIn_of _ (by decide +kernel)) ggL_law_X4_changes
set_option maxRecDepth 20000 in
theorem ggL_law_X5_changes : GoodIn wsL_law wsX5_changes := goodIn_r _ [509, 115, 187, 104, 71, 280, 281, 282, 5, 283, 284, 70, 446, 447, 448, 449, 161, 72, 381, 382, 383, 384, 64, 65, 67, 68, 66, 289, 290, 291, 385, 386, 387, 388, 296, 297, 298, 299, 69, 300, 301, 302, 528, 529, 530, 531, 532, 533, 534, 535, 536, 537, 538, 539, 540, 541, 542] (by decide +kernel) (by decide +kernel)
set_option maxRecDepth 20000 in
theorem gL_law_X5_changes : GoodIn wsL_law (wsV RL 141 RX5 yX5_changes wsX5_changes) := goodIn_app (goodIn_of _ (by decide +kernel)) ggL_law_X5_changes
set_option maxRecDepth 20000 in
theorem ggL_law_L_correction : GoodIn wsL_law wsL_correction := goodIn_ca (goodIn_r _ [512, 123, 513, 514, 515, 2, 516, 128, 129, 20, 17, 19, 490, 491, 492, 493, 21, 494, 495, 496, 497, 25, 345, 24, 346, 347, 348, 349, 350, 351, 352, 353, 354, 355, 49, 245, 246, 356, 357, 358, 359, 360, 361, 362, 363, 364, 365, 366, 367, 368, 16, 369, 370, 45, 371, 372, 393, 394, 395, 396, 373, 374, 375, 521, 522, 523, 524, 525, 526, 527, 543, 544, 545, 546, 547, 548, 549, 550, 551] (by decide +kernel) (by decide +kernel)) (goodIn_sub (fun _ h => List.mem_append_right _ h) (by decide +kernel))
set_option maxRecDepth 20000 in
theorem gL_law_L_correction : GoodIn wsL_law (va_wsS RL 142 yL_correction wsL_correction) := goodIn_app (goodIn_of _ (by decide +kernel)) ggL_law_L_correction
set_option maxRecDepth 20000 in
theorem ggL_law_X5_correction : GoodIn wsL_law wsX5_correction := goodIn_r _ [520, 187, 104, 71, 70, 111, 112, 113, 5, 114, 115, 280, 281, 282, 283, 284, 446, 447, 448, 449, 161, 72, 381, 382, 383, 384, 64, 65, 67, 68, 66, 289, 290, 291, 385, 386, 387, 388, 296, 297, 298, 299, 69, 300, 301, 302, 528, 529, 530, 531, 532, 533, 534, 535, 536, 537, 538, 539, 540, 541, 542] (by decide +kernel) (by decide +kernel)
set_option maxRecDepth 20000 in
theorem gL_law_X5_correction : GoodIn wsL_law (wsV RL 144 RX5 yX5_correction wsX5_correction) := goodIn_app (goodIn_of _ (by decide +kernel)) ggL_law_X5_correction
theorem dL_law_0 : decode cL_law 0 = .ok (.new 8, 3) := by decide +kernel
theorem dL_law_3 : decode cL_law 3 = .ok (.dup, 1) := by decide +kernel
theorem dL_law_4 : decode cL_law 4 = .ok (.invokespecial 64, 3) := by decide +kernel
theorem dL_law_7 : decode cL_law 7 = .ok (.astore_n 1, 1) := by decide +kernel
theorem dL_law_8 : decode cL_law 8 = .ok (.new 65, 3) := by decide +kernel
theorem dL_law_11 : decode cL_law 11 = .ok (.dup, 1) := by decide +kernel
theorem dL_law_12 : decode cL_law 12 = .ok (.invokespecial 67, 3) := by decide +kernel
theorem dL_law_15 : decode cL_law 15 = .ok (.astore_n 2, 1) := by decide +kernel
theorem dL_law_16 : decode cL_law 16 = .ok (.iconst 1, 1) := by decide +kernel
theorem dL_law_17 : decode cL_law 17 = .ok (.newarray .long, 2) := by decide +kernel
theorem dL_law_19 : decode cL_law 19 = .ok (.astore_n 3, 1) := by decide +kernel
theorem dL_law_20 : decode cL_law 20 = .ok (.iconst 1, 1) := by decide +kernel
theorem dL_law_21 : decode cL_law 21 = .ok (.newarray .double, 2) := by decide +kernel
theorem dL_law_23 : decode cL_law 23 = .ok (.astore 4, 2) := by decide +kernel
theorem dL_law_25 : decode cL_law 25 = .ok (.iconst 0, 1) := by decide +kernel
theorem dL_law_26 : decode cL_law 26 = .ok (.istore 5, 2) := by decide +kernel
theorem dL_law_28 : decode cL_law 28 = .ok (.iload 5, 2) := by decide +kernel
theorem dL_law_30 : decode cL_law 30 = .ok (.aload_n 0, 1) := by decide +kernel
theorem dL_law_31 : decode cL_law 31 = .ok (.arraylength, 1) := by decide +kernel
theorem dL_law_32 : decode cL_law 32 = .ok (.iconst 5, 1) := by decide +kernel
theorem dL_law_33 : decode cL_law 33 = .ok (.isub, 1) := by decide +kernel
theorem dL_law_34 : decode cL_law 34 = .ok (.if_icmp .gt 1171, 3) := by decide +kernel
theorem dL_law_37 : decode cL_law 37 = .ok (.aload_n 0, 1) := by decide +kernel
theorem dL_law_38 : decode cL_law 38 = .ok (.iload 5, 2) := by decide +kernel
theorem dL_law_40 : decode cL_law 40 = .ok (.iaload, 1) := by decide +kernel
theorem dL_law_41 : decode cL_law 41 = .ok (.bipush 31, 2) := by decide +kernel
theorem dL_law_43 : decode cL_law 43 = .ok (.iand, 1) := by decide +kernel
theorem dL_law_44 : decode cL_law 44 = .ok (.tableswitch 1155 0 19 #[96, 176, 268, 360, 404, 460, 528, 541, 554, 610, 623, 636, 716, 815, 828, 884, 952, 1030, 1086, 1099], 96) := by decide +kernel
theorem dL_law_140 : decode cL_law 140 = .ok (.aload_n 1, 1) := by decide +kernel
theorem dL_law_141 : decode cL_law 141 = .ok (.aload_n 0, 1) := by decide +kernel
theorem dL_law_142 : decode cL_law 142 = .ok (.iload 5, 2) := by decide +kernel
theorem dL_law_144 : decode cL_law 144 = .ok (.iconst 1, 1) := by decide +kernel
theorem dL_law_145 : decode cL_law 145 = .ok (.iadd, 1) := by decide +kernel
theorem dL_law_146 : decode cL_law 146 = .ok (.iaload, 1) := by decide +kernel
theorem dL_law_147 : decode cL_law 147 = .ok (.aload_n 0, 1) := by decide +kernel
theorem dL_law_148 : decode cL_law 148 = .ok (.iload 5, 2) := by decide +kernel
theorem dL_law_150 : decode cL_law 150 = .ok (.iconst 2, 1) := by decide +kernel
theorem dL_law_151 : decode cL_law 151 = .ok (.iadd, 1) := by decide +kernel
theorem dL_law_152 : decode cL_law 152 = .ok (.iaload, 1) := by decide +kernel
theorem dL_law_153 : decode cL_law 153 = .ok (.aload_n 0, 1) := by decide +kernel
theorem dL_law_154 : decode cL_law 154 = .ok (.iload 5, 2) := by decide +kernel
theorem dL_law_156 : decode cL_law 156 = .ok (.iconst 3, 1) := by decide +kernel
theorem dL_law_157 : decode cL_law 157 = .ok (.iadd, 1) := by decide +kernel
theorem dL_law_158 : decode cL_law 158 = .ok (.iaload, 1) := by decide +kernel
theorem dL_law_159 : decode cL_law 159 = .ok (.aload_n 3, 1) := by decide +kernel
theorem dL_law_160 : decode cL_law 160 = .ok (.invokestatic 68, 3) := by decide +kernel
theorem dL_law_163 : decode cL_law 163 = .ok (.istore 6, 2) := by decide +kernel
theorem dL_law_165 : decode cL_law 165 = .ok (.aload_n 2, 1) := by decide +kernel
theorem dL_law_166 : decode cL_law 166 = .ok (.aload_n 0, 1) := by decide +kernel
theorem dL_law_167 : decode cL_law 167 = .ok (.iload 5, 2) := by decide +kernel
theorem dL_law_169 : decode cL_law 169 = .ok (.iconst 1, 1) := by decide +kernel
theorem dL_law_170 : decode cL_law 170 = .ok (.iadd, 1) := by decide +kernel
theorem dL_law_171 : decode cL_law 171 = .ok (.iaload, 1) := by decide +kernel
theorem dL_law_172 : decode cL_law 172 = .ok (.aload_n 0, 1) := by decide +kernel
theorem dL_law_173 : decode cL_law 173 = .ok (.iload 5, 2) := by decide +kernel
theorem dL_law_175 : decode cL_law 175 = .ok (.iconst 2, 1) := by decide +kernel
theorem dL_law_176 : decode cL_law 176 = .ok (.iadd, 1) := by decide +kernel
theorem dL_law_177 : decode cL_law 177 = .ok (.iaload, 1) := by decide +kernel
theorem dL_law_178 : decode cL_law 178 = .ok (.aload_n 0, 1) := by decide +kernel
theorem dL_law_179 : decode cL_law 179 = .ok (.iload 5, 2) := by decide +kernel
theorem dL_law_181 : decode cL_law 181 = .ok (.iconst 3, 1) := by decide +kernel
theorem dL_law_182 : decode cL_law 182 = .ok (.iadd, 1) := by decide +kernel
theorem dL_law_183 : decode cL_law 183 = .ok (.iaload, 1) := by decide +kernel
theorem dL_law_184 : decode cL_law 184 = .ok (.invokevirtual 73, 3) := by decide +kernel
theorem dL_law_187 : decode cL_law 187 = .ok (.istore 7, 2) := by decide +kernel
theorem dL_law_189 : decode cL_law 189 = .ok (.aload_n 2, 1) := by decide +kernel
theorem dL_law_190 : decode cL_law 190 = .ok (.invokevirtual 74, 3) := by decide +kernel
theorem dL_law_193 : decode cL_law 193 = .ok (.iload 6, 2) := by decide +kernel
theorem dL_law_195 : decode cL_law 195 = .ok (.if_icmp .eq 5, 3) := by decide +kernel
theorem dL_law_198 : decode cL_law 198 = .ok (.iconst 0, 1) := by decide +kernel
theorem dL_law_199 : decode cL_law 199 = .ok (.ireturn, 1) := by decide +kernel
theorem dL_law_200 : decode cL_law 200 = .ok (.iload 6, 2) := by decide +kernel
theorem dL_law_202 : decode cL_law 202 = .ok (.ifCond .ne 15, 3) := by decide +kernel
theorem dL_law_205 : decode cL_law 205 = .ok (.aload_n 3, 1) := by decide +kernel
theorem dL_law_206 : decode cL_law 206 = .ok (.iconst 0, 1) := by decide +kernel
theorem dL_law_207 : decode cL_law 207 = .ok (.laload, 1) := by decide +kernel
theorem dL_law_208 : decode cL_law 208 = .ok (.iload 7, 2) := by decide +kernel
theorem dL_law_210 : decode cL_law 210 = .ok (.i2l, 1) := by decide +kernel
theorem dL_law_211 : decode cL_law 211 = .ok (.lcmp, 1) := by decide +kernel
theorem dL_law_212 : decode cL_law 212 = .ok (.ifCond .eq 5, 3) := by decide +kernel
theorem dL_law_215 : decode cL_law 215 = .ok (.iconst 0, 1) := by decide +kernel
theorem dL_law_216 : decode cL_law 216 = .ok (.ireturn, 1) := by decide +kernel
theorem dL_law_217 : decode cL_law 217 = .ok (.goto 982, 3) := by decide +kernel
theorem dL_law_220 : decode cL_law 220 = .ok (.aload_n 1, 1) := by decide +kernel
theorem dL_law_221 : decode cL_law 221 = .ok (.aload_n 0, 1) := by decide +kernel
theorem dL_law_222 : decode cL_law 222 = .ok (.iload 5, 2) := by decide +kernel
theorem dL_law_224 : decode cL_law 224 = .ok (.iconst 1, 1) := by decide +kernel
theorem dL_law_225 : decode cL_law 225 = .ok (.iadd, 1) := by decide +kernel
theorem dL_law_226 : decode cL_law 226 = .ok (.iaload, 1) := by decide +kernel
theorem dL_law_227 : decode cL_law 227 = .ok (.aload_n 0, 1) := by decide +kernel
theorem dL_law_228 : decode cL_law 228 = .ok (.iload 5, 2) := by decide +kernel
theorem dL_law_230 : decode cL_law 230 = .ok (.iconst 2, 1) := by decide +kernel
theorem dL_law_231 : decode cL_law 231 = .ok (.iadd, 1) := by decide +kernel
theorem dL_law_232 : decode cL_law 232 = .ok (.iaload, 1) := by decide +kernel
theorem dL_law_233 : decode cL_law 233 = .ok (.aload_n 0, 1) := by decide +kernel
theorem dL_law_234 : decode cL_law 234 = .ok (.iload 5, 2) := by decide +kernel
theorem dL_law_236 : decode cL_law 236 = .ok (.iconst 3, 1) := by decide +kernel
theorem dL_law_237 : decode cL_law 237 = .ok (.iadd, 1) := by decide +kernel
theorem dL_law_238 : decode cL_law 238 = .ok (.iaload, 1) := by decide +kernel
theorem dL_law_239 : decode cL_law 239 = .ok (.aload_n 0, 1) := by decide +kernel
theorem dL_law_240 : decode cL_law 240 = .ok (.iload 5, 2) := by decide +kernel
theorem dL_law_242 : decode cL_law 242 = .ok (.iconst 4, 1) := by decide +kernel
theorem dL_law_243 : decode cL_law 243 = .ok (.iadd, 1) := by decide +kernel
theorem dL_law_244 : decode cL_law 244 = .ok (.iaload, 1) := by decide +kernel
theorem dL_law_245 : decode cL_law 245 = .ok (.aload_n 3, 1) := by decide +kernel
theorem dL_law_246 : decode cL_law 246 = .ok (.invokestatic 77, 3) := by decide +kernel
theorem dL_law_249 : decode cL_law 249 = .ok (.istore 6, 2) := by decide +kernel
theorem dL_law_251 : decode cL_law 251 = .ok (.aload_n 2, 1) := by decide +kernel
theorem dL_law_252 : decode cL_law 252 = .ok (.aload_n 0, 1) := by decide +kernel
theorem dL_law_253 : decode cL_law 253 = .ok (.iload 5, 2) := by decide +kernel
theorem dL_law_255 : decode cL_law 255 = .ok (.iconst 1, 1) := by decide +kernel
theorem dL_law_256 : decode cL_law 256 = .ok (.iadd, 1) := by decide +kernel
theorem dL_law_257 : decode cL_law 257 = .ok (.iaload, 1) := by decide +kernel
theorem dL_law_258 : decode cL_law 258 = .ok (.aload_n 0, 1) := by decide +kernel
theorem dL_law_259 : decode cL_law 259 = .ok (.iload 5, 2) := by decide +kernel
theorem dL_law_261 : decode cL_law 261 = .ok (.iconst 2, 1) := by decide +kernel
theorem dL_law_262 : decode cL_law 262 = .ok (.iadd, 1) := by decide +kernel
theorem dL_law_263 : decode cL_law 263 = .ok (.iaload, 1) := by decide +kernel
theorem dL_law_264 : decode cL_law 264 = .ok (.aload_n 0, 1) := by decide +kernel
theorem dL_law_265 : decode cL_law 265 = .ok (.iload 5, 2) := by decide +kernel
theorem dL_law_267 : decode cL_law 267 = .ok (.iconst 3, 1) := by decide +kernel
theorem dL_law_268 : decode cL_law 268 = .ok (.iadd, 1) := by decide +kernel
theorem dL_law_269 : decode cL_law 269 = .ok (.iaload, 1) := by decide +kernel
theorem dL_law_270 : decode cL_law 270 = .ok (.aload_n 0, 1) := by decide +kernel
theorem dL_law_271 : decode cL_law 271 = .ok (.iload 5, 2) := by decide +kernel
theorem dL_law_273 : decode cL_law 273 = .ok (.iconst 4, 1) := by decide +kernel
theorem dL_law_274 : decode cL_law 274 = .ok (.iadd, 1) := by decide +kernel
theorem dL_law_275 : decode cL_law 275 = .ok (.iaload, 1) := by decide +kernel
theorem dL_law_276 : decode cL_law 276 = .ok (.invokevirtual 80, 3) := by decide +kernel
theorem dL_law_279 : decode cL_law 279 = .ok (.istore 7, 2) := by decide +kernel
theorem dL_law_281 : decode cL_law 281 = .ok (.aload_n 2, 1) := by decide +kernel
theorem dL_law_282 : decode cL_law 282 = .ok (.invokevirtual 74, 3) := by decide +kernel
theorem dL_law_285 : decode cL_law 285 = .ok (.iload 6, 2) := by decide +kernel
theorem dL_law_287 : decode cL_law 287 = .ok (.if_icmp .eq 5, 3) := by decide +kernel
theorem dL_law_290 : decode cL_law 290 = .ok (.iconst 0, 1) := by decide +kernel
theorem dL_law_291 : decode cL_law 291 = .ok (.ireturn, 1) := by decide +kernel
theorem dL_law_292 : decode cL_law 292 = .ok (.iload 6, 2) := by decide +kernel
theorem dL_law_294 : decode cL_law 294 = .ok (.ifCond .ne 15, 3) := by decide +kernel
theorem dL_law_297 : decode cL_law 297 = .ok (.aload_n 3, 1) := by decide +kernel
theorem dL_law_298 : decode cL_law 298 = .ok (.iconst 0, 1) := by decide +kernel
theorem dL_law_299 : decode cL_law 299 = .ok (.laload, 1) := by decide +kernel
theorem dL_law_300 : decode cL_law 300 = .ok (.iload 7, 2) := by decide +kernel
theorem dL_law_302 : decode cL_law 302 = .ok (.i2l, 1) := by decide +kernel
theorem dL_law_303 : decode cL_law 303 = .ok (.lcmp, 1) := by decide +kernel
theorem dL_law_304 : decode cL_law 304 = .ok (.ifCond .eq 5, 3) := by decide +kernel
theorem dL_law_307 : decode cL_law 307 = .ok (.iconst 0, 1) := by decide +kernel
theorem dL_law_308 : decode cL_law 308 = .ok (.ireturn, 1) := by decide +kernel
theorem dL_law_309 : decode cL_law 309 = .ok (.goto 890, 3) := by decide +kernel
theorem dL_law_312 : decode cL_law 312 = .ok (.aload_n 1, 1) := by decide +kernel
theorem dL_law_313 : decode cL_law 313 = .ok (.aload_n 0, 1) := by decide +kernel
theorem dL_law_314 : decode cL_law 314 = .ok (.iload 5, 2) := by decide +kernel
theorem dL_law_316 : decode cL_law 316 = .ok (.iconst 1, 1) := by decide +kernel
theorem dL_law_317 : decode cL_law 317 = .ok (.iadd, 1) := by decide +kernel
theorem dL_law_318 : decode cL_law 318 = .ok (.iaload, 1) := by decide +kernel
theorem dL_law_319 : decode cL_law 319 = .ok (.aload_n 0, 1) := by decide +kernel
theorem dL_law_320 : decode cL_law 320 = .ok (.iload 5, 2) := by decide +kernel
theorem dL_law_322 : decode cL_law 322 = .ok (.iconst 2, 1) := by decide +kernel
theorem dL_law_323 : decode cL_law 323 = .ok (.iadd, 1) := by decide +kernel
theorem dL_law_324 : decode cL_law 324 = .ok (.iaload, 1) := by decide +kernel
theorem dL_law_325 : decode cL_law 325 = .ok (.aload_n 0, 1) := by decide +kernel
theorem dL_law_326 : decode cL_law 326 = .ok (.iload 5, 2) := by decide +kernel
theorem dL_law_328 : decode cL_law 328 = .ok (.iconst 3, 1) := by decide +kernel
theorem dL_law_329 : decode cL_law 329 = .ok (.iadd, 1) := by decide +kernel
theorem dL_law_330 : decode cL_law 330 = .ok (.iaload, 1) := by decide +kernel
theorem dL_law_331 : decode cL_law 331 = .ok (.aload_n 0, 1) := by decide +kernel
theorem dL_law_332 : decode cL_law 332 = .ok (.iload 5, 2) := by decide +kernel
theorem dL_law_334 : decode cL_law 334 = .ok (.iconst 4, 1) := by decide +kernel
theorem dL_law_335 : decode cL_law 335 = .ok (.iadd, 1) := by decide +kernel
theorem dL_law_336 : decode cL_law 336 = .ok (.iaload, 1) := by decide +kernel
theorem dL_law_337 : decode cL_law 337 = .ok (.aload_n 3, 1) := by decide +kernel
theorem dL_law_338 : decode cL_law 338 = .ok (.invokestatic 81, 3) := by decide +kernel
theorem dL_law_341 : decode cL_law 341 = .ok (.istore 6, 2) := by decide +kernel
theorem dL_law_343 : decode cL_law 343 = .ok (.aload_n 2, 1) := by decide +kernel
theorem dL_law_344 : decode cL_law 344 = .ok (.aload_n 0, 1) := by decide +kernel
theorem dL_law_345 : decode cL_law 345 = .ok (.iload 5, 2) := by decide +kernel
theorem dL_law_347 : decode cL_law 347 = .ok (.iconst 1, 1) := by decide +kernel
theorem dL_law_348 : decode cL_law 348 = .ok (.iadd, 1) := by decide +kernel
theorem dL_law_349 : decode cL_law 349 = .ok (.iaload, 1) := by decide +kernel
theorem dL_law_350 : decode cL_law 350 = .ok (.aload_n 0, 1) := by decide +kernel
theorem dL_law_351 : decode cL_law 351 = .ok (.iload 5, 2) := by decide +kernel
theorem dL_law_353 : decode cL_law 353 = .ok (.iconst 2, 1) := by decide +kernel
theorem dL_law_354 : decode cL_law 354 = .ok (.iadd, 1) := by decide +kernel
theorem dL_law_355 : decode cL_law 355 = .ok (.iaload, 1) := by decide +kernel
theorem dL_law_356 : decode cL_law 356 = .ok (.aload_n 0, 1) := by decide +kernel
theorem dL_law_357 : decode cL_law 357 = .ok (.iload 5, 2) := by decide +kernel
theorem dL_law_359 : decode cL_law 359 = .ok (.iconst 3, 1) := by decide +kernel
theorem dL_law_360 : decode cL_law 360 = .ok (.iadd, 1) := by decide +kernel
theorem dL_law_361 : decode cL_law 361 = .ok (.iaload, 1) := by decide +kernel
theorem dL_law_362 : decode cL_law 362 = .ok (.aload_n 0, 1) := by decide +kernel
theorem dL_law_363 : decode cL_law 363 = .ok (.iload 5, 2) := by decide +kernel
theorem dL_law_365 : decode cL_law 365 = .ok (.iconst 4, 1) := by decide +kernel
theorem dL_law_366 : decode cL_law 366 = .ok (.iadd, 1) := by decide +kernel
theorem dL_law_367 : decode cL_law 367 = .ok (.iaload, 1) := by decide +kernel
theorem dL_law_368 : decode cL_law 368 = .ok (.invokevirtual 83, 3) := by decide +kernel
theorem dL_law_371 : decode cL_law 371 = .ok (.istore 7, 2) := by decide +kernel
theorem dL_law_373 : decode cL_law 373 = .ok (.aload_n 2, 1) := by decide +kernel
theorem dL_law_374 : decode cL_law 374 = .ok (.invokevirtual 74, 3) := by decide +kernel
theorem dL_law_377 : decode cL_law 377 = .ok (.iload 6, 2) := by decide +kernel
theorem dL_law_379 : decode cL_law 379 = .ok (.if_icmp .eq 5, 3) := by decide +kernel
theorem dL_law_382 : decode cL_law 382 = .ok (.iconst 0, 1) := by decide +kernel
theorem dL_law_383 : decode cL_law 383 = .ok (.ireturn, 1) := by decide +kernel
theorem dL_law_384 : decode cL_law 384 = .ok (.iload 6, 2) := by decide +kernel
theorem dL_law_386 : decode cL_law 386 = .ok (.ifCond .ne 15, 3) := by decide +kernel
theorem dL_law_389 : decode cL_law 389 = .ok (.aload_n 3, 1) := by decide +kernel
theorem dL_law_390 : decode cL_law 390 = .ok (.iconst 0, 1) := by decide +kernel
theorem dL_law_391 : decode cL_law 391 = .ok (.laload, 1) := by decide +kernel
theorem dL_law_392 : decode cL_law 392 = .ok (.iload 7, 2) := by decide +kernel
theorem dL_law_394 : decode cL_law 394 = .ok (.i2l, 1) := by decide +kernel
theorem dL_law_395 : decode cL_law 395 = .ok (.lcmp, 1) := by decide +kernel
theorem dL_law_396 : decode cL_law 396 = .ok (.ifCond .eq 5, 3) := by decide +kernel
theorem dL_law_399 : decode cL_law 399 = .ok (.iconst 0, 1) := by decide +kernel
theorem dL_law_400 : decode cL_law 400 = .ok (.ireturn, 1) := by decide +kernel
theorem dL_law_401 : decode cL_law 401 = .ok (.goto 798, 3) := by decide +kernel
theorem dL_law_404 : decode cL_law 404 = .ok (.aload_n 1, 1) := by decide +kernel
theorem dL_law_405 : decode cL_law 405 = .ok (.aload_n 3, 1) := by decide +kernel
theorem dL_law_406 : decode cL_law 406 = .ok (.invokestatic 84, 3) := by decide +kernel
theorem dL_law_409 : decode cL_law 409 = .ok (.istore 6, 2) := by decide +kernel
theorem dL_law_411 : decode cL_law 411 = .ok (.aload_n 2, 1) := by decide +kernel
theorem dL_law_412 : decode cL_law 412 = .ok (.invokevirtual 87, 3) := by decide +kernel
theorem dL_law_415 : decode cL_law 415 = .ok (.istore 7, 2) := by decide +kernel
theorem dL_law_417 : decode cL_law 417 = .ok (.aload_n 2, 1) := by decide +kernel
theorem dL_law_418 : decode cL_law 418 = .ok (.invokevirtual 74, 3) := by decide +kernel
theorem dL_law_421 : decode cL_law 421 = .ok (.iload 6, 2) := by decide +kernel
theorem dL_law_423 : decode cL_law 423 = .ok (.if_icmp .eq 5, 3) := by decide +kernel
theorem dL_law_426 : decode cL_law 426 = .ok (.iconst 0, 1) := by decide +kernel
theorem dL_law_427 : decode cL_law 427 = .ok (.ireturn, 1) := by decide +kernel
theorem dL_law_428 : decode cL_law 428 = .ok (.iload 6, 2) := by decide +kernel
theorem dL_law_430 : decode cL_law 430 = .ok (.ifCond .ne 15, 3) := by decide +kernel
theorem dL_law_433 : decode cL_law 433 = .ok (.aload_n 3, 1) := by decide +kernel
theorem dL_law_434 : decode cL_law 434 = .ok (.iconst 0, 1) := by decide +kernel
theorem dL_law_435 : decode cL_law 435 = .ok (.laload, 1) := by decide +kernel
theorem dL_law_436 : decode cL_law 436 = .ok (.iload 7, 2) := by decide +kernel
theorem dL_law_438 : decode cL_law 438 = .ok (.i2l, 1) := by decide +kernel
theorem dL_law_439 : decode cL_law 439 = .ok (.lcmp, 1) := by decide +kernel
theorem dL_law_440 : decode cL_law 440 = .ok (.ifCond .eq 5, 3) := by decide +kernel
theorem dL_law_443 : decode cL_law 443 = .ok (.iconst 0, 1) := by decide +kernel
theorem dL_law_444 : decode cL_law 444 = .ok (.ireturn, 1) := by decide +kernel
theorem dL_law_445 : decode cL_law 445 = .ok (.goto 754, 3) := by decide +kernel
theorem dL_law_448 : decode cL_law 448 = .ok (.aload_n 1, 1) := by decide +kernel
theorem dL_law_449 : decode cL_law 449 = .ok (.aload_n 0, 1) := by decide +kernel
theorem dL_law_450 : decode cL_law 450 = .ok (.iload 5, 2) := by decide +kernel
theorem dL_law_452 : decode cL_law 452 = .ok (.iconst 1, 1) := by decide +kernel
theorem dL_law_453 : decode cL_law 453 = .ok (.iadd, 1) := by decide +kernel
theorem dL_law_454 : decode cL_law 454 = .ok (.iaload, 1) := by decide +kernel
theorem dL_law_455 : decode cL_law 455 = .ok (.aload_n 3, 1) := by decide +kernel
theorem dL_law_456 : decode cL_law 456 = .ok (.invokestatic 88, 3) := by decide +kernel
theorem dL_law_459 : decode cL_law 459 = .ok (.istore 6, 2) := by decide +kernel
theorem dL_law_461 : decode cL_law 461 = .ok (.aload_n 2, 1) := by decide +kernel
theorem dL_law_462 : decode cL_law 462 = .ok (.aload_n 0, 1) := by decide +kernel
theorem dL_law_463 : decode cL_law 463 = .ok (.iload 5, 2) := by decide +kernel
theorem dL_law_465 : decode cL_law 465 = .ok (.iconst 1, 1) := by decide +kernel
theorem dL_law_466 : decode cL_law 466 = .ok (.iadd, 1) := by decide +kernel
theorem dL_law_467 : decode cL_law 467 = .ok (.iaload, 1) := by decide +kernel
theorem dL_law_468 : decode cL_law 468 = .ok (.invokevirtual 91, 3) := by decide +kernel
theorem dL_law_471 : decode cL_law 471 = .ok (.istore 7, 2) := by decide +kernel
theorem dL_law_473 : decode cL_law 473 = .ok (.aload_n 2, 1) := by decide +kernel
theorem dL_law_474 : decode cL_law 474 = .ok (.invokevirtual 74, 3) := by decide +kernel
theorem dL_law_477 : decode cL_law 477 = .ok (.iload 6, 2) := by decide +kernel
theorem dL_law_479 : decode cL_law 479 = .ok (.if_icmp .eq 5, 3) := by decide +kernel
theorem dL_law_482 : decode cL_law 482 = .ok (.iconst 0, 1) := by decide +kernel
theorem dL_law_483 : decode cL_law 483 = .ok (.ireturn, 1) := by decide +kernel
theorem dL_law_484 : decode cL_law 484 = .ok (.iload 6, 2) := by decide +kernel
theorem dL_law_486 : decode cL_law 486 = .ok (.ifCond .ne 15, 3) := by decide +kernel
theorem dL_law_489 : decode cL_law 489 = .ok (.aload_n 3, 1) := by decide +kernel
theorem dL_law_490 : decode cL_law 490 = .ok (.iconst 0, 1) := by decide +kernel
theorem dL_law_491 : decode cL_law 491 = .ok (.laload, 1) := by decide +kernel
theorem dL_law_492 : decode cL_law 492 = .ok (.iload 7, 2) := by decide +kernel
theorem dL_law_494 : decode cL_law 494 = .ok (.i2l, 1) := by decide +kernel
theorem dL_law_495 : decode cL_law 495 = .ok (.lcmp, 1) := by decide +kernel
theorem dL_law_496 : decode cL_law 496 = .ok (.ifCond .eq 5, 3) := by decide +kernel
theorem dL_law_499 : decode cL_law 499 = .ok (.iconst 0, 1) := by decide +kernel
theorem dL_law_500 : decode cL_law 500 = .ok (.ireturn, 1) := by decide +kernel
theorem dL_law_501 : decode cL_law 501 = .ok (.goto 698, 3) := by decide +kernel
theorem dL_law_504 : decode cL_law 504 = .ok (.aload_n 1, 1) := by decide +kernel
theorem dL_law_505 : decode cL_law 505 = .ok (.aload_n 0, 1) := by decide +kernel
theorem dL_law_506 : decode cL_law 506 = .ok (.iload 5, 2) := by decide +kernel
theorem dL_law_508 : decode cL_law 508 = .ok (.iconst 1, 1) := by decide +kernel
theorem dL_law_509 : decode cL_law 509 = .ok (.iadd, 1) := by decide +kernel
theorem dL_law_510 : decode cL_law 510 = .ok (.iaload, 1) := by decide +kernel
theorem dL_law_511 : decode cL_law 511 = .ok (.aload_n 0, 1) := by decide +kernel
theorem dL_law_512 : decode cL_law 512 = .ok (.iload 5, 2) := by decide +kernel
theorem dL_law_514 : decode cL_law 514 = .ok (.iconst 2, 1) := by decide +kernel
theorem dL_law_515 : decode cL_law 515 = .ok (.iadd, 1) := by decide +kernel
theorem dL_law_516 : decode cL_law 516 = .ok (.iaload, 1) := by decide +kernel
theorem dL_law_517 : decode cL_law 517 = .ok (.aload_n 3, 1) := by decide +kernel
theorem dL_law_518 : decode cL_law 518 = .ok (.invokestatic 92, 3) := by decide +kernel
theorem dL_law_521 : decode cL_law 521 = .ok (.istore 6, 2) := by decide +kernel
theorem dL_law_523 : decode cL_law 523 = .ok (.aload_n 2, 1) := by decide +kernel
theorem dL_law_524 : decode cL_law 524 = .ok (.aload_n 0, 1) := by decide +kernel
theorem dL_law_525 : decode cL_law 525 = .ok (.iload 5, 2) := by decide +kernel
theorem dL_law_527 : decode cL_law 527 = .ok (.iconst 1, 1) := by decide +kernel
theorem dL_law_528 : decode cL_law 528 = .ok (.iadd, 1) := by decide +kernel
theorem dL_law_529 : decode cL_law 529 = .ok (.iaload, 1) := by decide +kernel
theorem dL_law_530 : decode cL_law 530 = .ok (.aload_n 0, 1) := by decide +kernel
theorem dL_law_531 : decode cL_law 531 = .ok (.iload 5, 2) := by decide +kernel
theorem dL_law_533 : decode cL_law 533 = .ok (.iconst 2, 1) := by decide +kernel
theorem dL_law_534 : decode cL_law 534 = .ok (.iadd, 1) := by decide +kernel
theorem dL_law_535 : decode cL_law 535 = .ok (.iaload, 1) := by decide +kernel
theorem dL_law_536 : decode cL_law 536 = .ok (.invokevirtual 95, 3) := by decide +kernel
theorem dL_law_539 : decode cL_law 539 = .ok (.istore 7, 2) := by decide +kernel
theorem dL_law_541 : decode cL_law 541 = .ok (.aload_n 2, 1) := by decide +kernel
theorem dL_law_542 : decode cL_law 542 = .ok (.invokevirtual 74, 3) := by decide +kernel
theorem dL_law_545 : decode cL_law 545 = .ok (.iload 6, 2) := by decide +kernel
theorem dL_law_547 : decode cL_law 547 = .ok (.if_icmp .eq 5, 3) := by decide +kernel
theorem dL_law_550 : decode cL_law 550 = .ok (.iconst 0, 1) := by decide +kernel
theorem dL_law_551 : decode cL_law 551 = .ok (.ireturn, 1) := by decide +kernel
theorem dL_law_552 : decode cL_law 552 = .ok (.iload 6, 2) := by decide +kernel
theorem dL_law_554 : decode cL_law 554 = .ok (.ifCond .ne 15, 3) := by decide +kernel
theorem dL_law_557 : decode cL_law 557 = .ok (.aload_n 3, 1) := by decide +kernel
theorem dL_law_558 : decode cL_law 558 = .ok (.iconst 0, 1) := by decide +kernel
theorem dL_law_559 : decode cL_law 559 = .ok (.laload, 1) := by decide +kernel
theorem dL_law_560 : decode cL_law 560 = .ok (.iload 7, 2) := by decide +kernel
theorem dL_law_562 : decode cL_law 562 = .ok (.i2l, 1) := by decide +kernel
theorem dL_law_563 : decode cL_law 563 = .ok (.lcmp, 1) := by decide +kernel
theorem dL_law_564 : decode cL_law 564 = .ok (.ifCond .eq 5, 3) := by decide +kernel
theorem dL_law_567 : decode cL_law 567 = .ok (.iconst 0, 1) := by decide +kernel
theorem dL_law_568 : decode cL_law 568 = .ok (.ireturn, 1) := by decide +kernel
theorem dL_law_569 : decode cL_law 569 = .ok (.goto 630, 3) := by decide +kernel
theorem dL_law_572 : decode cL_law 572 = .ok (.aload_n 1, 1) := by decide +kernel
theorem dL_law_573 : decode cL_law 573 = .ok (.invokevirtual 96, 3) := by decide +kernel
theorem dL_law_576 : decode cL_law 576 = .ok (.aload_n 2, 1) := by decide +kernel
theorem dL_law_577 : decode cL_law 577 = .ok (.invokevirtual 99, 3) := by decide +kernel
theorem dL_law_580 : decode cL_law 580 = .ok (.if_icmp .eq 619, 3) := by decide +kernel
theorem dL_law_583 : decode cL_law 583 = .ok (.iconst 0, 1) := by decide +kernel
theorem dL_law_584 : decode cL_law 584 = .ok (.ireturn, 1) := by decide +kernel
theorem dL_law_585 : decode cL_law 585 = .ok (.aload_n 1, 1) := by decide +kernel
theorem dL_law_586 : decode cL_law 586 = .ok (.invokevirtual 100, 3) := by decide +kernel
theorem dL_law_589 : decode cL_law 589 = .ok (.aload_n 2, 1) := by decide +kernel
theorem dL_law_590 : decode cL_law 590 = .ok (.invokevirtual 103, 3) := by decide +kernel
theorem dL_law_593 : decode cL_law 593 = .ok (.if_icmp .eq 606, 3) := by decide +kernel
theorem dL_law_596 : decode cL_law 596 = .ok (.iconst 0, 1) := by decide +kernel
theorem dL_law_597 : decode cL_law 597 = .ok (.ireturn, 1) := by decide +kernel
theorem dL_law_598 : decode cL_law 598 = .ok (.aload_n 1, 1) := by decide +kernel
theorem dL_law_599 : decode cL_law 599 = .ok (.aload_n 0, 1) := by decide +kernel
theorem dL_law_600 : decode cL_law 600 = .ok (.iload 5, 2) := by decide +kernel
theorem dL_law_602 : decode cL_law 602 = .ok (.iconst 1, 1) := by decide +kernel
theorem dL_law_603 : decode cL_law 603 = .ok (.iadd, 1) := by decide +kernel
theorem dL_law_604 : decode cL_law 604 = .ok (.iaload, 1) := by decide +kernel
theorem dL_law_605 : decode cL_law 605 = .ok (.aload_n 3, 1) := by decide +kernel
theorem dL_law_606 : decode cL_law 606 = .ok (.invokestatic 104, 3) := by decide +kernel
theorem dL_law_609 : decode cL_law 609 = .ok (.istore 6, 2) := by decide +kernel
theorem dL_law_611 : decode cL_law 611 = .ok (.aload_n 2, 1) := by decide +kernel
theorem dL_law_612 : decode cL_law 612 = .ok (.aload_n 0, 1) := by decide +kernel
theorem dL_law_613 : decode cL_law 613 = .ok (.iload 5, 2) := by decide +kernel
theorem dL_law_615 : decode cL_law 615 = .ok (.iconst 1, 1) := by decide +kernel
theorem dL_law_616 : decode cL_law 616 = .ok (.iadd, 1) := by decide +kernel
theorem dL_law_617 : decode cL_law 617 = .ok (.iaload, 1) := by decide +kernel
theorem dL_law_618 : decode cL_law 618 = .ok (.invokevirtual 106, 3) := by decide +kernel
theorem dL_law_621 : decode cL_law 621 = .ok (.istore 7, 2) := by decide +kernel
theorem dL_law_623 : decode cL_law 623 = .ok (.aload_n 2, 1) := by decide +kernel
theorem dL_law_624 : decode cL_law 624 = .ok (.invokevirtual 74, 3) := by decide +kernel
theorem dL_law_627 : decode cL_law 627 = .ok (.iload 6, 2) := by decide +kernel
theorem dL_law_629 : decode cL_law 629 = .ok (.if_icmp .eq 5, 3) := by decide +kernel
theorem dL_law_632 : decode cL_law 632 = .ok (.iconst 0, 1) := by decide +kernel
theorem dL_law_633 : decode cL_law 633 = .ok (.ireturn, 1) := by decide +kernel
theorem dL_law_634 : decode cL_law 634 = .ok (.iload 6, 2) := by decide +kernel
theorem dL_law_636 : decode cL_law 636 = .ok (.ifCond .ne 15, 3) := by decide +kernel
theorem dL_law_639 : decode cL_law 639 = .ok (.aload_n 3, 1) := by decide +kernel
theorem dL_law_640 : decode cL_law 640 = .ok (.iconst 0, 1) := by decide +kernel
theorem dL_law_641 : decode cL_law 641 = .ok (.laload, 1) := by decide +kernel
theorem dL_law_642 : decode cL_law 642 = .ok (.iload 7, 2) := by decide +kernel
theorem dL_law_644 : decode cL_law 644 = .ok (.i2l, 1) := by decide +kernel
theorem dL_law_645 : decode cL_law 645 = .ok (.lcmp, 1) := by decide +kernel
theorem dL_law_646 : decode cL_law 646 = .ok (.ifCond .eq 5, 3) := by decide +kernel
theorem dL_law_649 : decode cL_law 649 = .ok (.iconst 0, 1) := by decide +kernel
theorem dL_law_650 : decode cL_law 650 = .ok (.ireturn, 1) := by decide +kernel
theorem dL_law_651 : decode cL_law 651 = .ok (.goto 548, 3) := by decide +kernel
theorem dL_law_654 : decode cL_law 654 = .ok (.aload_n 1, 1) := by decide +kernel
theorem dL_law_655 : decode cL_law 655 = .ok (.invokevirtual 107, 3) := by decide +kernel
theorem dL_law_658 : decode cL_law 658 = .ok (.aload_n 2, 1) := by decide +kernel
theorem dL_law_659 : decode cL_law 659 = .ok (.invokevirtual 110, 3) := by decide +kernel
theorem dL_law_662 : decode cL_law 662 = .ok (.if_icmp .eq 537, 3) := by decide +kernel
theorem dL_law_665 : decode cL_law 665 = .ok (.iconst 0, 1) := by decide +kernel
theorem dL_law_666 : decode cL_law 666 = .ok (.ireturn, 1) := by decide +kernel
theorem dL_law_667 : decode cL_law 667 = .ok (.aload_n 1, 1) := by decide +kernel
theorem dL_law_668 : decode cL_law 668 = .ok (.invokevirtual 111, 3) := by decide +kernel
theorem dL_law_671 : decode cL_law 671 = .ok (.aload_n 2, 1) := by decide +kernel
theorem dL_law_672 : decode cL_law 672 = .ok (.invokevirtual 114, 3) := by decide +kernel
theorem dL_law_675 : decode cL_law 675 = .ok (.if_icmp .eq 524, 3) := by decide +kernel
theorem dL_law_678 : decode cL_law 678 = .ok (.iconst 0, 1) := by decide +kernel
theorem dL_law_679 : decode cL_law 679 = .ok (.ireturn, 1) := by decide +kernel
theorem dL_law_680 : decode cL_law 680 = .ok (.aload_n 1, 1) := by decide +kernel
theorem dL_law_681 : decode cL_law 681 = .ok (.aload_n 0, 1) := by decide +kernel
theorem dL_law_682 : decode cL_law 682 = .ok (.iload 5, 2) := by decide +kernel
theorem dL_law_684 : decode cL_law 684 = .ok (.iconst 1, 1) := by decide +kernel
theorem dL_law_685 : decode cL_law 685 = .ok (.iadd, 1) := by decide +kernel
theorem dL_law_686 : decode cL_law 686 = .ok (.iaload, 1) := by decide +kernel
theorem dL_law_687 : decode cL_law 687 = .ok (.aload_n 0, 1) := by decide +kernel
theorem dL_law_688 : decode cL_law 688 = .ok (.iload 5, 2) := by decide +kernel
theorem dL_law_690 : decode cL_law 690 = .ok (.iconst 2, 1) := by decide +kernel
theorem dL_law_691 : decode cL_law 691 = .ok (.iadd, 1) := by decide +kernel
theorem dL_law_692 : decode cL_law 692 = .ok (.iaload, 1) := by decide +kernel
theorem dL_law_693 : decode cL_law 693 = .ok (.aload_n 0, 1) := by decide +kernel
theorem dL_law_694 : decode cL_law 694 = .ok (.iload 5, 2) := by decide +kernel
theorem dL_law_696 : decode cL_law 696 = .ok (.iconst 3, 1) := by decide +kernel
theorem dL_law_697 : decode cL_law 697 = .ok (.iadd, 1) := by decide +kernel
theorem dL_law_698 : decode cL_law 698 = .ok (.iaload, 1) := by decide +kernel
theorem dL_law_699 : decode cL_law 699 = .ok (.aload_n 3, 1) := by decide +kernel
theorem dL_law_700 : decode cL_law 700 = .ok (.invokestatic 115, 3) := by decide +kernel
theorem dL_law_703 : decode cL_law 703 = .ok (.istore 6, 2) := by decide +kernel
theorem dL_law_705 : decode cL_law 705 = .ok (.aload_n 2, 1) := by decide +kernel
theorem dL_law_706 : decode cL_law 706 = .ok (.aload_n 0, 1) := by decide +kernel
theorem dL_law_707 : decode cL_law 707 = .ok (.iload 5, 2) := by decide +kernel
theorem dL_law_709 : decode cL_law 709 = .ok (.iconst 1, 1) := by decide +kernel
theorem dL_law_710 : decode cL_law 710 = .ok (.iadd, 1) := by decide +kernel
theorem dL_law_711 : decode cL_law 711 = .ok (.iaload, 1) := by decide +kernel
theorem dL_law_712 : decode cL_law 712 = .ok (.aload_n 0, 1) := by decide +kernel
theorem dL_law_713 : decode cL_law 713 = .ok (.iload 5, 2) := by decide +kernel
theorem dL_law_715 : decode cL_law 715 = .ok (.iconst 2, 1) := by decide +kernel
theorem dL_law_716 : decode cL_law 716 = .ok (.iadd, 1) := by decide +kernel
theorem dL_law_717 : decode cL_law 717 = .ok (.iaload, 1) := by decide +kernel
theorem dL_law_718 : decode cL_law 718 = .ok (.aload_n 0, 1) := by decide +kernel
theorem dL_law_719 : decode cL_law 719 = .ok (.iload 5, 2) := by decide +kernel
theorem dL_law_721 : decode cL_law 721 = .ok (.iconst 3, 1) := by decide +kernel
theorem dL_law_722 : decode cL_law 722 = .ok (.iadd, 1) := by decide +kernel
theorem dL_law_723 : decode cL_law 723 = .ok (.iaload, 1) := by decide +kernel
theorem dL_law_724 : decode cL_law 724 = .ok (.invokevirtual 117, 3) := by decide +kernel
theorem dL_law_727 : decode cL_law 727 = .ok (.istore 7, 2) := by decide +kernel
theorem dL_law_729 : decode cL_law 729 = .ok (.aload_n 2, 1) := by decide +kernel
theorem dL_law_730 : decode cL_law 730 = .ok (.invokevirtual 74, 3) := by decide +kernel
theorem dL_law_733 : decode cL_law 733 = .ok (.iload 6, 2) := by decide +kernel
theorem dL_law_735 : decode cL_law 735 = .ok (.if_icmp .eq 5, 3) := by decide +kernel
theorem dL_law_738 : decode cL_law 738 = .ok (.iconst 0, 1) := by decide +kernel
theorem dL_law_739 : decode cL_law 739 = .ok (.ireturn, 1) := by decide +kernel
theorem dL_law_740 : decode cL_law 740 = .ok (.iload 6, 2) := by decide +kernel
theorem dL_law_742 : decode cL_law 742 = .ok (.ifCond .ne 15, 3) := by decide +kernel
theorem dL_law_745 : decode cL_law 745 = .ok (.aload_n 3, 1) := by decide +kernel
theorem dL_law_746 : decode cL_law 746 = .ok (.iconst 0, 1) := by decide +kernel
theorem dL_law_747 : decode cL_law 747 = .ok (.laload, 1) := by decide +kernel
theorem dL_law_748 : decode cL_law 748 = .ok (.iload 7, 2) := by decide +kernel
theorem dL_law_750 : decode cL_law 750 = .ok (.i2l, 1) := by decide +kernel
theorem dL_law_751 : decode cL_law 751 = .ok (.lcmp, 1) := by decide +kernel
theorem dL_law_752 : decode cL_law 752 = .ok (.ifCond .eq 5, 3) := by decide +kernel
theorem dL_law_755 : decode cL_law 755 = .ok (.iconst 0, 1) := by decide +kernel
theorem dL_law_756 : decode cL_law 756 = .ok (.ireturn, 1) := by decide +kernel
theorem dL_law_757 : decode cL_law 757 = .ok (.goto 442, 3) := by decide +kernel
theorem dL_law_760 : decode cL_law 760 = .ok (.aload_n 1, 1) := by decide +kernel
theorem dL_law_761 : decode cL_law 761 = .ok (.aload_n 0, 1) := by decide +kernel
theorem dL_law_762 : decode cL_law 762 = .ok (.iload 5, 2) := by decide +kernel
theorem dL_law_764 : decode cL_law 764 = .ok (.iconst 1, 1) := by decide +kernel
theorem dL_law_765 : decode cL_law 765 = .ok (.iadd, 1) := by decide +kernel
theorem dL_law_766 : decode cL_law 766 = .ok (.iaload, 1) := by decide +kernel
theorem dL_law_767 : decode cL_law 767 = .ok (.aload_n 0, 1) := by decide +kernel
theorem dL_law_768 : decode cL_law 768 = .ok (.iload 5, 2) := by decide +kernel
theorem dL_law_770 : decode cL_law 770 = .ok (.iconst 2, 1) := by decide +kernel
theorem dL_law_771 : decode cL_law 771 = .ok (.iadd, 1) := by decide +kernel
theorem dL_law_772 : decode cL_law 772 = .ok (.iaload, 1) := by decide +kernel
theorem dL_law_773 : decode cL_law 773 = .ok (.aload_n 0, 1) := by decide +kernel
theorem dL_law_774 : decode cL_law 774 = .ok (.iload 5, 2) := by decide +kernel
theorem dL_law_776 : decode cL_law 776 = .ok (.iconst 3, 1) := by decide +kernel
theorem dL_law_777 : decode cL_law 777 = .ok (.iadd, 1) := by decide +kernel
theorem dL_law_778 : decode cL_law 778 = .ok (.iaload, 1) := by decide +kernel
theorem dL_law_779 : decode cL_law 779 = .ok (.aload_n 0, 1) := by decide +kernel
theorem dL_law_780 : decode cL_law 780 = .ok (.iload 5, 2) := by decide +kernel
theorem dL_law_782 : decode cL_law 782 = .ok (.iconst 4, 1) := by decide +kernel
theorem dL_law_783 : decode cL_law 783 = .ok (.iadd, 1) := by decide +kernel
theorem dL_law_784 : decode cL_law 784 = .ok (.iaload, 1) := by decide +kernel
theorem dL_law_785 : decode cL_law 785 = .ok (.aload_n 3, 1) := by decide +kernel
theorem dL_law_786 : decode cL_law 786 = .ok (.invokestatic 118, 3) := by decide +kernel
theorem dL_law_789 : decode cL_law 789 = .ok (.istore 6, 2) := by decide +kernel
theorem dL_law_791 : decode cL_law 791 = .ok (.aload_n 2, 1) := by decide +kernel
theorem dL_law_792 : decode cL_law 792 = .ok (.aload_n 0, 1) := by decide +kernel
theorem dL_law_793 : decode cL_law 793 = .ok (.iload 5, 2) := by decide +kernel
theorem dL_law_795 : decode cL_law 795 = .ok (.iconst 1, 1) := by decide +kernel
theorem dL_law_796 : decode cL_law 796 = .ok (.iadd, 1) := by decide +kernel
theorem dL_law_797 : decode cL_law 797 = .ok (.iaload, 1) := by decide +kernel
theorem dL_law_798 : decode cL_law 798 = .ok (.aload_n 0, 1) := by decide +kernel
theorem dL_law_799 : decode cL_law 799 = .ok (.iload 5, 2) := by decide +kernel
theorem dL_law_801 : decode cL_law 801 = .ok (.iconst 2, 1) := by decide +kernel
theorem dL_law_802 : decode cL_law 802 = .ok (.iadd, 1) := by decide +kernel
theorem dL_law_803 : decode cL_law 803 = .ok (.iaload, 1) := by decide +kernel
theorem dL_law_804 : decode cL_law 804 = .ok (.aload_n 0, 1) := by decide +kernel
theorem dL_law_805 : decode cL_law 805 = .ok (.iload 5, 2) := by decide +kernel
theorem dL_law_807 : decode cL_law 807 = .ok (.iconst 3, 1) := by decide +kernel
theorem dL_law_808 : decode cL_law 808 = .ok (.iadd, 1) := by decide +kernel
theorem dL_law_809 : decode cL_law 809 = .ok (.iaload, 1) := by decide +kernel
theorem dL_law_810 : decode cL_law 810 = .ok (.aload_n 0, 1) := by decide +kernel
theorem dL_law_811 : decode cL_law 811 = .ok (.iload 5, 2) := by decide +kernel
theorem dL_law_813 : decode cL_law 813 = .ok (.iconst 4, 1) := by decide +kernel
theorem dL_law_814 : decode cL_law 814 = .ok (.iadd, 1) := by decide +kernel
theorem dL_law_815 : decode cL_law 815 = .ok (.iaload, 1) := by decide +kernel
theorem dL_law_816 : decode cL_law 816 = .ok (.invokevirtual 120, 3) := by decide +kernel
theorem dL_law_819 : decode cL_law 819 = .ok (.istore 7, 2) := by decide +kernel
theorem dL_law_821 : decode cL_law 821 = .ok (.aload_n 2, 1) := by decide +kernel
theorem dL_law_822 : decode cL_law 822 = .ok (.invokevirtual 74, 3) := by decide +kernel
theorem dL_law_825 : decode cL_law 825 = .ok (.iload 6, 2) := by decide +kernel
theorem dL_law_827 : decode cL_law 827 = .ok (.if_icmp .eq 5, 3) := by decide +kernel
theorem dL_law_830 : decode cL_law 830 = .ok (.iconst 0, 1) := by decide +kernel
theorem dL_law_831 : decode cL_law 831 = .ok (.ireturn, 1) := by decide +kernel
theorem dL_law_832 : decode cL_law 832 = .ok (.iload 6, 2) := by decide +kernel
theorem dL_law_834 : decode cL_law 834 = .ok (.ifCond .ne 22, 3) := by decide +kernel
theorem dL_law_837 : decode cL_law 837 = .ok (.aload_n 3, 1) := by decide +kernel
theorem dL_law_838 : decode cL_law 838 = .ok (.iconst 0, 1) := by decide +kernel
theorem dL_law_839 : decode cL_law 839 = .ok (.laload, 1) := by decide +kernel
theorem dL_law_840 : decode cL_law 840 = .ok (.iload 7, 2) := by decide +kernel
theorem dL_law_842 : decode cL_law 842 = .ok (.ifCond .eq 7, 3) := by decide +kernel
theorem dL_law_845 : decode cL_law 845 = .ok (.lconst 1, 1) := by decide +kernel
theorem dL_law_846 : decode cL_law 846 = .ok (.goto 4, 3) := by decide +kernel
theorem dL_law_849 : decode cL_law 849 = .ok (.lconst 0, 1) := by decide +kernel
theorem dL_law_850 : decode cL_law 850 = .ok (.lcmp, 1) := by decide +kernel
theorem dL_law_851 : decode cL_law 851 = .ok (.ifCond .eq 5, 3) := by decide +kernel
theorem dL_law_854 : decode cL_law 854 = .ok (.iconst 0, 1) := by decide +kernel
theorem dL_law_855 : decode cL_law 855 = .ok (.ireturn, 1) := by decide +kernel
theorem dL_law_856 : decode cL_law 856 = .ok (.goto 343, 3) := by decide +kernel
theorem dL_law_859 : decode cL_law 859 = .ok (.aload_n 1, 1) := by decide +kernel
theorem dL_law_860 : decode cL_law 860 = .ok (.invokevirtual 121, 3) := by decide +kernel
theorem dL_law_863 : decode cL_law 863 = .ok (.aload_n 2, 1) := by decide +kernel
theorem dL_law_864 : decode cL_law 864 = .ok (.invokevirtual 124, 3) := by decide +kernel
theorem dL_law_867 : decode cL_law 867 = .ok (.if_icmp .eq 332, 3) := by decide +kernel
theorem dL_law_870 : decode cL_law 870 = .ok (.iconst 0, 1) := by decide +kernel
theorem dL_law_871 : decode cL_law 871 = .ok (.ireturn, 1) := by decide +kernel
theorem dL_law_872 : decode cL_law 872 = .ok (.aload_n 1, 1) := by decide +kernel
theorem dL_law_873 : decode cL_law 873 = .ok (.aload_n 0, 1) := by decide +kernel
theorem dL_law_874 : decode cL_law 874 = .ok (.iload 5, 2) := by decide +kernel
theorem dL_law_876 : decode cL_law 876 = .ok (.iconst 1, 1) := by decide +kernel
theorem dL_law_877 : decode cL_law 877 = .ok (.iadd, 1) := by decide +kernel
theorem dL_law_878 : decode cL_law 878 = .ok (.iaload, 1) := by decide +kernel
theorem dL_law_879 : decode cL_law 879 = .ok (.aload_n 3, 1) := by decide +kernel
theorem dL_law_880 : decode cL_law 880 = .ok (.invokestatic 125, 3) := by decide +kernel
theorem dL_law_883 : decode cL_law 883 = .ok (.istore 6, 2) := by decide +kernel
theorem dL_law_885 : decode cL_law 885 = .ok (.aload_n 2, 1) := by decide +kernel
theorem dL_law_886 : decode cL_law 886 = .ok (.aload_n 0, 1) := by decide +kernel
theorem dL_law_887 : decode cL_law 887 = .ok (.iload 5, 2) := by decide +kernel
theorem dL_law_889 : decode cL_law 889 = .ok (.iconst 1, 1) := by decide +kernel
theorem dL_law_890 : decode cL_law 890 = .ok (.iadd, 1) := by decide +kernel
theorem dL_law_891 : decode cL_law 891 = .ok (.iaload, 1) := by decide +kernel
theorem dL_law_892 : decode cL_law 892 = .ok (.invokevirtual 127, 3) := by decide +kernel
theorem dL_law_895 : decode cL_law 895 = .ok (.istore 7, 2) := by decide +kernel
theorem dL_law_897 : decode cL_law 897 = .ok (.aload_n 2, 1) := by decide +kernel
theorem dL_law_898 : decode cL_law 898 = .ok (.invokevirtual 74, 3) := by decide +kernel
theorem dL_law_901 : decode cL_law 901 = .ok (.iload 6, 2) := by decide +kernel
theorem dL_law_903 : decode cL_law 903 = .ok (.if_icmp .eq 5, 3) := by decide +kernel
theorem dL_law_906 : decode cL_law 906 = .ok (.iconst 0, 1) := by decide +kernel
theorem dL_law_907 : decode cL_law 907 = .ok (.ireturn, 1) := by decide +kernel
theorem dL_law_908 : decode cL_law 908 = .ok (.iload 6, 2) := by decide +kernel
theorem dL_law_910 : decode cL_law 910 = .ok (.ifCond .ne 15, 3) := by decide +kernel
theorem dL_law_913 : decode cL_law 913 = .ok (.aload_n 3, 1) := by decide +kernel
theorem dL_law_914 : decode cL_law 914 = .ok (.iconst 0, 1) := by decide +kernel
theorem dL_law_915 : decode cL_law 915 = .ok (.laload, 1) := by decide +kernel
theorem dL_law_916 : decode cL_law 916 = .ok (.iload 7, 2) := by decide +kernel
theorem dL_law_918 : decode cL_law 918 = .ok (.i2l, 1) := by decide +kernel
theorem dL_law_919 : decode cL_law 919 = .ok (.lcmp, 1) := by decide +kernel
theorem dL_law_920 : decode cL_law 920 = .ok (.ifCond .eq 5, 3) := by decide +kernel
theorem dL_law_923 : decode cL_law 923 = .ok (.iconst 0, 1) := by decide +kernel
theorem dL_law_924 : decode cL_law 924 = .ok (.ireturn, 1) := by decide +kernel
theorem dL_law_925 : decode cL_law 925 = .ok (.goto 274, 3) := by decide +kernel
theorem dL_law_928 : decode cL_law 928 = .ok (.aload_n 1, 1) := by decide +kernel
theorem dL_law_929 : decode cL_law 929 = .ok (.aload_n 0, 1) := by decide +kernel
theorem dL_law_930 : decode cL_law 930 = .ok (.iload 5, 2) := by decide +kernel
theorem dL_law_932 : decode cL_law 932 = .ok (.iconst 1, 1) := by decide +kernel
theorem dL_law_933 : decode cL_law 933 = .ok (.iadd, 1) := by decide +kernel
theorem dL_law_934 : decode cL_law 934 = .ok (.iaload, 1) := by decide +kernel
theorem dL_law_935 : decode cL_law 935 = .ok (.aload_n 0, 1) := by decide +kernel
theorem dL_law_936 : decode cL_law 936 = .ok (.iload 5, 2) := by decide +kernel
theorem dL_law_938 : decode cL_law 938 = .ok (.iconst 2, 1) := by decide +kernel
theorem dL_law_939 : decode cL_law 939 = .ok (.iadd, 1) := by decide +kernel
theorem dL_law_940 : decode cL_law 940 = .ok (.iaload, 1) := by decide +kernel
theorem dL_law_941 : decode cL_law 941 = .ok (.aload_n 3, 1) := by decide +kernel
theorem dL_law_942 : decode cL_law 942 = .ok (.invokestatic 128, 3) := by decide +kernel
theorem dL_law_945 : decode cL_law 945 = .ok (.istore 6, 2) := by decide +kernel
theorem dL_law_947 : decode cL_law 947 = .ok (.aload_n 2, 1) := by decide +kernel
theorem dL_law_948 : decode cL_law 948 = .ok (.aload_n 0, 1) := by decide +kernel
theorem dL_law_949 : decode cL_law 949 = .ok (.iload 5, 2) := by decide +kernel
theorem dL_law_951 : decode cL_law 951 = .ok (.iconst 1, 1) := by decide +kernel
theorem dL_law_952 : decode cL_law 952 = .ok (.iadd, 1) := by decide +kernel
theorem dL_law_953 : decode cL_law 953 = .ok (.iaload, 1) := by decide +kernel
theorem dL_law_954 : decode cL_law 954 = .ok (.aload_n 0, 1) := by decide +kernel
theorem dL_law_955 : decode cL_law 955 = .ok (.iload 5, 2) := by decide +kernel
theorem dL_law_957 : decode cL_law 957 = .ok (.iconst 2, 1) := by decide +kernel
theorem dL_law_958 : decode cL_law 958 = .ok (.iadd, 1) := by decide +kernel
theorem dL_law_959 : decode cL_law 959 = .ok (.iaload, 1) := by decide +kernel
theorem dL_law_960 : decode cL_law 960 = .ok (.invokevirtual 130, 3) := by decide +kernel
theorem dL_law_963 : decode cL_law 963 = .ok (.istore 7, 2) := by decide +kernel
theorem dL_law_965 : decode cL_law 965 = .ok (.aload_n 2, 1) := by decide +kernel
theorem dL_law_966 : decode cL_law 966 = .ok (.invokevirtual 74, 3) := by decide +kernel
theorem dL_law_969 : decode cL_law 969 = .ok (.iload 6, 2) := by decide +kernel
theorem dL_law_971 : decode cL_law 971 = .ok (.if_icmp .eq 5, 3) := by decide +kernel
theorem dL_law_974 : decode cL_law 974 = .ok (.iconst 0, 1) := by decide +kernel
theorem dL_law_975 : decode cL_law 975 = .ok (.ireturn, 1) := by decide +kernel
theorem dL_law_976 : decode cL_law 976 = .ok (.iload 6, 2) := by decide +kernel
theorem dL_law_978 : decode cL_law 978 = .ok (.ifCond .ne 15, 3) := by decide +kernel
theorem dL_law_981 : decode cL_law 981 = .ok (.aload_n 3, 1) := by decide +kernel
theorem dL_law_982 : decode cL_law 982 = .ok (.iconst 0, 1) := by decide +kernel
theorem dL_law_983 : decode cL_law 983 = .ok (.laload, 1) := by decide +kernel
theorem dL_law_984 : decode cL_law 984 = .ok (.iload 7, 2) := by decide +kernel
theorem dL_law_986 : decode cL_law 986 = .ok (.i2l, 1) := by decide +kernel
theorem dL_law_987 : decode cL_law 987 = .ok (.lcmp, 1) := by decide +kernel
theorem dL_law_988 : decode cL_law 988 = .ok (.ifCond .eq 5, 3) := by decide +kernel
theorem dL_law_991 : decode cL_law 991 = .ok (.iconst 0, 1) := by decide +kernel
theorem dL_law_992 : decode cL_law 992 = .ok (.ireturn, 1) := by decide +kernel
theorem dL_law_993 : decode cL_law 993 = .ok (.goto 206, 3) := by decide +kernel
theorem dL_law_996 : decode cL_law 996 = .ok (.aload_n 1, 1) := by decide +kernel
theorem dL_law_997 : decode cL_law 997 = .ok (.aload_n 0, 1) := by decide +kernel
theorem dL_law_998 : decode cL_law 998 = .ok (.iload 5, 2) := by decide +kernel
theorem dL_law_1000 : decode cL_law 1000 = .ok (.iconst 1, 1) := by decide +kernel
theorem dL_law_1001 : decode cL_law 1001 = .ok (.iadd, 1) := by decide +kernel
theorem dL_law_1002 : decode cL_law 1002 = .ok (.iaload, 1) := by decide +kernel
theorem dL_law_1003 : decode cL_law 1003 = .ok (.aload 4, 2) := by decide +kernel
theorem dL_law_1005 : decode cL_law 1005 = .ok (.invokestatic 131, 3) := by decide +kernel
theorem dL_law_1008 : decode cL_law 1008 = .ok (.istore 6, 2) := by decide +kernel
theorem dL_law_1010 : decode cL_law 1010 = .ok (.aload_n 2, 1) := by decide +kernel
theorem dL_law_1011 : decode cL_law 1011 = .ok (.aload_n 0, 1) := by decide +kernel
theorem dL_law_1012 : decode cL_law 1012 = .ok (.iload 5, 2) := by decide +kernel
theorem dL_law_1014 : decode cL_law 1014 = .ok (.iconst 1, 1) := by decide +kernel
theorem dL_law_1015 : decode cL_law 1015 = .ok (.iadd, 1) := by decide +kernel
theorem dL_law_1016 : decode cL_law 1016 = .ok (.iaload, 1) := by decide +kernel
theorem dL_law_1017 : decode cL_law 1017 = .ok (.invokevirtual 134, 3) := by decide +kernel
theorem dL_law_1020 : decode cL_law 1020 = .ok (.fstore 7, 2) := by decide +kernel
theorem dL_law_1022 : decode cL_law 1022 = .ok (.aload_n 2, 1) := by decide +kernel
theorem dL_law_1023 : decode cL_law 1023 = .ok (.invokevirtual 74, 3) := by decide +kernel
theorem dL_law_1026 : decode cL_law 1026 = .ok (.iload 6, 2) := by decide +kernel
theorem dL_law_1028 : decode cL_law 1028 = .ok (.if_icmp .eq 5, 3) := by decide +kernel
theorem dL_law_1031 : decode cL_law 1031 = .ok (.iconst 0, 1) := by decide +kernel
theorem dL_law_1032 : decode cL_law 1032 = .ok (.ireturn, 1) := by decide +kernel
theorem dL_law_1033 : decode cL_law 1033 = .ok (.iload 6, 2) := by decide +kernel
theorem dL_law_1035 : decode cL_law 1035 = .ok (.ifCond .ne 36, 3) := by decide +kernel
theorem dL_law_1038 : decode cL_law 1038 = .ok (.aload 4, 2) := by decide +kernel
theorem dL_law_1040 : decode cL_law 1040 = .ok (.iconst 0, 1) := by decide +kernel
theorem dL_law_1041 : decode cL_law 1041 = .ok (.daload, 1) := by decide +kernel
theorem dL_law_1042 : decode cL_law 1042 = .ok (.fload 7, 2) := by decide +kernel
theorem dL_law_1044 : decode cL_law 1044 = .ok (.f2d, 1) := by decide +kernel
theorem dL_law_1045 : decode cL_law 1045 = .ok (.dcmp .l, 1) := by decide +kernel
theorem dL_law_1046 : decode cL_law 1046 = .ok (.ifCond .eq 25, 3) := by decide +kernel
theorem dL_law_1049 : decode cL_law 1049 = .ok (.aload 4, 2) := by decide +kernel
theorem dL_law_1051 : decode cL_law 1051 = .ok (.iconst 0, 1) := by decide +kernel
theorem dL_law_1052 : decode cL_law 1052 = .ok (.daload, 1) := by decide +kernel
theorem dL_law_1053 : decode cL_law 1053 = .ok (.aload 4, 2) := by decide +kernel
theorem dL_law_1055 : decode cL_law 1055 = .ok (.iconst 0, 1) := by decide +kernel
theorem dL_law_1056 : decode cL_law 1056 = .ok (.daload, 1) := by decide +kernel
theorem dL_law_1057 : decode cL_law 1057 = .ok (.dcmp .l, 1) := by decide +kernel
theorem dL_law_1058 : decode cL_law 1058 = .ok (.ifCond .eq 11, 3) := by decide +kernel
theorem dL_law_1061 : decode cL_law 1061 = .ok (.fload 7, 2) := by decide +kernel
theorem dL_law_1063 : decode cL_law 1063 = .ok (.fload 7, 2) := by decide +kernel
theorem dL_law_1065 : decode cL_law 1065 = .ok (.fcmp .l, 1) := by decide +kernel
theorem dL_law_1066 : decode cL_law 1066 = .ok (.ifCond .ne 5, 3) := by decide +kernel
theorem dL_law_1069 : decode cL_law 1069 = .ok (.iconst 0, 1) := by decide +kernel
theorem dL_law_1070 : decode cL_law 1070 = .ok (.ireturn, 1) := by decide +kernel
theorem dL_law_1071 : decode cL_law 1071 = .ok (.goto 128, 3) := by decide +kernel
theorem dL_law_1074 : decode cL_law 1074 = .ok (.aload_n 1, 1) := by decide +kernel
theorem dL_law_1075 : decode cL_law 1075 = .ok (.aload_n 0, 1) := by decide +kernel
theorem dL_law_1076 : decode cL_law 1076 = .ok (.iload 5, 2) := by decide +kernel
theorem dL_law_1078 : decode cL_law 1078 = .ok (.iconst 1, 1) := by decide +kernel
theorem dL_law_1079 : decode cL_law 1079 = .ok (.iadd, 1) := by decide +kernel
theorem dL_law_1080 : decode cL_law 1080 = .ok (.iaload, 1) := by decide +kernel
theorem dL_law_1081 : decode cL_law 1081 = .ok (.aload_n 3, 1) := by decide +kernel
theorem dL_law_1082 : decode cL_law 1082 = .ok (.invokestatic 135, 3) := by decide +kernel
theorem dL_law_1085 : decode cL_law 1085 = .ok (.istore 6, 2) := by decide +kernel
theorem dL_law_1087 : decode cL_law 1087 = .ok (.aload_n 2, 1) := by decide +kernel
theorem dL_law_1088 : decode cL_law 1088 = .ok (.aload_n 0, 1) := by decide +kernel
theorem dL_law_1089 : decode cL_law 1089 = .ok (.iload 5, 2) := by decide +kernel
theorem dL_law_1091 : decode cL_law 1091 = .ok (.iconst 1, 1) := by decide +kernel
theorem dL_law_1092 : decode cL_law 1092 = .ok (.iadd, 1) := by decide +kernel
theorem dL_law_1093 : decode cL_law 1093 = .ok (.iaload, 1) := by decide +kernel
theorem dL_law_1094 : decode cL_law 1094 = .ok (.invokevirtual 137, 3) := by decide +kernel
theorem dL_law_1097 : decode cL_law 1097 = .ok (.istore 7, 2) := by decide +kernel
theorem dL_law_1099 : decode cL_law 1099 = .ok (.aload_n 2, 1) := by decide +kernel
theorem dL_law_1100 : decode cL_law 1100 = .ok (.invokevirtual 74, 3) := by decide +kernel
theorem dL_law_1103 : decode cL_law 1103 = .ok (.iload 6, 2) := by decide +kernel
theorem dL_law_1105 : decode cL_law 1105 = .ok (.if_icmp .eq 5, 3) := by decide +kernel
theorem dL_law_1108 : decode cL_law 1108 = .ok (.iconst 0, 1) := by decide +kernel
theorem dL_law_1109 : decode cL_law 1109 = .ok (.ireturn, 1) := by decide +kernel
theorem dL_law_1110 : decode cL_law 1110 = .ok (.iload 6, 2) := by decide +kernel
theorem dL_law_1112 : decode cL_law 1112 = .ok (.ifCond .ne 15, 3) := by decide +kernel
theorem dL_law_1115 : decode cL_law 1115 = .ok (.aload_n 3, 1) := by decide +kernel
theorem dL_law_1116 : decode cL_law 1116 = .ok (.iconst 0, 1) := by decide +kernel
theorem dL_law_1117 : decode cL_law 1117 = .ok (.laload, 1) := by decide +kernel
theorem dL_law_1118 : decode cL_law 1118 = .ok (.iload 7, 2) := by decide +kernel
theorem dL_law_1120 : decode cL_law 1120 = .ok (.i2l, 1) := by decide +kernel
theorem dL_law_1121 : decode cL_law 1121 = .ok (.lcmp, 1) := by decide +kernel
theorem dL_law_1122 : decode cL_law 1122 = .ok (.ifCond .eq 5, 3) := by decide +kernel
theorem dL_law_1125 : decode cL_law 1125 = .ok (.iconst 0, 1) := by decide +kernel
theorem dL_law_1126 : decode cL_law 1126 = .ok (.ireturn, 1) := by decide +kernel
theorem dL_law_1127 : decode cL_law 1127 = .ok (.goto 72, 3) := by decide +kernel
theorem dL_law_1130 : decode cL_law 1130 = .ok (.aload_n 1, 1) := by decide +kernel
theorem dL_law_1131 : decode cL_law 1131 = .ok (.invokevirtual 138, 3) := by decide +kernel
theorem dL_law_1134 : decode cL_law 1134 = .ok (.aload_n 2, 1) := by decide +kernel
theorem dL_law_1135 : decode cL_law 1135 = .ok (.invokevirtual 141, 3) := by decide +kernel
theorem dL_law_1138 : decode cL_law 1138 = .ok (.if_icmp .eq 61, 3) := by decide +kernel
theorem dL_law_1141 : decode cL_law 1141 = .ok (.iconst 0, 1) := by decide +kernel
theorem dL_law_1142 : decode cL_law 1142 = .ok (.ireturn, 1) := by decide +kernel
theorem dL_law_1143 : decode cL_law 1143 = .ok (.aload_n 1, 1) := by decide +kernel
theorem dL_law_1144 : decode cL_law 1144 = .ok (.aload_n 0, 1) := by decide +kernel
theorem dL_law_1145 : decode cL_law 1145 = .ok (.iload 5, 2) := by decide +kernel
theorem dL_law_1147 : decode cL_law 1147 = .ok (.iconst 1, 1) := by decide +kernel
theorem dL_law_1148 : decode cL_law 1148 = .ok (.iadd, 1) := by decide +kernel
theorem dL_law_1149 : decode cL_law 1149 = .ok (.iaload, 1) := by decide +kernel
theorem dL_law_1150 : decode cL_law 1150 = .ok (.aload_n 3, 1) := by decide +kernel
theorem dL_law_1151 : decode cL_law 1151 = .ok (.invokestatic 142, 3) := by decide +kernel
theorem dL_law_1154 : decode cL_law 1154 = .ok (.istore 6, 2) := by decide +kernel
theorem dL_law_1156 : decode cL_law 1156 = .ok (.aload_n 2, 1) := by decide +kernel
theorem dL_law_1157 : decode cL_law 1157 = .ok (.aload_n 0, 1) := by decide +kernel
theorem dL_law_1158 : decode cL_law 1158 = .ok (.iload 5, 2) := by decide +kernel
theorem dL_law_1160 : decode cL_law 1160 = .ok (.iconst 1, 1) := by decide +kernel
theorem dL_law_1161 : decode cL_law 1161 = .ok (.iadd, 1) := by decide +kernel
theorem dL_law_1162 : decode cL_law 1162 = .ok (.iaload, 1) := by decide +kernel
theorem dL_law_1163 : decode cL_law 1163 = .ok (.invokevirtual 144, 3) := by decide +kernel
theorem dL_law_1166 : decode cL_law 1166 = .ok (.istore 7, 2) := by decide +kernel
theorem dL_law_1168 : decode cL_law 1168 = .ok (.aload_n 2, 1) := by decide +kernel
theorem dL_law_1169 : decode cL_law 1169 = .ok (.invokevirtual 74, 3) := by decide +kernel
theorem dL_law_1172 : decode cL_law 1172 = .ok (.iload 6, 2) := by decide +kernel
theorem dL_law_1174 : decode cL_law 1174 = .ok (.if_icmp .eq 5, 3) := by decide +kernel
theorem dL_law_1177 : decode cL_law 1177 = .ok (.iconst 0, 1) := by decide +kernel
theorem dL_law_1178 : decode cL_law 1178 = .ok (.ireturn, 1) := by decide +kernel
theorem dL_law_1179 : decode cL_law 1179 = .ok (.iload 6, 2) := by decide +kernel
theorem dL_law_1181 : decode cL_law 1181 = .ok (.ifCond .ne 15, 3) := by decide +kernel
theorem dL_law_1184 : decode cL_law 1184 = .ok (.aload_n 3, 1) := by decide +kernel
theorem dL_law_1185 : decode cL_law 1185 = .ok (.iconst 0, 1) := by decide +kernel
theorem dL_law_1186 : decode cL_law 1186 = .ok (.laload, 1) := by decide +kernel
theorem dL_law_1187 : decode cL_law 1187 = .ok (.iload 7, 2) := by decide +kernel
theorem dL_law_1189 : decode cL_law 1189 = .ok (.i2l, 1) := by decide +kernel
theorem dL_law_1190 : decode cL_law 1190 = .ok (.lcmp, 1) := by decide +kernel
theorem dL_law_1191 : decode cL_law 1191 = .ok (.ifCond .eq 5, 3) := by decide +kernel
theorem dL_law_1194 : decode cL_law 1194 = .ok (.iconst 0, 1) := by decide +kernel
theorem dL_law_1195 : decode cL_law 1195 = .ok (.ireturn, 1) := by decide +kernel
theorem dL_law_1196 : decode cL_law 1196 = .ok (.goto 3, 3) := by decide +kernel
theorem dL_law_1199 : decode cL_law 1199 = .ok (.iinc 5 5, 3) := by decide +kernel
theorem dL_law_1202 : decode cL_law 1202 = .ok (.goto (-1174), 3) := by decide +kernel
theorem dL_law_1205 : decode cL_law 1205 = .ok (.iconst 1, 1) := by decide +kernel
theorem dL_law_1206 : decode cL_law 1206 = .ok (.ireturn, 1) := by decide +kernel

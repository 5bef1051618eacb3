set_option maxRecDepth 20000 in
theorem ggL_word_X4_addWord : GoodIn wsL_word wsX4_addWord := goodIn_ca (goodIn_ca (goodIn_r _ [7, 8, 9, 10, 11, 12, 13, 14, 6, 15, 16, 17, 18, 19, 20, 21, 22, 23, 24, 25, 26, 27, 28, 29, 30, 31, 32, 33, 34, 35, 36, 37, 38, 39, 40, 41, 42] (by decide +kernel) (by decide +kernel)) (goodIn_sub (fun _ h => List.mem_cons_of_mem _ (List.mem_append_left _ (List.mem_append_right _ h))) (by decide +kernel))) (goodIn_sub (fun _ h => List.mem_cons_of_mem _ (List.mem_append_right _ h)) (by decide +kernel))
set_option maxRecDepth 20000 in
theorem gL_word_X4_addWord : GoodIn wsL_word (wsV RL 9 RX4 yX4_addWord wsX4_addWord) := goodIn_app (goodIn_of _ (by decide +kernel)) ggL_word_X4_addWord
theorem dL_word_0 : decode cL_word 0 = .ok (.aload_n 0, 1) := by decide +kernel
theorem dL_word_1 : decode cL_word 1 = .ok (.iload_n 1, 1) := by decide +kernel
theorem dL_word_2 : decode cL_word 2 = .ok (.iload_n 2, 1) := by decide +kernel
theorem dL_word_3 : decode cL_word 3 = .ok (.iload_n 3, 1) := by decide +kernel
theorem dL_word_4 : decode cL_word 4 = .ok (.invokevirtual 9, 3) := by decide +kernel
theorem dL_word_7 : decode cL_word 7 = .ok (.ireturn, 1) := by decide +kernel
theorem dL_word_8 : decode cL_word 8 = .ok (.astore 4, 2) := by decide +kernel
theorem dL_word_10 : decode cL_word 10 = .ok (.bipush (-102), 2) := by decide +kernel
theorem dL_word_12 : decode cL_word 12 = .ok (.ireturn, 1) := by decide +kernel
theorem dL_word_13 : decode cL_word 13 = .ok (.astore 4, 2) := by decide +kernel
theorem dL_word_15 : decode cL_word 15 = .ok (.bipush (-103), 2) := by decide +kernel
theorem dL_word_17 : decode cL_word 17 = .ok (.ireturn, 1) := by decide +kernel
set_option maxRecDepth 20000 in
theorem ggL_setWord_X4_setWord : GoodIn wsL_setWord wsX4_setWord := goodIn_ca (goodIn_ca (goodIn_r _ [7, 8, 9, 10, 11, 12, 13, 14, 6, 15, 16, 17, 18, 19, 20, 21, 22, 23, 24, 25, 26, 27, 28, 29, 30, 31, 32, 33, 34, 35, 36, 37, 38, 39, 40, 41, 42] (by decide +kernel) (by decide +kernel)) (goodIn_sub (fun _ h => List.mem_cons_of_mem _ (List.mem_append_left _ (List.mem_append_right _ h))) (by decide +kernel))) (goodIn_sub (fun _ h => List.mem_cons_of_mem _ (List.mem_append_right _ h)) (by decide +kernel))
set_option maxRecDepth 20000 in
theorem gL_setWord_X4_setWord : GoodIn wsL_setWord (wsV RL 19 RX4 yX4_setWord wsX4_setWord) := goodIn_app (goodIn_of _ (by decide +kernel)) ggL_setWord_X4_setWord
theorem dL_setWord_0 : decode cL_setWord 0 = .ok (.aload_n 0, 1) := by decide +kernel
theorem dL_setWord_1 : decode cL_setWord 1 = .ok (.iload_n 1, 1) := by decide +kernel
theorem dL_setWord_2 : decode cL_setWord 2 = .ok (.iload_n 2, 1) := by decide +kernel
theorem dL_setWord_3 : decode cL_setWord 3 = .ok (.iload_n 3, 1) := by decide +kernel
theorem dL_setWord_4 : decode cL_setWord 4 = .ok (.iload 4, 2) := by decide +kernel
theorem dL_setWord_6 : decode cL_setWord 6 = .ok (.invokevirtual 19, 3) := by decide +kernel
theorem dL_setWord_9 : decode cL_setWord 9 = .ok (.ireturn, 1) := by decide +kernel
theorem dL_setWord_10 : decode cL_setWord 10 = .ok (.astore 5, 2) := by decide +kernel
theorem dL_setWord_12 : decode cL_setWord 12 = .ok (.bipush (-101), 2) := by decide +kernel
theorem dL_setWord_14 : decode cL_setWord 14 = .ok (.ireturn, 1) := by decide +kernel
theorem dL_setWord_15 : decode cL_setWord 15 = .ok (.astore 5, 2) := by decide +kernel
theorem dL_setWord_17 : decode cL_setWord 17 = .ok (.bipush (-102), 2) := by decide +kernel
theorem dL_setWord_19 : decode cL_setWord 19 = .ok (.ireturn, 1) := by decide +kernel
set_option maxRecDepth 20000 in
theorem ggL_rule_X4_addRule : GoodIn wsL_rule wsX4_addRule := goodIn_ca (goodIn_ca (goodIn_r _ [7, 8, 9, 10, 11, 12, 13, 14, 6, 15, 16, 17, 18, 19, 20, 21, 22, 23, 24, 25, 26, 27, 28, 29, 30, 31, 32, 33, 34, 35, 36, 37, 38, 39, 40, 41, 42, 43, 44, 45, 46, 47, 48, 49] (by decide +kernel) (by decide +kernel)) (goodIn_sub (fun _ h => List.mem_cons_of_mem _ (List.mem_append_left _ (List.mem_append_right _ h))) (by decide +kernel))) (goodIn_sub (fun _ h => List.mem_cons_of_mem _ (List.mem_append_right _ h)) (by decide +kernel))
set_option maxRecDepth 20000 in
theorem gL_rule_X4_addRule : GoodIn wsL_rule (wsV RL 25 RX4 yX4_addRule wsX4_addRule) := goodIn_app (goodIn_of _ (by decide +kernel)) ggL_rule_X4_addRule
theorem dL_rule_0 : decode cL_rule 0 = .ok (.aload_n 0, 1) := by decide +kernel
theorem dL_rule_1 : decode cL_rule 1 = .ok (.iload_n 1, 1) := by decide +kernel
theorem dL_rule_2 : decode cL_rule 2 = .ok (.iload_n 2, 1) := by decide +kernel
theorem dL_rule_3 : decode cL_rule 3 = .ok (.iload_n 3, 1) := by decide +kernel
theorem dL_rule_4 : decode cL_rule 4 = .ok (.iload 4, 2) := by decide +kernel
theorem dL_rule_6 : decode cL_rule 6 = .ok (.invokevirtual 25, 3) := by decide +kernel
theorem dL_rule_9 : decode cL_rule 9 = .ok (.ireturn, 1) := by decide +kernel
theorem dL_rule_10 : decode cL_rule 10 = .ok (.astore 5, 2) := by decide +kernel
theorem dL_rule_12 : decode cL_rule 12 = .ok (.bipush (-102), 2) := by decide +kernel
theorem dL_rule_14 : decode cL_rule 14 = .ok (.ireturn, 1) := by decide +kernel
theorem dL_rule_15 : decode cL_rule 15 = .ok (.astore 5, 2) := by decide +kernel
theorem dL_rule_17 : decode cL_rule 17 = .ok (.bipush (-103), 2) := by decide +kernel
theorem dL_rule_19 : decode cL_rule 19 = .ok (.ireturn, 1) := by decide +kernel
set_option maxRecDepth 20000 in
theorem ggL_drop_X4_dropRule : GoodIn wsL_drop wsX4_dropRule := goodIn_ca (goodIn_r _ [6, 7, 8, 9, 10, 11, 12, 13, 14, 15, 16, 17, 18, 19, 20, 21, 22, 23, 24] (by decide +kernel) (by decide +kernel)) (goodIn_sub (fun _ h => List.mem_cons_of_mem _ (List.mem_append_right _ h)) (by decide +kernel))
set_option maxRecDepth 20000 in
theorem gL_drop_X4_dropRule : GoodIn wsL_drop (wsV RL 28 RX4 yX4_dropRule wsX4_dropRule) := goodIn_app (goodIn_of _ (by decide +kernel)) ggL_drop_X4_dropRule
theorem dL_drop_0 : decode cL_drop 0 = .ok (.aload_n 0, 1) := by decide +kernel
theorem dL_drop_1 : decode cL_drop 1 = .ok (.invokevirtual 28, 3) := by decide +kernel
theorem dL_drop_4 : decode cL_drop 4 = .ok (.ireturn, 1) := by decide +kernel
theorem dL_drop_5 : decode cL_drop 5 = .ok (.astore_n 1, 1) := by decide +kernel
theorem dL_drop_6 : decode cL_drop 6 = .ok (.bipush (-103), 2) := by decide +kernel
theorem dL_drop_8 : decode cL_drop 8 = .ok (.ireturn, 1) := by decide +kernel
set_option maxRecDepth 20000 in
theorem ggL_say_X4_say : GoodIn wsL_say wsX4_say := goodIn_ca (goodIn_ca (goodIn_r _ [7, 8, 9, 10, 11, 12, 13, 14, 15, 16, 6, 17, 18, 19, 20, 21, 22, 23, 24, 25, 26, 27, 28, 29, 30, 31, 32] (by decide +kernel) (by decide +kernel)) (goodIn_sub (fun _ h => List.mem_cons_of_mem _ (List.mem_append_left _ (List.mem_append_right _ h))) (by decide +kernel))) (goodIn_sub (fun _ h => List.mem_cons_of_mem _ (List.mem_append_right _ h)) (by decide +kernel))
set_option maxRecDepth 20000 in
theorem gL_say_X4_say : GoodIn wsL_say (wsV RL 32 RX4 yX4_say wsX4_say) := goodIn_app (goodIn_of _ (by decide +kernel)) ggL_say_X4_say
theorem dL_say_0 : decode cL_say 0 = .ok (.aload_n 0, 1) := by decide +kernel
theorem dL_say_1 : decode cL_say 1 = .ok (.iload_n 1, 1) := by decide +kernel
theorem dL_say_2 : decode cL_say 2 = .ok (.invokevirtual 32, 3) := by decide +kernel
theorem dL_say_5 : decode cL_say 5 = .ok (.ireturn, 1) := by decide +kernel
theorem dL_say_6 : decode cL_say 6 = .ok (.astore_n 2, 1) := by decide +kernel
theorem dL_say_7 : decode cL_say 7 = .ok (.bipush (-101), 2) := by decide +kernel
theorem dL_say_9 : decode cL_say 9 = .ok (.ireturn, 1) := by decide +kernel
theorem dL_say_10 : decode cL_say 10 = .ok (.astore_n 2, 1) := by decide +kernel
theorem dL_say_11 : decode cL_say 11 = .ok (.bipush (-103), 2) := by decide +kernel
theorem dL_say_13 : decode cL_say 13 = .ok (.ireturn, 1) := by decide +kernel
set_option maxRecDepth 20000 in
theorem ggL_change_X4_change : GoodIn wsL_change wsX4_change := goodIn_ca (goodIn_r _ [6, 7, 8, 9, 10, 11, 12, 13, 5, 14, 15, 16, 17, 18, 19, 20, 21, 22, 23, 24, 25, 26, 27, 28, 29] (by decide +kernel) (by decide +kernel)) (goodIn_sub (fun _ h => List.mem_cons_of_mem _ (List.mem_append_right _ h)) (by decide +kernel))
set_option maxRecDepth 20000 in
theorem gL_change_X4_change : GoodIn wsL_change (wsV RL 36 RX4 yX4_change wsX4_change) := goodIn_app (goodIn_of _ (by decide +kernel)) ggL_change_X4_change
theorem dL_change_0 : decode cL_change 0 = .ok (.aload_n 0, 1) := by decide +kernel
theorem dL_change_1 : decode cL_change 1 = .ok (.iload_n 1, 1) := by decide +kernel
theorem dL_change_2 : decode cL_change 2 = .ok (.iload_n 2, 1) := by decide +kernel
theorem dL_change_3 : decode cL_change 3 = .ok (.invokevirtual 36, 3) := by decide +kernel
theorem dL_change_6 : decode cL_change 6 = .ok (.ireturn, 1) := by decide +kernel
theorem dL_change_7 : decode cL_change 7 = .ok (.astore_n 3, 1) := by decide +kernel
theorem dL_change_8 : decode cL_change 8 = .ok (.bipush (-101), 2) := by decide +kernel
theorem dL_change_10 : decode cL_change 10 = .ok (.ireturn, 1) := by decide +kernel
set_option maxRecDepth 20000 in
theorem ggL_at_X4_wordAt : GoodIn wsL_at wsX4_wordAt := goodIn_ca (goodIn_r _ [6, 7, 8, 9, 10, 11, 12, 5, 13, 14, 15, 16, 17, 18, 19, 20] (by decide +kernel) (by decide +kernel)) (goodIn_sub (fun _ h => List.mem_cons_of_mem _ (List.mem_append_right _ h)) (by decide +kernel))
set_option maxRecDepth 20000 in
theorem gL_at_X4_wordAt : GoodIn wsL_at (wsV RL 40 RX4 yX4_wordAt wsX4_wordAt) := goodIn_app (goodIn_of _ (by decide +kernel)) ggL_at_X4_wordAt
theorem dL_at_0 : decode cL_at 0 = .ok (.aload_n 0, 1) := by decide +kernel
theorem dL_at_1 : decode cL_at 1 = .ok (.iload_n 1, 1) := by decide +kernel
theorem dL_at_2 : decode cL_at 2 = .ok (.invokevirtual 40, 3) := by decide +kernel
theorem dL_at_5 : decode cL_at 5 = .ok (.ireturn, 1) := by decide +kernel
theorem dL_at_6 : decode cL_at 6 = .ok (.astore_n 2, 1) := by decide +kernel
theorem dL_at_7 : decode cL_at 7 = .ok (.bipush (-101), 2) := by decide +kernel
theorem dL_at_9 : decode cL_at 9 = .ok (.ireturn, 1) := by decide +kernel
set_option maxRecDepth 20000 in
theorem ggL_count_X4_readingsOf : GoodIn wsL_count wsX4_readingsOf := goodIn_ca (goodIn_r _ [6, 7, 8, 9, 10, 11, 5, 12, 13, 14, 15, 16, 17, 18, 19, 20, 21, 22, 23, 24, 25, 26, 27, 28, 29, 30, 31, 32, 33, 34, 35, 36, 37, 38, 39, 40, 41, 42, 43, 44, 45, 46, 47, 48, 49, 50, 51, 52, 53, 54, 55, 56, 57, 58, 59, 60, 61, 62, 63, 64, 65, 66, 67, 68, 69, 70, 71, 72, 73, 74, 75, 76, 77, 78, 79, 80, 81] (by decide +kernel) (by decide +kernel)) (goodIn_sub (fun _ h => List.mem_cons_of_mem _ (List.mem_append_right _ h)) (by decide +kernel))
set_option maxRecDepth 20000 in
theorem gL_count_X4_readingsOf : GoodIn wsL_count (wsV RL 43 RX4 yX4_readingsOf wsX4_readingsOf) := goodIn_app (goodIn_of _ (by decide +kernel)) ggL_count_X4_readingsOf
theorem dL_count_0 : decode cL_count 0 = .ok (.aload_n 0, 1) := by decide +kernel
theorem dL_count_1 : decode cL_count 1 = .ok (.iload_n 1, 1) := by decide +kernel
theorem dL_count_2 : decode cL_count 2 = .ok (.iload_n 2, 1) := by decide +kernel
theorem dL_count_3 : decode cL_count 3 = .ok (.iload_n 3, 1) := by decide +kernel
theorem dL_count_4 : decode cL_count 4 = .ok (.invokevirtual 43, 3) := by decide +kernel
theorem dL_count_7 : decode cL_count 7 = .ok (.ireturn, 1) := by decide +kernel
theorem dL_count_8 : decode cL_count 8 = .ok (.astore 4, 2) := by decide +kernel
theorem dL_count_10 : decode cL_count 10 = .ok (.bipush (-101), 2) := by decide +kernel
theorem dL_count_12 : decode cL_count 12 = .ok (.ireturn, 1) := by decide +kernel
set_option maxRecDepth 20000 in
theorem ggL_has_X4_has : GoodIn wsL_has wsX4_has := goodIn_ca (goodIn_ca (goodIn_r _ [7, 8, 9, 10, 11, 12, 13, 14, 15, 16, 17, 18, 6, 19, 20, 21, 22, 23, 24, 25, 26, 27, 28, 29, 30, 31, 32, 33, 34, 35, 36, 37, 38, 39, 40, 41, 42, 43, 44, 45, 46, 47, 48, 49, 50, 51, 52, 53, 54, 55, 56, 57, 58, 59, 60, 61, 62, 63, 64, 65, 66, 67, 68, 69, 70, 71, 72, 73, 74, 75, 76, 77, 78, 79, 80, 81, 82] (by decide +kernel) (by decide +kernel)) (goodIn_sub (fun _ h => List.mem_cons_of_mem _ (List.mem_append_left _ (List.mem_append_right _ h))) (by decide +kernel))) (goodIn_sub (fun _ h => List.mem_cons_of_mem _ (List.mem_append_right _ h)) (by decide +kernel))
set_option maxRecDepth 20000 in
theorem gL_has_X4_has : GoodIn wsL_has (wsV RL 46 RX4 yX4_has wsX4_has) := goodIn_app (goodIn_of _ (by decide +kernel)) ggL_has_X4_has
theorem dL_has_0 : decode cL_has 0 = .ok (.aload_n 0, 1) := by decide +kernel
theorem dL_has_1 : decode cL_has 1 = .ok (.iload_n 1, 1) := by decide +kernel
theorem dL_has_2 : decode cL_has 2 = .ok (.iload_n 2, 1) := by decide +kernel
theorem dL_has_3 : decode cL_has 3 = .ok (.iload_n 3, 1) := by decide +kernel
theorem dL_has_4 : decode cL_has 4 = .ok (.iload 4, 2) := by decide +kernel
theorem dL_has_6 : decode cL_has 6 = .ok (.invokevirtual 46, 3) := by decide +kernel
theorem dL_has_9 : decode cL_has 9 = .ok (.ifCond .eq 7, 3) := by decide +kernel
theorem dL_has_12 : decode cL_has 12 = .ok (.iconst 1, 1) := by decide +kernel
theorem dL_has_13 : decode cL_has 13 = .ok (.goto 4, 3) := by decide +kernel
theorem dL_has_16 : decode cL_has 16 = .ok (.iconst 0, 1) := by decide +kernel
theorem dL_has_17 : decode cL_has 17 = .ok (.ireturn, 1) := by decide +kernel
theorem dL_has_18 : decode cL_has 18 = .ok (.astore 5, 2) := by decide +kernel
theorem dL_has_20 : decode cL_has 20 = .ok (.bipush (-101), 2) := by decide +kernel
theorem dL_has_22 : decode cL_has 22 = .ok (.ireturn, 1) := by decide +kernel
theorem dL_has_23 : decode cL_has 23 = .ok (.astore 5, 2) := by decide +kernel
theorem dL_has_25 : decode cL_has 25 = .ok (.bipush (-102), 2) := by decide +kernel
theorem dL_has_27 : decode cL_has 27 = .ok (.ireturn, 1) := by decide +kernel
set_option maxRecDepth 20000 in
theorem ggL_sentences_X4_sentences : GoodIn wsL_sentences wsX4_sentences := goodIn_ca (goodIn_r _ [6, 7, 8, 9, 10, 5, 11, 12, 13, 14, 15, 16, 17, 18, 19, 20, 21, 22, 23, 24, 25, 26, 27, 28, 29, 30, 31, 32, 33, 34, 35, 36, 37, 38, 39, 40, 41, 42, 43, 44, 45, 46, 47, 48, 49, 50, 51, 52, 53, 54, 55, 56, 57, 58, 59, 60, 61, 62, 63, 64, 65, 66, 67, 68, 69, 70, 71, 72, 73, 74, 75, 76, 77, 78, 79, 80, 81, 82] (by decide +kernel) (by decide +kernel)) (goodIn_sub (fun _ h => List.mem_cons_of_mem _ (List.mem_append_right _ h)) (by decide +kernel))
set_option maxRecDepth 20000 in
theorem gL_sentences_X4_sentences : GoodIn wsL_sentences (wsV RL 50 RX4 yX4_sentences wsX4_sentences) := goodIn_app (goodIn_of _ (by decide +kernel)) ggL_sentences_X4_sentences
theorem dL_sentences_0 : decode cL_sentences 0 = .ok (.aload_n 0, 1) := by decide +kernel
theorem dL_sentences_1 : decode cL_sentences 1 = .ok (.iload_n 1, 1) := by decide +kernel
theorem dL_sentences_2 : decode cL_sentences 2 = .ok (.invokevirtual 50, 3) := by decide +kernel
theorem dL_sentences_5 : decode cL_sentences 5 = .ok (.ireturn, 1) := by decide +kernel
theorem dL_sentences_6 : decode cL_sentences 6 = .ok (.astore_n 2, 1) := by decide +kernel
theorem dL_sentences_7 : decode cL_sentences 7 = .ok (.bipush (-102), 2) := by decide +kernel
theorem dL_sentences_9 : decode cL_sentences 9 = .ok (.ireturn, 1) := by decide +kernel
set_option maxRecDepth 20000 in
theorem ggL_sentence_X4_sentence : GoodIn wsL_sentence wsX4_sentence := goodIn_ca (goodIn_r _ [6, 7, 8, 9, 10, 5, 11, 12, 13, 14, 15, 16, 17, 18, 19, 20, 21, 22, 23, 24, 25, 26, 27, 28, 29, 30, 31, 32, 33, 34, 35, 36, 37, 38, 39, 40, 41, 42, 43, 44, 45, 46, 47, 48, 49, 50, 51, 52, 53, 54, 55, 56, 57, 58, 59, 60, 61, 62, 63, 64, 65, 66, 67, 68, 69, 70, 71, 72, 73, 74, 75, 76, 77, 78, 79, 80, 81, 82, 83, 84, 85, 86] (by decide +kernel) (by decide +kernel)) (goodIn_sub (fun _ h => List.mem_cons_of_mem _ (List.mem_append_right _ h)) (by decide +kernel))
set_option maxRecDepth 20000 in
theorem gL_sentence_X4_sentence : GoodIn wsL_sentence (wsV RL 53 RX4 yX4_sentence wsX4_sentence) := goodIn_app (goodIn_of _ (by decide +kernel)) ggL_sentence_X4_sentence
theorem dL_sentence_0 : decode cL_sentence 0 = .ok (.aload_n 0, 1) := by decide +kernel
theorem dL_sentence_1 : decode cL_sentence 1 = .ok (.iload_n 1, 1) := by decide +kernel
theorem dL_sentence_2 : decode cL_sentence 2 = .ok (.iload_n 2, 1) := by decide +kernel
theorem dL_sentence_3 : decode cL_sentence 3 = .ok (.invokevirtual 53, 3) := by decide +kernel
theorem dL_sentence_6 : decode cL_sentence 6 = .ok (.ireturn, 1) := by decide +kernel
theorem dL_sentence_7 : decode cL_sentence 7 = .ok (.astore_n 3, 1) := by decide +kernel
theorem dL_sentence_8 : decode cL_sentence 8 = .ok (.bipush (-102), 2) := by decide +kernel
theorem dL_sentence_10 : decode cL_sentence 10 = .ok (.ireturn, 1) := by decide +kernel
set_option maxRecDepth 20000 in
theorem ggL_share_X4_share : GoodIn wsL_share wsX4_share := goodIn_ca (goodIn_r _ [7, 8, 9, 10, 11, 6, 12, 13, 14, 15, 16, 17, 18, 19, 20, 21, 22, 23, 24, 25, 26, 27, 28, 29, 30, 31, 32, 33, 34, 35, 36, 37, 38, 39, 40, 41, 42, 43, 44, 45, 46, 47, 48, 49, 50, 51, 52, 53, 54, 55, 56, 57, 58, 59, 60, 61, 62, 63, 64, 65, 66, 67, 68, 69, 70, 71, 72, 73, 74, 75, 76, 77, 78, 79, 80, 81, 82, 83] (by decide +kernel) (by decide +kernel)) (goodIn_sub (fun _ h => List.mem_cons_of_mem _ (List.mem_append_right _ h)) (by decide +kernel))
set_option maxRecDepth 20000 in
theorem gL_share_X4_share : GoodIn wsL_share (wsV RL 56 RX4 yX4_share wsX4_share) := goodIn_app (goodIn_of _ (by decide +kernel)) ggL_share_X4_share
theorem dL_share_0 : decode cL_share 0 = .ok (.aload_n 0, 1) := by decide +kernel
theorem dL_share_1 : decode cL_share 1 = .ok (.iload_n 1, 1) := by decide +kernel
theorem dL_share_2 : decode cL_share 2 = .ok (.invokevirtual 56, 3) := by decide +kernel
theorem dL_share_5 : decode cL_share 5 = .ok (.freturn, 1) := by decide +kernel
theorem dL_share_6 : decode cL_share 6 = .ok (.astore_n 2, 1) := by decide +kernel
theorem dL_share_7 : decode cL_share 7 = .ok (.ldc 60, 2) := by decide +kernel
theorem dL_share_9 : decode cL_share 9 = .ok (.freturn, 1) := by decide +kernel
set_option maxRecDepth 20000 in
theorem ggL_spoil_X4_spoil : GoodIn wsL_spoil wsX4_spoil := goodIn_ca (goodIn_r _ [6, 7, 8, 9, 10, 11, 12, 13, 5, 14, 15, 16, 17, 18, 19, 20, 21, 22, 23, 24, 25, 26, 27, 28, 29, 30, 31, 32, 33, 34, 35, 36, 37, 38, 39, 40, 41, 42, 43, 44, 45, 46, 47, 48, 49, 50, 51, 52, 53, 54, 55, 56, 57, 58, 59, 60, 61, 62, 63, 64, 65, 66, 67, 68, 69, 70, 71, 72, 73, 74, 75, 76, 77, 78, 79, 80, 81, 82, 83, 84, 85, 86, 87, 88] (by decide +kernel) (by decide +kernel)) (goodIn_sub (fun _ h => List.mem_cons_of_mem _ (List.mem_append_right _ h)) (by decide +kernel))
set_option maxRecDepth 20000 in
theorem gL_spoil_X4_spoil : GoodIn wsL_spoil (wsV RL 61 RX4 yX4_spoil wsX4_spoil) := goodIn_app (goodIn_of _ (by decide +kernel)) ggL_spoil_X4_spoil
theorem dL_spoil_0 : decode cL_spoil 0 = .ok (.aload_n 0, 1) := by decide +kernel
theorem dL_spoil_1 : decode cL_spoil 1 = .ok (.iload_n 1, 1) := by decide +kernel
theorem dL_spoil_2 : decode cL_spoil 2 = .ok (.invokevirtual 61, 3) := by decide +kernel
theorem dL_spoil_5 : decode cL_spoil 5 = .ok (.ireturn, 1) := by decide +kernel
theorem dL_spoil_6 : decode cL_spoil 6 = .ok (.astore_n 2, 1) := by decide +kernel
theorem dL_spoil_7 : decode cL_spoil 7 = .ok (.bipush (-101), 2) := by decide +kernel
theorem dL_spoil_9 : decode cL_spoil 9 = .ok (.ireturn, 1) := by decide +kernel
set_option maxRecDepth 20000 in
theorem ggL_correction_X4_correction : GoodIn wsL_correction wsX4_correction := goodIn_ca (goodIn_r _ [6, 7, 8, 9, 10, 11, 12, 13, 14, 5, 15, 16, 17, 18, 19, 20, 21, 22, 23, 24, 25, 26, 27, 28, 29, 30, 31, 32, 33, 34, 35, 36, 37, 38, 39, 40, 41, 42, 43, 44, 45, 46, 47, 48, 49, 50, 51, 52, 53, 54, 55, 56, 57, 58, 59, 60, 61, 62, 63, 64, 65, 66, 67, 68, 69, 70, 71, 72, 73, 74, 75, 76, 77, 78] (by decide +kernel) (by decide +kernel)) (goodIn_sub (fun _ h => List.mem_cons_of_mem _ (List.mem_append_right _ h)) (by decide +kernel))
set_option maxRecDepth 20000 in
theorem gL_correction_X4_correction : GoodIn wsL_correction (wsV RL 64 RX4 yX4_correction wsX4_correction) := goodIn_app (goodIn_of _ (by decide +kernel)) ggL_correction_X4_correction
theorem dL_correction_0 : decode cL_correction 0 = .ok (.aload_n 0, 1) := by decide +kernel
theorem dL_correction_1 : decode cL_correction 1 = .ok (.iload_n 1, 1) := by decide +kernel
theorem dL_correction_2 : decode cL_correction 2 = .ok (.invokevirtual 64, 3) := by decide +kernel
theorem dL_correction_5 : decode cL_correction 5 = .ok (.ireturn, 1) := by decide +kernel
theorem dL_correction_6 : decode cL_correction 6 = .ok (.astore_n 2, 1) := by decide +kernel
theorem dL_correction_7 : decode cL_correction 7 = .ok (.bipush (-101), 2) := by decide +kernel
theorem dL_correction_9 : decode cL_correction 9 = .ok (.ireturn, 1) := by decide +kernel
set_option maxRecDepth 20000 in
theorem ggL_reads_X4_said : GoodIn wsL_reads wsX4_said := goodIn_r _ [6, 7, 152, 153, 154, 155, 156, 157, 158] (by decide +kernel) (by decide +kernel)
set_option maxRecDepth 20000 in
theorem gL_reads_X4_said : GoodIn wsL_reads (wsV RL 67 RX4 yX4_said wsX4_said) := goodIn_app (goodIn_of _ (by decide +kernel)) ggL_reads_X4_said
set_option maxRecDepth 20000 in
theorem ggL_reads_X4_readings : GoodIn wsL_reads wsX4_readings := goodIn_r _ [11, 7, 12, 13, 14, 5, 15, 16, 17, 18, 19, 20, 21, 22, 23, 24, 25, 26, 27, 28, 29, 30, 31, 32, 33, 34, 35, 36, 37, 38, 39, 40, 41, 42, 43, 44, 45, 46, 47, 48, 49, 50, 51, 52, 53, 54, 55, 56, 57, 58, 59, 60, 152, 153, 154, 155, 156, 157, 158, 159, 160, 161, 162, 163, 164, 165, 166, 167] (by decide +kernel) (by decide +kernel)
set_option maxRecDepth 20000 in
theorem gL_reads_X4_readings : GoodIn wsL_reads (wsV RL 70 RX4 yX4_readings wsX4_readings) := goodIn_app (goodIn_of _ (by decide +kernel)) ggL_reads_X4_readings
set_option maxRecDepth 20000 in
theorem ggL_reads_X4_level : GoodIn wsL_reads wsX4_level := goodIn_r _ [64, 17, 65, 18, 7, 66, 67, 68, 69, 70, 71, 72, 73, 74, 75, 76, 77, 78, 28, 5, 29, 79, 80, 81, 82, 83, 84, 85, 86, 87, 88, 89, 90, 91, 35, 92, 93, 49, 94, 95, 96, 97, 98, 99, 100, 101, 102, 152, 153, 154, 155, 156, 157, 158, 160, 161, 162, 163, 164, 165, 166, 167, 168] (by decide +kernel) (by decide +kernel)
set_option maxRecDepth 20000 in
theorem gL_reads_X4_level : GoodIn wsL_reads (wsV RL 73 RX4 yX4_level wsX4_level) := goodIn_app (goodIn_of _ (by decide +kernel)) ggL_reads_X4_level
set_option maxRecDepth 20000 in
theorem ggL_reads_X4_readingsPlainly : GoodIn wsL_reads wsX4_readingsPlainly := goodIn_r _ [106, 7, 107, 17, 18, 108, 109, 110, 111, 112, 113, 114, 115, 116, 31, 32, 33, 34, 35, 36, 37, 38, 39, 40, 41, 42, 43, 44, 45, 46, 47, 48, 49, 50, 51, 55, 5, 56, 57, 58, 59, 60, 152, 153, 154, 155, 156, 157, 158, 169, 160, 161, 162, 163, 164, 165, 166, 167] (by decide +kernel) (by decide +kernel)
set_option maxRecDepth 20000 in
theorem gL_reads_X4_readingsPlainly : GoodIn wsL_reads (wsV RL 77 RX4 yX4_readingsPlainly wsX4_readingsPlainly) := goodIn_app (goodIn_of _ (by decide +kernel)) ggL_reads_X4_readingsPlainly
set_option maxRecDepth 20000 in
theorem ggL_reads_L_count : GoodIn wsL_reads wsL_count := goodIn_ca (goodIn_r _ [120, 121, 122, 123, 124, 5, 125, 126, 127, 128, 129, 130, 131, 7, 132, 133, 134, 12, 13, 14, 15, 16, 17, 18, 19, 20, 21, 22, 23, 24, 25, 26, 27, 28, 29, 30, 31, 32, 33, 34, 35, 36, 37, 38, 39, 40, 41, 42, 43, 44, 45, 46, 47, 48, 49, 50, 51, 52, 53, 54, 55, 56, 57, 58, 59, 60, 152, 153, 154, 155, 156, 157, 158, 159, 160, 161, 162, 163, 164, 165, 166, 167] (by decide +kernel) (by decide +kernel)) (goodIn_sub (fun _ h => List.mem_cons_of_mem _ (List.mem_append_left _ (List.mem_append_right _ h))) (by decide +kernel))
set_option maxRecDepth 20000 in
theorem gL_reads_L_count : GoodIn wsL_reads (va_wsS RL 80 yL_count wsL_count) := goodIn_app (goodIn_of _ (by decide +kernel)) ggL_reads_L_count
set_option maxRecDepth 20000 in
theorem ggL_reads_L_has : GoodIn wsL_reads wsL_has := goodIn_ca (goodIn_ca (goodIn_r _ [137, 121, 138, 139, 140, 141, 5, 142, 126, 127, 143, 144, 65, 17, 18, 7, 128, 129, 130, 131, 132, 133, 134, 145, 146, 147, 66, 67, 68, 69, 70, 71, 72, 73, 74, 75, 76, 77, 78, 28, 29, 79, 80, 81, 82, 83, 84, 85, 86, 87, 88, 89, 90, 91, 35, 92, 93, 49, 94, 95, 100, 101, 102, 148, 149, 150, 151, 152, 153, 154, 155, 156, 157, 158, 160, 161, 162, 163, 164, 165, 166, 167, 168] (by decide +kernel) (by decide +kernel)) (goodIn_sub (fun _ h => List.mem_cons_of_mem _ (List.mem_append_left _ (List.mem_append_right _ h))) (by decide +kernel))) (goodIn_sub (fun _ h => List.mem_cons_of_mem _ (List.mem_append_right _ h)) (by decide +kernel))
set_option maxRecDepth 20000 in
theorem gL_reads_L_has : GoodIn wsL_reads (va_wsS RL 86 yL_has wsL_has) := goodIn_app (goodIn_of _ (by decide +kernel)) ggL_reads_L_has
theorem dL_reads_0 : decode cL_reads 0 = .ok (.aload_n 0, 1) := by decide +kernel
theorem dL_reads_1 : decode cL_reads 1 = .ok (.invokevirtual 67, 3) := by decide +kernel
theorem dL_reads_4 : decode cL_reads 4 = .ok (.istore_n 2, 1) := by decide +kernel
theorem dL_reads_5 : decode cL_reads 5 = .ok (.aload_n 0, 1) := by decide +kernel
theorem dL_reads_6 : decode cL_reads 6 = .ok (.invokevirtual 70, 3) := by decide +kernel
theorem dL_reads_9 : decode cL_reads 9 = .ok (.istore_n 3, 1) := by decide +kernel
theorem dL_reads_10 : decode cL_reads 10 = .ok (.aload_n 0, 1) := by decide +kernel
theorem dL_reads_11 : decode cL_reads 11 = .ok (.invokevirtual 73, 3) := by decide +kernel
theorem dL_reads_14 : decode cL_reads 14 = .ok (.istore 4, 2) := by decide +kernel
theorem dL_reads_16 : decode cL_reads 16 = .ok (.iload_n 3, 1) := by decide +kernel
theorem dL_reads_17 : decode cL_reads 17 = .ok (.ifCond .lt 89, 3) := by decide +kernel
theorem dL_reads_20 : decode cL_reads 20 = .ok (.iload_n 3, 1) := by decide +kernel
theorem dL_reads_21 : decode cL_reads 21 = .ok (.ldc 76, 2) := by decide +kernel
theorem dL_reads_23 : decode cL_reads 23 = .ok (.if_icmp .gt 83, 3) := by decide +kernel
theorem dL_reads_26 : decode cL_reads 26 = .ok (.iload_n 3, 1) := by decide +kernel
theorem dL_reads_27 : decode cL_reads 27 = .ok (.aload_n 0, 1) := by decide +kernel
theorem dL_reads_28 : decode cL_reads 28 = .ok (.invokevirtual 77, 3) := by decide +kernel
theorem dL_reads_31 : decode cL_reads 31 = .ok (.if_icmp .ne 75, 3) := by decide +kernel
theorem dL_reads_34 : decode cL_reads 34 = .ok (.iload 4, 2) := by decide +kernel
theorem dL_reads_36 : decode cL_reads 36 = .ok (.iconst (-1), 1) := by decide +kernel
theorem dL_reads_37 : decode cL_reads 37 = .ok (.if_icmp .ne 7, 3) := by decide +kernel
theorem dL_reads_40 : decode cL_reads 40 = .ok (.iconst 1, 1) := by decide +kernel
theorem dL_reads_41 : decode cL_reads 41 = .ok (.goto 4, 3) := by decide +kernel
theorem dL_reads_44 : decode cL_reads 44 = .ok (.iconst 0, 1) := by decide +kernel
theorem dL_reads_45 : decode cL_reads 45 = .ok (.iload_n 3, 1) := by decide +kernel
theorem dL_reads_46 : decode cL_reads 46 = .ok (.ifCond .ne 7, 3) := by decide +kernel
theorem dL_reads_49 : decode cL_reads 49 = .ok (.iconst 1, 1) := by decide +kernel
theorem dL_reads_50 : decode cL_reads 50 = .ok (.goto 4, 3) := by decide +kernel
theorem dL_reads_53 : decode cL_reads 53 = .ok (.iconst 0, 1) := by decide +kernel
theorem dL_reads_54 : decode cL_reads 54 = .ok (.if_icmp .ne 52, 3) := by decide +kernel
theorem dL_reads_57 : decode cL_reads 57 = .ok (.iload_n 2, 1) := by decide +kernel
theorem dL_reads_58 : decode cL_reads 58 = .ok (.ifCond .ne 12, 3) := by decide +kernel
theorem dL_reads_61 : decode cL_reads 61 = .ok (.iload 4, 2) := by decide +kernel
theorem dL_reads_63 : decode cL_reads 63 = .ok (.iconst (-1), 1) := by decide +kernel
theorem dL_reads_64 : decode cL_reads 64 = .ok (.if_icmp .ne 42, 3) := by decide +kernel
theorem dL_reads_67 : decode cL_reads 67 = .ok (.goto 14, 3) := by decide +kernel
theorem dL_reads_70 : decode cL_reads 70 = .ok (.aload_n 0, 1) := by decide +kernel
theorem dL_reads_71 : decode cL_reads 71 = .ok (.iconst 0, 1) := by decide +kernel
theorem dL_reads_72 : decode cL_reads 72 = .ok (.iload_n 2, 1) := by decide +kernel
theorem dL_reads_73 : decode cL_reads 73 = .ok (.iconst 0, 1) := by decide +kernel
theorem dL_reads_74 : decode cL_reads 74 = .ok (.invokestatic 80, 3) := by decide +kernel
theorem dL_reads_77 : decode cL_reads 77 = .ok (.iload_n 3, 1) := by decide +kernel
theorem dL_reads_78 : decode cL_reads 78 = .ok (.if_icmp .ne 28, 3) := by decide +kernel
theorem dL_reads_81 : decode cL_reads 81 = .ok (.iload_n 2, 1) := by decide +kernel
theorem dL_reads_82 : decode cL_reads 82 = .ok (.iconst 1, 1) := by decide +kernel
theorem dL_reads_83 : decode cL_reads 83 = .ok (.if_icmp .ne 9, 3) := by decide +kernel
theorem dL_reads_86 : decode cL_reads 86 = .ok (.iload 4, 2) := by decide +kernel
theorem dL_reads_88 : decode cL_reads 88 = .ok (.iconst 1, 1) := by decide +kernel
theorem dL_reads_89 : decode cL_reads 89 = .ok (.if_icmp .ge 17, 3) := by decide +kernel
theorem dL_reads_92 : decode cL_reads 92 = .ok (.iload_n 2, 1) := by decide +kernel
theorem dL_reads_93 : decode cL_reads 93 = .ok (.iconst 2, 1) := by decide +kernel
theorem dL_reads_94 : decode cL_reads 94 = .ok (.if_icmp .lt 8, 3) := by decide +kernel
theorem dL_reads_97 : decode cL_reads 97 = .ok (.iload 4, 2) := by decide +kernel
theorem dL_reads_99 : decode cL_reads 99 = .ok (.ifCond .eq 7, 3) := by decide +kernel
theorem dL_reads_102 : decode cL_reads 102 = .ok (.iconst 1, 1) := by decide +kernel
theorem dL_reads_103 : decode cL_reads 103 = .ok (.goto 4, 3) := by decide +kernel
theorem dL_reads_106 : decode cL_reads 106 = .ok (.iconst 0, 1) := by decide +kernel
theorem dL_reads_107 : decode cL_reads 107 = .ok (.istore 5, 2) := by decide +kernel
theorem dL_reads_109 : decode cL_reads 109 = .ok (.iload 5, 2) := by decide +kernel
theorem dL_reads_111 : decode cL_reads 111 = .ok (.ifCond .eq 130, 3) := by decide +kernel
theorem dL_reads_114 : decode cL_reads 114 = .ok (.iload_n 2, 1) := by decide +kernel
theorem dL_reads_115 : decode cL_reads 115 = .ok (.ifCond .le 126, 3) := by decide +kernel
theorem dL_reads_118 : decode cL_reads 118 = .ok (.iload_n 1, 1) := by decide +kernel
theorem dL_reads_119 : decode cL_reads 119 = .ok (.iload_n 2, 1) := by decide +kernel
theorem dL_reads_120 : decode cL_reads 120 = .ok (.irem, 1) := by decide +kernel
theorem dL_reads_121 : decode cL_reads 121 = .ok (.istore 6, 2) := by decide +kernel
theorem dL_reads_123 : decode cL_reads 123 = .ok (.iload 6, 2) := by decide +kernel
theorem dL_reads_125 : decode cL_reads 125 = .ok (.iconst 1, 1) := by decide +kernel
theorem dL_reads_126 : decode cL_reads 126 = .ok (.iadd, 1) := by decide +kernel
theorem dL_reads_127 : decode cL_reads 127 = .ok (.iload_n 1, 1) := by decide +kernel
theorem dL_reads_128 : decode cL_reads 128 = .ok (.iconst 5, 1) := by decide +kernel
theorem dL_reads_129 : decode cL_reads 129 = .ok (.idiv, 1) := by decide +kernel
theorem dL_reads_130 : decode cL_reads 130 = .ok (.iload_n 2, 1) := by decide +kernel
theorem dL_reads_131 : decode cL_reads 131 = .ok (.iload 6, 2) := by decide +kernel
theorem dL_reads_133 : decode cL_reads 133 = .ok (.isub, 1) := by decide +kernel
theorem dL_reads_134 : decode cL_reads 134 = .ok (.irem, 1) := by decide +kernel
theorem dL_reads_135 : decode cL_reads 135 = .ok (.iadd, 1) := by decide +kernel
theorem dL_reads_136 : decode cL_reads 136 = .ok (.istore 7, 2) := by decide +kernel
theorem dL_reads_138 : decode cL_reads 138 = .ok (.iload_n 1, 1) := by decide +kernel
theorem dL_reads_139 : decode cL_reads 139 = .ok (.bipush 30, 2) := by decide +kernel
theorem dL_reads_141 : decode cL_reads 141 = .ok (.idiv, 1) := by decide +kernel
theorem dL_reads_142 : decode cL_reads 142 = .ok (.iconst 3, 1) := by decide +kernel
theorem dL_reads_143 : decode cL_reads 143 = .ok (.irem, 1) := by decide +kernel
theorem dL_reads_144 : decode cL_reads 144 = .ok (.istore 8, 2) := by decide +kernel
theorem dL_reads_146 : decode cL_reads 146 = .ok (.aload_n 0, 1) := by decide +kernel
theorem dL_reads_147 : decode cL_reads 147 = .ok (.iload 6, 2) := by decide +kernel
theorem dL_reads_149 : decode cL_reads 149 = .ok (.iload 7, 2) := by decide +kernel
theorem dL_reads_151 : decode cL_reads 151 = .ok (.iload 8, 2) := by decide +kernel
theorem dL_reads_153 : decode cL_reads 153 = .ok (.invokestatic 80, 3) := by decide +kernel
theorem dL_reads_156 : decode cL_reads 156 = .ok (.istore 9, 2) := by decide +kernel
theorem dL_reads_158 : decode cL_reads 158 = .ok (.iconst 0, 1) := by decide +kernel
theorem dL_reads_159 : decode cL_reads 159 = .ok (.istore 10, 2) := by decide +kernel
theorem dL_reads_161 : decode cL_reads 161 = .ok (.iconst 0, 1) := by decide +kernel
theorem dL_reads_162 : decode cL_reads 162 = .ok (.istore 11, 2) := by decide +kernel
theorem dL_reads_164 : decode cL_reads 164 = .ok (.iload 11, 2) := by decide +kernel
theorem dL_reads_166 : decode cL_reads 166 = .ok (.bipush 16, 2) := by decide +kernel
theorem dL_reads_168 : decode cL_reads 168 = .ok (.if_icmp .ge 36, 3) := by decide +kernel
theorem dL_reads_171 : decode cL_reads 171 = .ok (.iload 10, 2) := by decide +kernel
theorem dL_reads_173 : decode cL_reads 173 = .ok (.aload_n 0, 1) := by decide +kernel
theorem dL_reads_174 : decode cL_reads 174 = .ok (.iload 6, 2) := by decide +kernel
theorem dL_reads_176 : decode cL_reads 176 = .ok (.iload 7, 2) := by decide +kernel
theorem dL_reads_178 : decode cL_reads 178 = .ok (.iload 8, 2) := by decide +kernel
theorem dL_reads_180 : decode cL_reads 180 = .ok (.bipush 10, 2) := by decide +kernel
theorem dL_reads_182 : decode cL_reads 182 = .ok (.iload 11, 2) := by decide +kernel
theorem dL_reads_184 : decode cL_reads 184 = .ok (.iconst 4, 1) := by decide +kernel
theorem dL_reads_185 : decode cL_reads 185 = .ok (.idiv, 1) := by decide +kernel
theorem dL_reads_186 : decode cL_reads 186 = .ok (.imul, 1) := by decide +kernel
theorem dL_reads_187 : decode cL_reads 187 = .ok (.iload 11, 2) := by decide +kernel
theorem dL_reads_189 : decode cL_reads 189 = .ok (.iconst 4, 1) := by decide +kernel
theorem dL_reads_190 : decode cL_reads 190 = .ok (.irem, 1) := by decide +kernel
theorem dL_reads_191 : decode cL_reads 191 = .ok (.iadd, 1) := by decide +kernel
theorem dL_reads_192 : decode cL_reads 192 = .ok (.invokestatic 86, 3) := by decide +kernel
theorem dL_reads_195 : decode cL_reads 195 = .ok (.iadd, 1) := by decide +kernel
theorem dL_reads_196 : decode cL_reads 196 = .ok (.istore 10, 2) := by decide +kernel
theorem dL_reads_198 : decode cL_reads 198 = .ok (.iinc 11 1, 3) := by decide +kernel
theorem dL_reads_201 : decode cL_reads 201 = .ok (.goto (-37), 3) := by decide +kernel
theorem dL_reads_204 : decode cL_reads 204 = .ok (.iload 10, 2) := by decide +kernel
theorem dL_reads_206 : decode cL_reads 206 = .ok (.ifCond .le 7, 3) := by decide +kernel
theorem dL_reads_209 : decode cL_reads 209 = .ok (.iconst 1, 1) := by decide +kernel
theorem dL_reads_210 : decode cL_reads 210 = .ok (.goto 4, 3) := by decide +kernel
theorem dL_reads_213 : decode cL_reads 213 = .ok (.iconst 0, 1) := by decide +kernel
theorem dL_reads_214 : decode cL_reads 214 = .ok (.iload 9, 2) := by decide +kernel
theorem dL_reads_216 : decode cL_reads 216 = .ok (.ifCond .le 7, 3) := by decide +kernel
theorem dL_reads_219 : decode cL_reads 219 = .ok (.iconst 1, 1) := by decide +kernel
theorem dL_reads_220 : decode cL_reads 220 = .ok (.goto 4, 3) := by decide +kernel
theorem dL_reads_223 : decode cL_reads 223 = .ok (.iconst 0, 1) := by decide +kernel
theorem dL_reads_224 : decode cL_reads 224 = .ok (.if_icmp .ne 14, 3) := by decide +kernel
theorem dL_reads_227 : decode cL_reads 227 = .ok (.iload 10, 2) := by decide +kernel
theorem dL_reads_229 : decode cL_reads 229 = .ok (.iload 9, 2) := by decide +kernel
theorem dL_reads_231 : decode cL_reads 231 = .ok (.if_icmp .gt 7, 3) := by decide +kernel
theorem dL_reads_234 : decode cL_reads 234 = .ok (.iconst 1, 1) := by decide +kernel
theorem dL_reads_235 : decode cL_reads 235 = .ok (.goto 4, 3) := by decide +kernel
theorem dL_reads_238 : decode cL_reads 238 = .ok (.iconst 0, 1) := by decide +kernel
theorem dL_reads_239 : decode cL_reads 239 = .ok (.istore 5, 2) := by decide +kernel
theorem dL_reads_241 : decode cL_reads 241 = .ok (.iload 5, 2) := by decide +kernel
theorem dL_reads_243 : decode cL_reads 243 = .ok (.ireturn, 1) := by decide +kernel
set_option maxRecDepth 20000 in
theorem ggL_corrects_X4_said : GoodIn wsL_corrects wsX4_said := goodIn_r _ [5, 6, 153, 154, 155, 156, 157, 158, 159] (by decide +kernel) (by decide +kernel)
set_option maxRecDepth 20000 in
theorem gL_corrects_X4_said : GoodIn wsL_corrects (wsV RL 67 RX4 yX4_said wsX4_said) := goodIn_app (goodIn_of _ (by decide +kernel)) ggL_corrects_X4_said
set_option maxRecDepth 20000 in
theorem ggL_corrects_X4_changes : GoodIn wsL_corrects wsX4_changes := goodIn_r _ [10, 6, 11, 12, 13, 4, 14, 15, 16, 17, 18, 19, 20, 21, 22, 23, 24, 25, 26, 27, 28, 29, 30, 31, 32, 33, 34, 35, 36, 37, 38, 39, 40, 41, 42, 43, 44, 45, 46, 47, 48, 49, 50, 51, 52, 53, 54, 55, 56, 153, 154, 155, 156, 157, 158, 159, 160, 161, 162, 163, 164, 165, 166, 167, 168] (by decide +kernel) (by decide +kernel)
set_option maxRecDepth 20000 in
theorem gL_corrects_X4_changes : GoodIn wsL_corrects (wsV RL 89 RX4 yX4_changes wsX4_changes) := goodIn_app (goodIn_of _ (by decide +kernel)) ggL_corrects_X4_changes
set_option maxRecDepth 20000 in
theorem ggL_corrects_X4_readings : GoodIn wsL_corrects wsX4_readings := goodIn_r _ [60, 6, 61, 62, 63, 4, 64, 65, 16, 17, 66, 67, 68, 69, 70, 71, 72, 73, 74, 27, 28, 75, 76, 77, 78, 79, 44, 80, 81, 82, 83, 84, 85, 86, 87, 88, 89, 90, 91, 92, 47, 93, 94, 95, 96, 97, 98, 99, 100, 101, 102, 103, 153, 154, 155, 156, 157, 158, 159, 169, 160, 161, 162, 163, 164, 165, 166, 167] (by decide +kernel) (by decide +kernel)
set_option maxRecDepth 20000 in
theorem gL_corrects_X4_readings : GoodIn wsL_corrects (wsV RL 70 RX4 yX4_readings wsX4_readings) := goodIn_app (goodIn_of _ (by decide +kernel)) ggL_corrects_X4_readings
set_option maxRecDepth 20000 in
theorem ggL_corrects_L_correction : GoodIn wsL_corrects wsL_correction := goodIn_ca (goodIn_r _ [107, 108, 109, 110, 111, 4, 112, 113, 114, 6, 16, 17, 115, 116, 117, 118, 119, 120, 121, 122, 123, 15, 124, 19, 125, 126, 127, 33, 34, 35, 22, 23, 24, 25, 26, 27, 28, 29, 30, 31, 32, 128, 36, 37, 38, 39, 40, 41, 42, 43, 44, 45, 46, 47, 48, 49, 50, 51, 52, 53, 54, 55, 56, 153, 154, 155, 156, 157, 158, 159, 160, 161, 162, 163, 164, 165, 166, 167, 168] (by decide +kernel) (by decide +kernel)) (goodIn_sub (fun _ h => List.mem_cons_of_mem _ (List.mem_append_right _ h)) (by decide +kernel))
set_option maxRecDepth 20000 in
theorem gL_corrects_L_correction : GoodIn wsL_corrects (va_wsS RL 92 yL_correction wsL_correction) := goodIn_app (goodIn_of _ (by decide +kernel)) ggL_corrects_L_correction
set_option maxRecDepth 20000 in
theorem ggL_corrects_L_change : GoodIn wsL_corrects wsL_change := goodIn_ca (goodIn_r _ [131, 108, 132, 133, 134, 4, 135, 113, 114, 6, 16, 17, 136, 137, 138, 153, 154, 155, 156, 157, 158, 159, 160, 161, 162, 163, 164, 165, 166, 167] (by decide +kernel) (by decide +kernel)) (goodIn_sub (fun _ h => List.mem_cons_of_mem _ (List.mem_append_right _ h)) (by decide +kernel))
set_option maxRecDepth 20000 in
theorem gL_corrects_L_change : GoodIn wsL_corrects (va_wsS RL 95 yL_change wsL_change) := goodIn_app (goodIn_of _ (by decide +kernel)) ggL_corrects_L_change
set_option maxRecDepth 20000 in
theorem ggL_corrects_L_spoil : GoodIn wsL_corrects wsL_spoil := goodIn_ca (goodIn_r _ [141, 108, 142, 143, 144, 4, 145, 113, 114, 6, 16, 17, 136, 137, 138, 11, 12, 13, 14, 15, 18, 19, 20, 21, 22, 23, 24, 25, 26, 27, 28, 29, 30, 31, 32, 33, 34, 35, 36, 37, 38, 39, 40, 41, 42, 43, 44, 45, 46, 47, 48, 49, 50, 51, 52, 53, 54, 55, 56, 115, 116, 117, 118, 119, 120, 121, 122, 123, 124, 125, 126, 127, 128, 153, 154, 155, 156, 157, 158, 159, 160, 161, 162, 163, 164, 165, 166, 167, 168] (by decide +kernel) (by decide +kernel)) (goodIn_sub (fun _ h => List.mem_cons_of_mem _ (List.mem_append_right _ h)) (by decide +kernel))
set_option maxRecDepth 20000 in
theorem gL_corrects_L_spoil : GoodIn wsL_corrects (va_wsS RL 98 yL_spoil wsL_spoil) := goodIn_app (goodIn_of _ (by decide +kernel)) ggL_corrects_L_spoil
set_option maxRecDepth 20000 in
theorem ggL_corrects_L_at : GoodIn wsL_corrects wsL_at := goodIn_ca (goodIn_r _ [148, 108, 149, 150, 151, 4, 152, 113, 114, 6, 17, 136, 137, 138, 153, 154, 155, 156, 157, 158, 159] (by decide +kernel) (by decide +kernel)) (goodIn_sub (fun _ h => List.mem_cons_of_mem _ (List.mem_append_right _ h)) (by decide +kernel))
set_option maxRecDepth 20000 in
theorem gL_corrects_L_at : GoodIn wsL_corrects (va_wsS RL 100 yL_at wsL_at) := goodIn_app (goodIn_of _ (by decide +kernel)) ggL_corrects_L_at
theorem dL_corrects_0 : decode cL_corrects 0 = .ok (.aload_n 0, 1) := by decide +kernel
theorem dL_corrects_1 : decode cL_corrects 1 = .ok (.invokevirtual 67, 3) := by decide +kernel
theorem dL_corrects_4 : decode cL_corrects 4 = .ok (.istore_n 2, 1) := by decide +kernel
theorem dL_corrects_5 : decode cL_corrects 5 = .ok (.aload_n 0, 1) := by decide +kernel
theorem dL_corrects_6 : decode cL_corrects 6 = .ok (.invokevirtual 89, 3) := by decide +kernel
theorem dL_corrects_9 : decode cL_corrects 9 = .ok (.istore_n 3, 1) := by decide +kernel
theorem dL_corrects_10 : decode cL_corrects 10 = .ok (.aload_n 0, 1) := by decide +kernel
theorem dL_corrects_11 : decode cL_corrects 11 = .ok (.invokevirtual 70, 3) := by decide +kernel
theorem dL_corrects_14 : decode cL_corrects 14 = .ok (.ifCond .le 7, 3) := by decide +kernel
theorem dL_corrects_17 : decode cL_corrects 17 = .ok (.iconst 1, 1) := by decide +kernel
theorem dL_corrects_18 : decode cL_corrects 18 = .ok (.goto 4, 3) := by decide +kernel
theorem dL_corrects_21 : decode cL_corrects 21 = .ok (.iconst 0, 1) := by decide +kernel
theorem dL_corrects_22 : decode cL_corrects 22 = .ok (.istore 4, 2) := by decide +kernel
theorem dL_corrects_24 : decode cL_corrects 24 = .ok (.aload_n 0, 1) := by decide +kernel
theorem dL_corrects_25 : decode cL_corrects 25 = .ok (.iconst 0, 1) := by decide +kernel
theorem dL_corrects_26 : decode cL_corrects 26 = .ok (.invokestatic 92, 3) := by decide +kernel
theorem dL_corrects_29 : decode cL_corrects 29 = .ok (.istore 5, 2) := by decide +kernel
theorem dL_corrects_31 : decode cL_corrects 31 = .ok (.iload_n 3, 1) := by decide +kernel
theorem dL_corrects_32 : decode cL_corrects 32 = .ok (.ifCond .ne 7, 3) := by decide +kernel
theorem dL_corrects_35 : decode cL_corrects 35 = .ok (.iconst 1, 1) := by decide +kernel
theorem dL_corrects_36 : decode cL_corrects 36 = .ok (.goto 4, 3) := by decide +kernel
theorem dL_corrects_39 : decode cL_corrects 39 = .ok (.iconst 0, 1) := by decide +kernel
theorem dL_corrects_40 : decode cL_corrects 40 = .ok (.iload 4, 2) := by decide +kernel
theorem dL_corrects_42 : decode cL_corrects 42 = .ok (.if_icmp .ne 50, 3) := by decide +kernel
theorem dL_corrects_45 : decode cL_corrects 45 = .ok (.iload 4, 2) := by decide +kernel
theorem dL_corrects_47 : decode cL_corrects 47 = .ok (.ifCond .ne 26, 3) := by decide +kernel
theorem dL_corrects_50 : decode cL_corrects 50 = .ok (.iload_n 3, 1) := by decide +kernel
theorem dL_corrects_51 : decode cL_corrects 51 = .ok (.iconst 1, 1) := by decide +kernel
theorem dL_corrects_52 : decode cL_corrects 52 = .ok (.if_icmp .ne 7, 3) := by decide +kernel
theorem dL_corrects_55 : decode cL_corrects 55 = .ok (.iconst 1, 1) := by decide +kernel
theorem dL_corrects_56 : decode cL_corrects 56 = .ok (.goto 4, 3) := by decide +kernel
theorem dL_corrects_59 : decode cL_corrects 59 = .ok (.iconst 0, 1) := by decide +kernel
theorem dL_corrects_60 : decode cL_corrects 60 = .ok (.iload 5, 2) := by decide +kernel
theorem dL_corrects_62 : decode cL_corrects 62 = .ok (.ifCond .lt 7, 3) := by decide +kernel
theorem dL_corrects_65 : decode cL_corrects 65 = .ok (.iconst 1, 1) := by decide +kernel
theorem dL_corrects_66 : decode cL_corrects 66 = .ok (.goto 4, 3) := by decide +kernel
theorem dL_corrects_69 : decode cL_corrects 69 = .ok (.iconst 0, 1) := by decide +kernel
theorem dL_corrects_70 : decode cL_corrects 70 = .ok (.if_icmp .ne 22, 3) := by decide +kernel
theorem dL_corrects_73 : decode cL_corrects 73 = .ok (.iload_n 2, 1) := by decide +kernel
theorem dL_corrects_74 : decode cL_corrects 74 = .ok (.ifCond .gt 14, 3) := by decide +kernel
theorem dL_corrects_77 : decode cL_corrects 77 = .ok (.iload 5, 2) := by decide +kernel
theorem dL_corrects_79 : decode cL_corrects 79 = .ok (.iconst (-1), 1) := by decide +kernel
theorem dL_corrects_80 : decode cL_corrects 80 = .ok (.if_icmp .ne 12, 3) := by decide +kernel
theorem dL_corrects_83 : decode cL_corrects 83 = .ok (.iload_n 3, 1) := by decide +kernel
theorem dL_corrects_84 : decode cL_corrects 84 = .ok (.iconst (-1), 1) := by decide +kernel
theorem dL_corrects_85 : decode cL_corrects 85 = .ok (.if_icmp .ne 7, 3) := by decide +kernel
theorem dL_corrects_88 : decode cL_corrects 88 = .ok (.iconst 1, 1) := by decide +kernel
theorem dL_corrects_89 : decode cL_corrects 89 = .ok (.goto 4, 3) := by decide +kernel
theorem dL_corrects_92 : decode cL_corrects 92 = .ok (.iconst 0, 1) := by decide +kernel
theorem dL_corrects_93 : decode cL_corrects 93 = .ok (.istore 6, 2) := by decide +kernel
theorem dL_corrects_95 : decode cL_corrects 95 = .ok (.aload_n 0, 1) := by decide +kernel
theorem dL_corrects_96 : decode cL_corrects 96 = .ok (.iload_n 1, 1) := by decide +kernel
theorem dL_corrects_97 : decode cL_corrects 97 = .ok (.iconst 3, 1) := by decide +kernel
theorem dL_corrects_98 : decode cL_corrects 98 = .ok (.irem, 1) := by decide +kernel
theorem dL_corrects_99 : decode cL_corrects 99 = .ok (.invokestatic 92, 3) := by decide +kernel
theorem dL_corrects_102 : decode cL_corrects 102 = .ok (.istore 7, 2) := by decide +kernel
theorem dL_corrects_104 : decode cL_corrects 104 = .ok (.iload 6, 2) := by decide +kernel
theorem dL_corrects_106 : decode cL_corrects 106 = .ok (.ifCond .eq 67, 3) := by decide +kernel
theorem dL_corrects_109 : decode cL_corrects 109 = .ok (.iload 7, 2) := by decide +kernel
theorem dL_corrects_111 : decode cL_corrects 111 = .ok (.ifCond .lt 62, 3) := by decide +kernel
theorem dL_corrects_114 : decode cL_corrects 114 = .ok (.aload_n 0, 1) := by decide +kernel
theorem dL_corrects_115 : decode cL_corrects 115 = .ok (.iload 7, 2) := by decide +kernel
theorem dL_corrects_117 : decode cL_corrects 117 = .ok (.bipush 10, 2) := by decide +kernel
theorem dL_corrects_119 : decode cL_corrects 119 = .ok (.idiv, 1) := by decide +kernel
theorem dL_corrects_120 : decode cL_corrects 120 = .ok (.iload 7, 2) := by decide +kernel
theorem dL_corrects_122 : decode cL_corrects 122 = .ok (.bipush 10, 2) := by decide +kernel
theorem dL_corrects_124 : decode cL_corrects 124 = .ok (.irem, 1) := by decide +kernel
theorem dL_corrects_125 : decode cL_corrects 125 = .ok (.invokestatic 95, 3) := by decide +kernel
theorem dL_corrects_128 : decode cL_corrects 128 = .ok (.istore 8, 2) := by decide +kernel
theorem dL_corrects_130 : decode cL_corrects 130 = .ok (.iload 8, 2) := by decide +kernel
theorem dL_corrects_132 : decode cL_corrects 132 = .ok (.iload 7, 2) := by decide +kernel
theorem dL_corrects_134 : decode cL_corrects 134 = .ok (.bipush 10, 2) := by decide +kernel
theorem dL_corrects_136 : decode cL_corrects 136 = .ok (.irem, 1) := by decide +kernel
theorem dL_corrects_137 : decode cL_corrects 137 = .ok (.if_icmp .eq 33, 3) := by decide +kernel
theorem dL_corrects_140 : decode cL_corrects 140 = .ok (.aload_n 0, 1) := by decide +kernel
theorem dL_corrects_141 : decode cL_corrects 141 = .ok (.invokevirtual 70, 3) := by decide +kernel
theorem dL_corrects_144 : decode cL_corrects 144 = .ok (.ifCond .le 26, 3) := by decide +kernel
theorem dL_corrects_147 : decode cL_corrects 147 = .ok (.aload_n 0, 1) := by decide +kernel
theorem dL_corrects_148 : decode cL_corrects 148 = .ok (.iload 7, 2) := by decide +kernel
theorem dL_corrects_150 : decode cL_corrects 150 = .ok (.bipush 10, 2) := by decide +kernel
theorem dL_corrects_152 : decode cL_corrects 152 = .ok (.idiv, 1) := by decide +kernel
theorem dL_corrects_153 : decode cL_corrects 153 = .ok (.iload 8, 2) := by decide +kernel
theorem dL_corrects_155 : decode cL_corrects 155 = .ok (.invokestatic 95, 3) := by decide +kernel
theorem dL_corrects_158 : decode cL_corrects 158 = .ok (.iload 7, 2) := by decide +kernel
theorem dL_corrects_160 : decode cL_corrects 160 = .ok (.bipush 10, 2) := by decide +kernel
theorem dL_corrects_162 : decode cL_corrects 162 = .ok (.irem, 1) := by decide +kernel
theorem dL_corrects_163 : decode cL_corrects 163 = .ok (.if_icmp .ne 7, 3) := by decide +kernel
theorem dL_corrects_166 : decode cL_corrects 166 = .ok (.iconst 1, 1) := by decide +kernel
theorem dL_corrects_167 : decode cL_corrects 167 = .ok (.goto 4, 3) := by decide +kernel
theorem dL_corrects_170 : decode cL_corrects 170 = .ok (.iconst 0, 1) := by decide +kernel
theorem dL_corrects_171 : decode cL_corrects 171 = .ok (.istore 6, 2) := by decide +kernel
theorem dL_corrects_173 : decode cL_corrects 173 = .ok (.iload 6, 2) := by decide +kernel
theorem dL_corrects_175 : decode cL_corrects 175 = .ok (.ifCond .eq 111, 3) := by decide +kernel
theorem dL_corrects_178 : decode cL_corrects 178 = .ok (.iload_n 2, 1) := by decide +kernel
theorem dL_corrects_179 : decode cL_corrects 179 = .ok (.ifCond .le 107, 3) := by decide +kernel
theorem dL_corrects_182 : decode cL_corrects 182 = .ok (.iload_n 1, 1) := by decide +kernel
theorem dL_corrects_183 : decode cL_corrects 183 = .ok (.iload_n 2, 1) := by decide +kernel
theorem dL_corrects_184 : decode cL_corrects 184 = .ok (.irem, 1) := by decide +kernel
theorem dL_corrects_185 : decode cL_corrects 185 = .ok (.istore 8, 2) := by decide +kernel
theorem dL_corrects_187 : decode cL_corrects 187 = .ok (.aload_n 0, 1) := by decide +kernel
theorem dL_corrects_188 : decode cL_corrects 188 = .ok (.iload 8, 2) := by decide +kernel
theorem dL_corrects_190 : decode cL_corrects 190 = .ok (.invokestatic 98, 3) := by decide +kernel
theorem dL_corrects_193 : decode cL_corrects 193 = .ok (.istore 9, 2) := by decide +kernel
theorem dL_corrects_195 : decode cL_corrects 195 = .ok (.aload_n 0, 1) := by decide +kernel
theorem dL_corrects_196 : decode cL_corrects 196 = .ok (.iload 8, 2) := by decide +kernel
theorem dL_corrects_198 : decode cL_corrects 198 = .ok (.invokestatic 100, 3) := by decide +kernel
theorem dL_corrects_201 : decode cL_corrects 201 = .ok (.istore 10, 2) := by decide +kernel
theorem dL_corrects_203 : decode cL_corrects 203 = .ok (.iload 4, 2) := by decide +kernel
theorem dL_corrects_205 : decode cL_corrects 205 = .ok (.ifCond .ne 9, 3) := by decide +kernel
theorem dL_corrects_208 : decode cL_corrects 208 = .ok (.iload 9, 2) := by decide +kernel
theorem dL_corrects_210 : decode cL_corrects 210 = .ok (.iconst (-1), 1) := by decide +kernel
theorem dL_corrects_211 : decode cL_corrects 211 = .ok (.if_icmp .ne 7, 3) := by decide +kernel
theorem dL_corrects_214 : decode cL_corrects 214 = .ok (.iconst 1, 1) := by decide +kernel
theorem dL_corrects_215 : decode cL_corrects 215 = .ok (.goto 4, 3) := by decide +kernel
theorem dL_corrects_218 : decode cL_corrects 218 = .ok (.iconst 0, 1) := by decide +kernel
theorem dL_corrects_219 : decode cL_corrects 219 = .ok (.istore 6, 2) := by decide +kernel
theorem dL_corrects_221 : decode cL_corrects 221 = .ok (.iload 9, 2) := by decide +kernel
theorem dL_corrects_223 : decode cL_corrects 223 = .ok (.ifCond .lt 63, 3) := by decide +kernel
theorem dL_corrects_226 : decode cL_corrects 226 = .ok (.iload 6, 2) := by decide +kernel
theorem dL_corrects_228 : decode cL_corrects 228 = .ok (.ifCond .eq 55, 3) := by decide +kernel
theorem dL_corrects_231 : decode cL_corrects 231 = .ok (.iload 9, 2) := by decide +kernel
theorem dL_corrects_233 : decode cL_corrects 233 = .ok (.iload 10, 2) := by decide +kernel
theorem dL_corrects_235 : decode cL_corrects 235 = .ok (.if_icmp .eq 48, 3) := by decide +kernel
theorem dL_corrects_238 : decode cL_corrects 238 = .ok (.aload_n 0, 1) := by decide +kernel
theorem dL_corrects_239 : decode cL_corrects 239 = .ok (.iload 8, 2) := by decide +kernel
theorem dL_corrects_241 : decode cL_corrects 241 = .ok (.iload 9, 2) := by decide +kernel
theorem dL_corrects_243 : decode cL_corrects 243 = .ok (.invokestatic 95, 3) := by decide +kernel
theorem dL_corrects_246 : decode cL_corrects 246 = .ok (.iload 10, 2) := by decide +kernel
theorem dL_corrects_248 : decode cL_corrects 248 = .ok (.if_icmp .ne 35, 3) := by decide +kernel
theorem dL_corrects_251 : decode cL_corrects 251 = .ok (.aload_n 0, 1) := by decide +kernel
theorem dL_corrects_252 : decode cL_corrects 252 = .ok (.invokevirtual 70, 3) := by decide +kernel
theorem dL_corrects_255 : decode cL_corrects 255 = .ok (.ifCond .ne 28, 3) := by decide +kernel
theorem dL_corrects_258 : decode cL_corrects 258 = .ok (.aload_n 0, 1) := by decide +kernel
theorem dL_corrects_259 : decode cL_corrects 259 = .ok (.invokevirtual 89, 3) := by decide +kernel
theorem dL_corrects_262 : decode cL_corrects 262 = .ok (.iconst 1, 1) := by decide +kernel
theorem dL_corrects_263 : decode cL_corrects 263 = .ok (.if_icmp .ne 20, 3) := by decide +kernel
theorem dL_corrects_266 : decode cL_corrects 266 = .ok (.aload_n 0, 1) := by decide +kernel
theorem dL_corrects_267 : decode cL_corrects 267 = .ok (.iload 8, 2) := by decide +kernel
theorem dL_corrects_269 : decode cL_corrects 269 = .ok (.iload 10, 2) := by decide +kernel
theorem dL_corrects_271 : decode cL_corrects 271 = .ok (.invokestatic 95, 3) := by decide +kernel
theorem dL_corrects_274 : decode cL_corrects 274 = .ok (.iload 9, 2) := by decide +kernel
theorem dL_corrects_276 : decode cL_corrects 276 = .ok (.if_icmp .ne 7, 3) := by decide +kernel
theorem dL_corrects_279 : decode cL_corrects 279 = .ok (.iconst 1, 1) := by decide +kernel
theorem dL_corrects_280 : decode cL_corrects 280 = .ok (.goto 4, 3) := by decide +kernel
theorem dL_corrects_283 : decode cL_corrects 283 = .ok (.iconst 0, 1) := by decide +kernel
theorem dL_corrects_284 : decode cL_corrects 284 = .ok (.istore 6, 2) := by decide +kernel
theorem dL_corrects_286 : decode cL_corrects 286 = .ok (.iload 6, 2) := by decide +kernel
theorem dL_corrects_288 : decode cL_corrects 288 = .ok (.ifCond .eq 24, 3) := by decide +kernel
theorem dL_corrects_291 : decode cL_corrects 291 = .ok (.aload_n 0, 1) := by decide +kernel
theorem dL_corrects_292 : decode cL_corrects 292 = .ok (.invokevirtual 70, 3) := by decide +kernel
theorem dL_corrects_295 : decode cL_corrects 295 = .ok (.ifCond .le 7, 3) := by decide +kernel
theorem dL_corrects_298 : decode cL_corrects 298 = .ok (.iconst 1, 1) := by decide +kernel
theorem dL_corrects_299 : decode cL_corrects 299 = .ok (.goto 4, 3) := by decide +kernel
theorem dL_corrects_302 : decode cL_corrects 302 = .ok (.iconst 0, 1) := by decide +kernel
theorem dL_corrects_303 : decode cL_corrects 303 = .ok (.iload 4, 2) := by decide +kernel
theorem dL_corrects_305 : decode cL_corrects 305 = .ok (.if_icmp .ne 7, 3) := by decide +kernel
theorem dL_corrects_308 : decode cL_corrects 308 = .ok (.iconst 1, 1) := by decide +kernel
theorem dL_corrects_309 : decode cL_corrects 309 = .ok (.goto 4, 3) := by decide +kernel
theorem dL_corrects_312 : decode cL_corrects 312 = .ok (.iconst 0, 1) := by decide +kernel
theorem dL_corrects_313 : decode cL_corrects 313 = .ok (.ireturn, 1) := by decide +kernel
set_option maxRecDepth 20000 in
theorem ggL_law_X4_init : GoodIn wsL_law wsX4_init := goodIn_r _ [5, 6, 7, 8, 9, 10, 11, 12, 13, 14, 15, 16, 17, 18, 19, 20, 21, 22, 23, 24, 25, 26, 27, 28, 29, 30, 31, 32, 33, 34, 35, 36, 37, 38, 39, 40, 41, 42, 43, 44, 45, 46, 47, 48, 49, 50, 51, 52, 53, 54, 352, 353, 354, 355, 356, 357, 358, 359, 345, 346, 347, 348, 349, 350, 351, 360, 361, 362] (by decide +kernel) (by decide +kernel)
set_option maxRecDepth 20000 in
theorem gL_law_X4_init : GoodIn wsL_law (wsX4_init) := ggL_law_X4_init
set_option maxRecDepth 20000 in
theorem ggL_law_L_reads : GoodIn wsL_law wsL_reads := goodIn_ca (goodIn_ca (goodIn_r _ [58, 59, 60, 61, 62, 2, 63, 15, 64, 65, 66, 67, 68, 69, 70, 71, 24, 12, 14, 72, 23, 73, 74, 75, 76, 77, 78, 49, 79, 80, 81, 82, 83, 84, 85, 11, 86, 87, 33, 34, 88, 89, 90, 35, 37, 91, 92, 93, 94, 40, 38, 36, 95, 96, 97, 98, 99, 100, 101, 102, 103, 104, 105, 106, 107, 20, 108, 19, 109, 110, 111, 112, 113, 114, 115, 116, 117, 118, 44, 119, 120, 121, 122, 123, 124, 125, 126, 127, 128, 129, 130, 131, 132, 133, 134, 135, 136, 137, 138, 139, 140, 141, 142, 143, 144, 145, 146, 28, 147, 27, 148, 149, 54, 150, 151, 152, 153, 154, 155, 57, 156, 157, 158, 159, 160, 161, 162, 163, 164, 165, 166, 167, 168, 169, 170, 171, 172, 173, 174, 175, 176, 177, 178, 179, 180, 181, 182, 183, 184, 185, 186, 187, 345, 346, 347, 348, 349, 350, 351, 361, 352, 353, 354, 355, 356, 357, 358, 359, 360, 362] (by decide +kernel) (by decide +kernel)) (goodIn_sub (fun _ h => List.mem_append_left _ (List.mem_append_left _ (List.mem_append_right _ h))) (by decide +kernel))) (goodIn_sub (fun _ h => List.mem_append_left _ (List.mem_append_right _ h)) (by decide +kernel))
set_option maxRecDepth 20000 in
theorem gL_law_L_reads : GoodIn wsL_law (va_wsS RL 104 yL_reads wsL_reads) := goodIn_app (goodIn_of _ (by decide +kernel)) ggL_law_L_reads
set_option maxRecDepth 20000 in
theorem ggL_law_L_cell : GoodIn wsL_law wsL_cell := goodIn_r _ [190, 191, 192] (by decide +kernel) (by decide +kernel)
set_option maxRecDepth 20000 in
theorem gL_law_L_cell : GoodIn wsL_law (va_wsS RL 108 yL_cell wsL_cell) := goodIn_app (goodIn_of _ (by decide +kernel)) ggL_law_L_cell
set_option maxRecDepth 20000 in
theorem ggL_law_X4_said : GoodIn wsL_law wsX4_said := goodIn_r _ [63, 15, 345, 346, 347, 348, 349, 350, 351] (by decide +kernel) (by decide +kernel)
set_option maxRecDepth 20000 in
theorem gL_law_X4_said : GoodIn wsL_law (wsV RL 67 RX4 yX4_said wsX4_said) := goodIn_app (goodIn_of _ (by decide +kernel)) ggL_law_X4_said
set_option maxRecDepth 20000 in
theorem ggL_law_L_word : GoodIn wsL_law wsL_word := goodIn_ca (goodIn_ca (goodIn_r _ [195, 174, 196, 197, 198, 199, 2, 200, 179, 180, 201, 202, 12, 203, 204, 205, 168, 169, 170, 184, 185, 186, 206, 11, 207, 208, 33, 34, 345, 346, 347, 348, 349, 350, 351, 352, 353, 354, 355, 356, 357, 358, 359] (by decide +kernel) (by decide +kernel)) (goodIn_sub (fun _ h => List.mem_append_left _ (List.mem_append_right _ h)) (by decide +kernel))) (goodIn_sub (fun _ h => List.mem_append_right _ h) (by decide +kernel))
set_option maxRecDepth 20000 in
theorem gL_law_L_word : GoodIn wsL_law (va_wsS RL 112 yL_word wsL_word) := goodIn_app (goodIn_of _ (by decide +kernel)) ggL_law_L_word
set_option maxRecDepth 20000 in
theorem ggL_law_L_rule : GoodIn wsL_law wsL_rule := goodIn_ca (goodIn_ca (goodIn_r _ [211, 174, 196, 212, 213, 214, 2, 215, 179, 180, 201, 202, 12, 168, 169, 170, 181, 182, 183, 216, 11, 217, 218, 36, 37, 38, 40, 219, 220, 221, 222, 223, 224, 185, 186, 345, 346, 347, 348, 349, 350, 351, 352, 353, 354, 355, 356, 357, 358, 359] (by decide +kernel) (by decide +kernel)) (goodIn_sub (fun _ h => List.mem_append_left _ (List.mem_append_right _ h)) (by decide +kernel))) (goodIn_sub (fun _ h => List.mem_append_right _ h) (by decide +kernel))
set_option maxRecDepth 20000 in
theorem gL_law_L_rule : GoodIn wsL_law (va_wsS RL 115 yL_rule wsL_rule) := goodIn_app (goodIn_of _ (by decide +kernel)) ggL_law_L_rule
set_option maxRecDepth 20000 in
theorem ggL_law_L_drop : GoodIn wsL_law wsL_drop := goodIn_ca (goodIn_r _ [227, 196, 228, 229, 230, 2, 231, 201, 202, 12, 345, 346, 347, 348, 349, 350, 351, 352, 353, 354, 355, 356, 357, 358, 359] (by decide +kernel) (by decide +kernel)) (goodIn_sub (fun _ h => List.mem_append_right _ h) (by decide +kernel))
set_option maxRecDepth 20000 in
theorem gL_law_L_drop : GoodIn wsL_law (va_wsS RL 118 yL_drop wsL_drop) := goodIn_app (goodIn_of _ (by decide +kernel)) ggL_law_L_drop
set_option maxRecDepth 20000 in
theorem ggL_law_L_setWord : GoodIn wsL_law wsL_setWord := goodIn_ca (goodIn_ca (goodIn_r _ [234, 157, 174, 235, 236, 237, 2, 238, 162, 163, 179, 180, 12, 168, 169, 170, 203, 204, 205, 184, 185, 186, 206, 11, 207, 208, 33, 34, 345, 346, 347, 348, 349, 350, 351, 352, 353, 354, 355, 356, 357, 358, 359] (by decide +kernel) (by decide +kernel)) (goodIn_sub (fun _ h => List.mem_append_left _ (List.mem_append_left _ (List.mem_append_right _ h))) (by decide +kernel))) (goodIn_sub (fun _ h => List.mem_append_left _ (List.mem_append_right _ h)) (by decide +kernel))
set_option maxRecDepth 20000 in
theorem gL_law_L_setWord : GoodIn wsL_law (va_wsS RL 122 yL_setWord wsL_setWord) := goodIn_app (goodIn_of _ (by decide +kernel)) ggL_law_L_setWord
set_option maxRecDepth 20000 in
theorem ggL_law_L_say : GoodIn wsL_law wsL_say := goodIn_ca (goodIn_ca (goodIn_r _ [241, 157, 196, 242, 243, 244, 2, 245, 162, 163, 201, 202, 12, 15, 14, 168, 169, 170, 345, 346, 347, 348, 349, 350, 351, 352, 353, 354, 355, 356, 357, 358, 359] (by decide +kernel) (by decide +kernel)) (goodIn_sub (fun _ h => List.mem_append_left _ (List.mem_append_left _ (List.mem_append_right _ h))) (by decide +kernel))) (goodIn_sub (fun _ h => List.mem_append_right _ h) (by decide +kernel))
set_option maxRecDepth 20000 in
theorem gL_law_L_say : GoodIn wsL_law (va_wsS RL 124 yL_say wsL_say) := goodIn_app (goodIn_of _ (by decide +kernel)) ggL_law_L_say
set_option maxRecDepth 20000 in
theorem ggL_law_L_at : GoodIn wsL_law wsL_at := goodIn_ca (goodIn_r _ [248, 157, 249, 250, 251, 2, 252, 162, 163, 15, 14, 168, 169, 170, 345, 346, 347, 348, 349, 350, 351] (by decide +kernel) (by decide +kernel)) (goodIn_sub (fun _ h => List.mem_append_left _ (List.mem_append_left _ (List.mem_append_right _ h))) (by decide +kernel))
set_option maxRecDepth 20000 in
theorem gL_law_L_at : GoodIn wsL_law (va_wsS RL 100 yL_at wsL_at) := goodIn_app (goodIn_of _ (by decide +kernel)) ggL_law_L_at
set_option maxRecDepth 20000 in
theorem ggL_law_L_change : GoodIn wsL_law wsL_change := goodIn_ca (goodIn_r _ [255, 157, 256, 257, 258, 2, 259, 162, 163, 15, 12, 14, 168, 169, 170, 345, 346, 347, 348, 349, 350, 351, 352, 353, 354, 355, 356, 357, 358, 359] (by decide +kernel) (by decide +kernel)) (goodIn_sub (fun _ h => List.mem_append_left _ (List.mem_append_left _ (List.mem_append_right _ h))) (by decide +kernel))
set_option maxRecDepth 20000 in
theorem gL_law_L_change : GoodIn wsL_law (va_wsS RL 95 yL_change wsL_change) := goodIn_app (goodIn_of _ (by decide +kernel)) ggL_law_L_change
set_option maxRecDepth 20000 in
theorem ggL_law_X4_hush : GoodIn wsL_law wsX4_hush := goodIn_r _ [263, 15, 345, 346, 347, 348, 349, 350, 351] (by decide +kernel) (by decide +kernel)
set_option maxRecDepth 20000 in
theorem gL_law_X4_hush : GoodIn wsL_law (wsV RL 126 RX4 yX4_hush wsX4_hush) := goodIn_app (goodIn_of _ (by decide +kernel)) ggL_law_X4_hush
set_option maxRecDepth 20000 in
theorem ggL_law_L_sentences : GoodIn wsL_law wsL_sentences := goodIn_ca (goodIn_r _ [266, 174, 267, 268, 269, 2, 270, 179, 180, 271, 272, 273, 274, 275, 276, 277, 12, 278, 279, 280, 281, 20, 16, 282, 283, 284, 285, 112, 19, 113, 114, 115, 116, 117, 118, 44, 79, 80, 119, 120, 121, 122, 124, 125, 126, 127, 128, 129, 130, 131, 11, 132, 133, 40, 134, 135, 136, 137, 138, 139, 140, 141, 142, 286, 287, 288, 289, 345, 346, 347, 348, 349, 350, 351, 352, 353, 354, 355, 356, 357, 358, 359, 360] (by decide +kernel) (by decide +kernel)) (goodIn_sub (fun _ h => List.mem_append_left _ (List.mem_append_right _ h)) (by decide +kernel))
set_option maxRecDepth 20000 in
theorem gL_law_L_sentences : GoodIn wsL_law (va_wsS RL 129 yL_sentences wsL_sentences) := goodIn_app (goodIn_of _ (by decide +kernel)) ggL_law_L_sentences
set_option maxRecDepth 20000 in
theorem ggL_law_L_sentence : GoodIn wsL_law wsL_sentence := goodIn_ca (goodIn_r _ [292, 174, 293, 294, 295, 2, 296, 179, 180, 271, 272, 273, 278, 279, 280, 281, 20, 12, 16, 274, 275, 276, 277, 282, 283, 284, 285, 112, 19, 113, 114, 115, 116, 117, 118, 44, 79, 80, 119, 120, 121, 122, 124, 125, 126, 127, 128, 129, 130, 131, 11, 132, 133, 40, 134, 135, 136, 137, 138, 139, 140, 141, 142, 286, 287, 288, 289, 297, 298, 299, 300, 345, 346, 347, 348, 349, 350, 351, 352, 353, 354, 355, 356, 357, 358, 359, 360] (by decide +kernel) (by decide +kernel)) (goodIn_sub (fun _ h => List.mem_append_left _ (List.mem_append_right _ h)) (by decide +kernel))
set_option maxRecDepth 20000 in
theorem gL_law_L_sentence : GoodIn wsL_law (va_wsS RL 131 yL_sentence wsL_sentence) := goodIn_app (goodIn_of _ (by decide +kernel)) ggL_law_L_sentence
set_option maxRecDepth 20000 in
theorem ggL_law_L_share : GoodIn wsL_law wsL_share := goodIn_ca (goodIn_r _ [303, 174, 304, 305, 306, 307, 2, 308, 179, 180, 271, 272, 273, 274, 275, 276, 277, 12, 278, 279, 280, 281, 20, 16, 282, 283, 284, 285, 112, 19, 113, 114, 115, 116, 117, 118, 44, 79, 80, 119, 120, 121, 122, 124, 125, 126, 127, 128, 129, 130, 131, 11, 132, 133, 40, 134, 135, 136, 137, 138, 139, 140, 141, 142, 286, 287, 288, 289, 345, 346, 347, 348, 349, 350, 351, 352, 353, 354, 355, 356, 357, 358, 359, 360] (by decide +kernel) (by decide +kernel)) (goodIn_sub (fun _ h => List.mem_append_left _ (List.mem_append_right _ h)) (by decide +kernel))
set_option maxRecDepth 20000 in
theorem gL_law_L_share : GoodIn wsL_law (va_wsS RL 133 yL_share wsL_share) := goodIn_app (goodIn_of _ (by decide +kernel)) ggL_law_L_share
set_option maxRecDepth 20000 in
theorem ggL_law_X4_readings : GoodIn wsL_law wsX4_readings := goodIn_r _ [67, 15, 68, 69, 70, 2, 71, 24, 12, 14, 72, 23, 73, 74, 75, 76, 77, 78, 49, 79, 80, 81, 82, 83, 84, 85, 11, 86, 87, 33, 34, 88, 89, 90, 35, 37, 91, 92, 93, 94, 40, 38, 36, 95, 96, 97, 98, 99, 100, 101, 102, 103, 345, 346, 347, 348, 349, 350, 351, 361, 352, 353, 354, 355, 356, 357, 358, 359] (by decide +kernel) (by decide +kernel)
set_option maxRecDepth 20000 in
theorem gL_law_X4_readings : GoodIn wsL_law (wsV RL 70 RX4 yX4_readings wsX4_readings) := goodIn_app (goodIn_of _ (by decide +kernel)) ggL_law_X4_readings
set_option maxRecDepth 20000 in
theorem ggL_law_L_corrects : GoodIn wsL_law wsL_corrects := goodIn_ca (goodIn_r _ [311, 60, 61, 62, 2, 63, 15, 312, 313, 314, 315, 316, 317, 318, 319, 20, 12, 14, 320, 19, 321, 322, 115, 116, 117, 118, 44, 79, 80, 119, 120, 121, 122, 112, 113, 114, 124, 125, 126, 127, 128, 129, 130, 131, 11, 132, 133, 40, 134, 135, 136, 137, 138, 139, 140, 141, 142, 64, 65, 66, 67, 68, 69, 70, 71, 24, 72, 23, 73, 74, 75, 76, 77, 78, 49, 81, 82, 83, 84, 85, 86, 87, 33, 34, 88, 89, 90, 35, 37, 91, 92, 93, 94, 38, 36, 95, 96, 97, 98, 99, 100, 101, 102, 103, 323, 324, 57, 325, 157, 326, 327, 328, 329, 162, 163, 330, 331, 332, 333, 16, 334, 335, 336, 337, 108, 109, 110, 111, 123, 253, 254, 255, 256, 257, 258, 259, 168, 169, 170, 338, 339, 340, 341, 342, 343, 344, 246, 247, 248, 249, 250, 251, 252, 345, 346, 347, 348, 349, 350, 351, 352, 353, 354, 355, 356, 357, 358, 359, 360, 361] (by decide +kernel) (by decide +kernel)) (goodIn_sub (fun _ h => List.mem_append_left _ (List.mem_append_left _ (List.mem_append_right _ h))) (by decide +kernel))
set_option maxRecDepth 20000 in
theorem gL_law_L_corrects : GoodIn wsL_law (va_wsS RL 136 yL_corrects wsL_corrects) := goodIn_app (goodIn_of _ (by decide +kernel)) ggL_law_L_corrects
theorem dL_law_0 : decode cL_law 0 = .ok (.new 10, 3) := by decide +kernel
theorem dL_law_3 : decode cL_law 3 = .ok (.dup, 1) := by decide +kernel
theorem dL_law_4 : decode cL_law 4 = .ok (.invokespecial 103, 3) := by decide +kernel
theorem dL_law_7 : decode cL_law 7 = .ok (.astore_n 1, 1) := by decide +kernel
theorem dL_law_8 : decode cL_law 8 = .ok (.iconst 0, 1) := by decide +kernel
theorem dL_law_9 : decode cL_law 9 = .ok (.istore_n 2, 1) := by decide +kernel
theorem dL_law_10 : decode cL_law 10 = .ok (.iconst 0, 1) := by decide +kernel
theorem dL_law_11 : decode cL_law 11 = .ok (.istore_n 3, 1) := by decide +kernel
theorem dL_law_12 : decode cL_law 12 = .ok (.aload_n 1, 1) := by decide +kernel
theorem dL_law_13 : decode cL_law 13 = .ok (.iconst 0, 1) := by decide +kernel
theorem dL_law_14 : decode cL_law 14 = .ok (.invokestatic 104, 3) := by decide +kernel
theorem dL_law_17 : decode cL_law 17 = .ok (.istore 4, 2) := by decide +kernel
theorem dL_law_19 : decode cL_law 19 = .ok (.iconst 0, 1) := by decide +kernel
theorem dL_law_20 : decode cL_law 20 = .ok (.istore 5, 2) := by decide +kernel
theorem dL_law_22 : decode cL_law 22 = .ok (.iload 5, 2) := by decide +kernel
theorem dL_law_24 : decode cL_law 24 = .ok (.bipush 30, 2) := by decide +kernel
theorem dL_law_26 : decode cL_law 26 = .ok (.if_icmp .ge 702, 3) := by decide +kernel
theorem dL_law_29 : decode cL_law 29 = .ok (.iload 4, 2) := by decide +kernel
theorem dL_law_31 : decode cL_law 31 = .ok (.ifCond .eq 697, 3) := by decide +kernel
theorem dL_law_34 : decode cL_law 34 = .ok (.aload_n 0, 1) := by decide +kernel
theorem dL_law_35 : decode cL_law 35 = .ok (.iload 5, 2) := by decide +kernel
theorem dL_law_37 : decode cL_law 37 = .ok (.invokestatic 108, 3) := by decide +kernel
theorem dL_law_40 : decode cL_law 40 = .ok (.istore 6, 2) := by decide +kernel
theorem dL_law_42 : decode cL_law 42 = .ok (.iload 6, 2) := by decide +kernel
theorem dL_law_44 : decode cL_law 44 = .ok (.bipush 16, 2) := by decide +kernel
theorem dL_law_46 : decode cL_law 46 = .ok (.idiv, 1) := by decide +kernel
theorem dL_law_47 : decode cL_law 47 = .ok (.istore 7, 2) := by decide +kernel
theorem dL_law_49 : decode cL_law 49 = .ok (.iload 6, 2) := by decide +kernel
theorem dL_law_51 : decode cL_law 51 = .ok (.bipush 16, 2) := by decide +kernel
theorem dL_law_53 : decode cL_law 53 = .ok (.irem, 1) := by decide +kernel
theorem dL_law_54 : decode cL_law 54 = .ok (.istore 8, 2) := by decide +kernel
theorem dL_law_56 : decode cL_law 56 = .ok (.aload_n 1, 1) := by decide +kernel
theorem dL_law_57 : decode cL_law 57 = .ok (.invokevirtual 67, 3) := by decide +kernel
theorem dL_law_60 : decode cL_law 60 = .ok (.istore 9, 2) := by decide +kernel
theorem dL_law_62 : decode cL_law 62 = .ok (.iload 8, 2) := by decide +kernel
theorem dL_law_64 : decode cL_law 64 = .ok (.iconst 3, 1) := by decide +kernel
theorem dL_law_65 : decode cL_law 65 = .ok (.if_icmp .ge 8, 3) := by decide +kernel
theorem dL_law_68 : decode cL_law 68 = .ok (.iload_n 2, 1) := by decide +kernel
theorem dL_law_69 : decode cL_law 69 = .ok (.iconst 5, 1) := by decide +kernel
theorem dL_law_70 : decode cL_law 70 = .ok (.if_icmp .lt 7, 3) := by decide +kernel
theorem dL_law_73 : decode cL_law 73 = .ok (.iload_n 2, 1) := by decide +kernel
theorem dL_law_74 : decode cL_law 74 = .ok (.ifCond .ne 41, 3) := by decide +kernel
theorem dL_law_77 : decode cL_law 77 = .ok (.aload_n 1, 1) := by decide +kernel
theorem dL_law_78 : decode cL_law 78 = .ok (.iload 7, 2) := by decide +kernel
theorem dL_law_80 : decode cL_law 80 = .ok (.iconst 3, 1) := by decide +kernel
theorem dL_law_81 : decode cL_law 81 = .ok (.irem, 1) := by decide +kernel
theorem dL_law_82 : decode cL_law 82 = .ok (.iload 7, 2) := by decide +kernel
theorem dL_law_84 : decode cL_law 84 = .ok (.iconst 3, 1) := by decide +kernel
theorem dL_law_85 : decode cL_law 85 = .ok (.idiv, 1) := by decide +kernel
theorem dL_law_86 : decode cL_law 86 = .ok (.iconst 4, 1) := by decide +kernel
theorem dL_law_87 : decode cL_law 87 = .ok (.irem, 1) := by decide +kernel
theorem dL_law_88 : decode cL_law 88 = .ok (.iload 7, 2) := by decide +kernel
theorem dL_law_90 : decode cL_law 90 = .ok (.bipush 12, 2) := by decide +kernel
theorem dL_law_92 : decode cL_law 92 = .ok (.idiv, 1) := by decide +kernel
theorem dL_law_93 : decode cL_law 93 = .ok (.iconst 4, 1) := by decide +kernel
theorem dL_law_94 : decode cL_law 94 = .ok (.irem, 1) := by decide +kernel
theorem dL_law_95 : decode cL_law 95 = .ok (.invokestatic 112, 3) := by decide +kernel
theorem dL_law_98 : decode cL_law 98 = .ok (.iload_n 2, 1) := by decide +kernel
theorem dL_law_99 : decode cL_law 99 = .ok (.if_icmp .ne 7, 3) := by decide +kernel
theorem dL_law_102 : decode cL_law 102 = .ok (.iconst 1, 1) := by decide +kernel
theorem dL_law_103 : decode cL_law 103 = .ok (.goto 4, 3) := by decide +kernel
theorem dL_law_106 : decode cL_law 106 = .ok (.iconst 0, 1) := by decide +kernel
theorem dL_law_107 : decode cL_law 107 = .ok (.istore 4, 2) := by decide +kernel
theorem dL_law_109 : decode cL_law 109 = .ok (.iinc 2 1, 3) := by decide +kernel
theorem dL_law_112 : decode cL_law 112 = .ok (.goto 573, 3) := by decide +kernel
theorem dL_law_115 : decode cL_law 115 = .ok (.iload 8, 2) := by decide +kernel
theorem dL_law_117 : decode cL_law 117 = .ok (.bipush 6, 2) := by decide +kernel
theorem dL_law_119 : decode cL_law 119 = .ok (.if_icmp .ge 81, 3) := by decide +kernel
theorem dL_law_122 : decode cL_law 122 = .ok (.aload_n 1, 1) := by decide +kernel
theorem dL_law_123 : decode cL_law 123 = .ok (.iload 7, 2) := by decide +kernel
theorem dL_law_125 : decode cL_law 125 = .ok (.iconst 3, 1) := by decide +kernel
theorem dL_law_126 : decode cL_law 126 = .ok (.irem, 1) := by decide +kernel
theorem dL_law_127 : decode cL_law 127 = .ok (.iload 7, 2) := by decide +kernel
theorem dL_law_129 : decode cL_law 129 = .ok (.iconst 3, 1) := by decide +kernel
theorem dL_law_130 : decode cL_law 130 = .ok (.idiv, 1) := by decide +kernel
theorem dL_law_131 : decode cL_law 131 = .ok (.iconst 3, 1) := by decide +kernel
theorem dL_law_132 : decode cL_law 132 = .ok (.irem, 1) := by decide +kernel
theorem dL_law_133 : decode cL_law 133 = .ok (.iload 7, 2) := by decide +kernel
theorem dL_law_135 : decode cL_law 135 = .ok (.bipush 9, 2) := by decide +kernel
theorem dL_law_137 : decode cL_law 137 = .ok (.idiv, 1) := by decide +kernel
theorem dL_law_138 : decode cL_law 138 = .ok (.iconst 3, 1) := by decide +kernel
theorem dL_law_139 : decode cL_law 139 = .ok (.irem, 1) := by decide +kernel
theorem dL_law_140 : decode cL_law 140 = .ok (.bipush 10, 2) := by decide +kernel
theorem dL_law_142 : decode cL_law 142 = .ok (.iload 7, 2) := by decide +kernel
theorem dL_law_144 : decode cL_law 144 = .ok (.bipush 27, 2) := by decide +kernel
theorem dL_law_146 : decode cL_law 146 = .ok (.idiv, 1) := by decide +kernel
theorem dL_law_147 : decode cL_law 147 = .ok (.iconst 4, 1) := by decide +kernel
theorem dL_law_148 : decode cL_law 148 = .ok (.irem, 1) := by decide +kernel
theorem dL_law_149 : decode cL_law 149 = .ok (.imul, 1) := by decide +kernel
theorem dL_law_150 : decode cL_law 150 = .ok (.iload 7, 2) := by decide +kernel
theorem dL_law_152 : decode cL_law 152 = .ok (.bipush 108, 2) := by decide +kernel
theorem dL_law_154 : decode cL_law 154 = .ok (.idiv, 1) := by decide +kernel
theorem dL_law_155 : decode cL_law 155 = .ok (.iconst 4, 1) := by decide +kernel
theorem dL_law_156 : decode cL_law 156 = .ok (.irem, 1) := by decide +kernel
theorem dL_law_157 : decode cL_law 157 = .ok (.iadd, 1) := by decide +kernel
theorem dL_law_158 : decode cL_law 158 = .ok (.invokestatic 115, 3) := by decide +kernel
theorem dL_law_161 : decode cL_law 161 = .ok (.iload_n 3, 1) := by decide +kernel
theorem dL_law_162 : decode cL_law 162 = .ok (.bipush 8, 2) := by decide +kernel
theorem dL_law_164 : decode cL_law 164 = .ok (.if_icmp .ge 7, 3) := by decide +kernel
theorem dL_law_167 : decode cL_law 167 = .ok (.iload_n 3, 1) := by decide +kernel
theorem dL_law_168 : decode cL_law 168 = .ok (.goto 5, 3) := by decide +kernel
theorem dL_law_171 : decode cL_law 171 = .ok (.bipush (-103), 2) := by decide +kernel
theorem dL_law_173 : decode cL_law 173 = .ok (.if_icmp .ne 7, 3) := by decide +kernel
theorem dL_law_176 : decode cL_law 176 = .ok (.iconst 1, 1) := by decide +kernel
theorem dL_law_177 : decode cL_law 177 = .ok (.goto 4, 3) := by decide +kernel
theorem dL_law_180 : decode cL_law 180 = .ok (.iconst 0, 1) := by decide +kernel
theorem dL_law_181 : decode cL_law 181 = .ok (.istore 4, 2) := by decide +kernel
theorem dL_law_183 : decode cL_law 183 = .ok (.iload_n 3, 1) := by decide +kernel
theorem dL_law_184 : decode cL_law 184 = .ok (.iload_n 3, 1) := by decide +kernel
theorem dL_law_185 : decode cL_law 185 = .ok (.bipush 8, 2) := by decide +kernel
theorem dL_law_187 : decode cL_law 187 = .ok (.if_icmp .ge 7, 3) := by decide +kernel
theorem dL_law_190 : decode cL_law 190 = .ok (.iconst 1, 1) := by decide +kernel
theorem dL_law_191 : decode cL_law 191 = .ok (.goto 4, 3) := by decide +kernel
theorem dL_law_194 : decode cL_law 194 = .ok (.iconst 0, 1) := by decide +kernel
theorem dL_law_195 : decode cL_law 195 = .ok (.iadd, 1) := by decide +kernel
theorem dL_law_196 : decode cL_law 196 = .ok (.istore_n 3, 1) := by decide +kernel
theorem dL_law_197 : decode cL_law 197 = .ok (.goto 488, 3) := by decide +kernel
theorem dL_law_200 : decode cL_law 200 = .ok (.iload 8, 2) := by decide +kernel
theorem dL_law_202 : decode cL_law 202 = .ok (.bipush 6, 2) := by decide +kernel
theorem dL_law_204 : decode cL_law 204 = .ok (.if_icmp .ne 44, 3) := by decide +kernel
theorem dL_law_207 : decode cL_law 207 = .ok (.aload_n 1, 1) := by decide +kernel
theorem dL_law_208 : decode cL_law 208 = .ok (.invokestatic 118, 3) := by decide +kernel
theorem dL_law_211 : decode cL_law 211 = .ok (.iload_n 3, 1) := by decide +kernel
theorem dL_law_212 : decode cL_law 212 = .ok (.ifCond .ne 8, 3) := by decide +kernel
theorem dL_law_215 : decode cL_law 215 = .ok (.bipush (-103), 2) := by decide +kernel
theorem dL_law_217 : decode cL_law 217 = .ok (.goto 6, 3) := by decide +kernel
theorem dL_law_220 : decode cL_law 220 = .ok (.iload_n 3, 1) := by decide +kernel
theorem dL_law_221 : decode cL_law 221 = .ok (.iconst 1, 1) := by decide +kernel
theorem dL_law_222 : decode cL_law 222 = .ok (.isub, 1) := by decide +kernel
theorem dL_law_223 : decode cL_law 223 = .ok (.if_icmp .ne 7, 3) := by decide +kernel
theorem dL_law_226 : decode cL_law 226 = .ok (.iconst 1, 1) := by decide +kernel
theorem dL_law_227 : decode cL_law 227 = .ok (.goto 4, 3) := by decide +kernel
theorem dL_law_230 : decode cL_law 230 = .ok (.iconst 0, 1) := by decide +kernel
theorem dL_law_231 : decode cL_law 231 = .ok (.istore 4, 2) := by decide +kernel
theorem dL_law_233 : decode cL_law 233 = .ok (.iload_n 3, 1) := by decide +kernel
theorem dL_law_234 : decode cL_law 234 = .ok (.iload_n 3, 1) := by decide +kernel
theorem dL_law_235 : decode cL_law 235 = .ok (.ifCond .ne 7, 3) := by decide +kernel
theorem dL_law_238 : decode cL_law 238 = .ok (.iconst 0, 1) := by decide +kernel
theorem dL_law_239 : decode cL_law 239 = .ok (.goto 4, 3) := by decide +kernel
theorem dL_law_242 : decode cL_law 242 = .ok (.iconst 1, 1) := by decide +kernel
theorem dL_law_243 : decode cL_law 243 = .ok (.isub, 1) := by decide +kernel
theorem dL_law_244 : decode cL_law 244 = .ok (.istore_n 3, 1) := by decide +kernel
theorem dL_law_245 : decode cL_law 245 = .ok (.goto 440, 3) := by decide +kernel
theorem dL_law_248 : decode cL_law 248 = .ok (.iload 8, 2) := by decide +kernel
theorem dL_law_250 : decode cL_law 250 = .ok (.bipush 7, 2) := by decide +kernel
theorem dL_law_252 : decode cL_law 252 = .ok (.if_icmp .ne 44, 3) := by decide +kernel
theorem dL_law_255 : decode cL_law 255 = .ok (.aload_n 1, 1) := by decide +kernel
theorem dL_law_256 : decode cL_law 256 = .ok (.iload 7, 2) := by decide +kernel
theorem dL_law_258 : decode cL_law 258 = .ok (.iload_n 2, 1) := by decide +kernel
theorem dL_law_259 : decode cL_law 259 = .ok (.irem, 1) := by decide +kernel
theorem dL_law_260 : decode cL_law 260 = .ok (.iload 7, 2) := by decide +kernel
theorem dL_law_262 : decode cL_law 262 = .ok (.iconst 5, 1) := by decide +kernel
theorem dL_law_263 : decode cL_law 263 = .ok (.idiv, 1) := by decide +kernel
theorem dL_law_264 : decode cL_law 264 = .ok (.iconst 3, 1) := by decide +kernel
theorem dL_law_265 : decode cL_law 265 = .ok (.irem, 1) := by decide +kernel
theorem dL_law_266 : decode cL_law 266 = .ok (.iload 7, 2) := by decide +kernel
theorem dL_law_268 : decode cL_law 268 = .ok (.bipush 15, 2) := by decide +kernel
theorem dL_law_270 : decode cL_law 270 = .ok (.idiv, 1) := by decide +kernel
theorem dL_law_271 : decode cL_law 271 = .ok (.iconst 4, 1) := by decide +kernel
theorem dL_law_272 : decode cL_law 272 = .ok (.irem, 1) := by decide +kernel
theorem dL_law_273 : decode cL_law 273 = .ok (.iload 7, 2) := by decide +kernel
theorem dL_law_275 : decode cL_law 275 = .ok (.bipush 60, 2) := by decide +kernel
theorem dL_law_277 : decode cL_law 277 = .ok (.idiv, 1) := by decide +kernel
theorem dL_law_278 : decode cL_law 278 = .ok (.iconst 4, 1) := by decide +kernel
theorem dL_law_279 : decode cL_law 279 = .ok (.irem, 1) := by decide +kernel
theorem dL_law_280 : decode cL_law 280 = .ok (.invokestatic 122, 3) := by decide +kernel
theorem dL_law_283 : decode cL_law 283 = .ok (.ifCond .lt 7, 3) := by decide +kernel
theorem dL_law_286 : decode cL_law 286 = .ok (.iconst 1, 1) := by decide +kernel
theorem dL_law_287 : decode cL_law 287 = .ok (.goto 4, 3) := by decide +kernel
theorem dL_law_290 : decode cL_law 290 = .ok (.iconst 0, 1) := by decide +kernel
theorem dL_law_291 : decode cL_law 291 = .ok (.istore 4, 2) := by decide +kernel
theorem dL_law_293 : decode cL_law 293 = .ok (.goto 392, 3) := by decide +kernel
theorem dL_law_296 : decode cL_law 296 = .ok (.iload 8, 2) := by decide +kernel
theorem dL_law_298 : decode cL_law 298 = .ok (.bipush 12, 2) := by decide +kernel
theorem dL_law_300 : decode cL_law 300 = .ok (.if_icmp .ge 47, 3) := by decide +kernel
theorem dL_law_303 : decode cL_law 303 = .ok (.iload 9, 2) := by decide +kernel
theorem dL_law_305 : decode cL_law 305 = .ok (.iconst 5, 1) := by decide +kernel
theorem dL_law_306 : decode cL_law 306 = .ok (.if_icmp .ge 41, 3) := by decide +kernel
theorem dL_law_309 : decode cL_law 309 = .ok (.aload_n 1, 1) := by decide +kernel
theorem dL_law_310 : decode cL_law 310 = .ok (.iload 7, 2) := by decide +kernel
theorem dL_law_312 : decode cL_law 312 = .ok (.iload_n 2, 1) := by decide +kernel
theorem dL_law_313 : decode cL_law 313 = .ok (.irem, 1) := by decide +kernel
theorem dL_law_314 : decode cL_law 314 = .ok (.invokestatic 124, 3) := by decide +kernel
theorem dL_law_317 : decode cL_law 317 = .ok (.iload 9, 2) := by decide +kernel
theorem dL_law_319 : decode cL_law 319 = .ok (.iconst 1, 1) := by decide +kernel
theorem dL_law_320 : decode cL_law 320 = .ok (.iadd, 1) := by decide +kernel
theorem dL_law_321 : decode cL_law 321 = .ok (.if_icmp .ne 20, 3) := by decide +kernel
theorem dL_law_324 : decode cL_law 324 = .ok (.aload_n 1, 1) := by decide +kernel
theorem dL_law_325 : decode cL_law 325 = .ok (.iload 9, 2) := by decide +kernel
theorem dL_law_327 : decode cL_law 327 = .ok (.invokestatic 100, 3) := by decide +kernel
theorem dL_law_330 : decode cL_law 330 = .ok (.iload 7, 2) := by decide +kernel
theorem dL_law_332 : decode cL_law 332 = .ok (.iload_n 2, 1) := by decide +kernel
theorem dL_law_333 : decode cL_law 333 = .ok (.irem, 1) := by decide +kernel
theorem dL_law_334 : decode cL_law 334 = .ok (.if_icmp .ne 7, 3) := by decide +kernel
theorem dL_law_337 : decode cL_law 337 = .ok (.iconst 1, 1) := by decide +kernel
theorem dL_law_338 : decode cL_law 338 = .ok (.goto 4, 3) := by decide +kernel
theorem dL_law_341 : decode cL_law 341 = .ok (.iconst 0, 1) := by decide +kernel
theorem dL_law_342 : decode cL_law 342 = .ok (.istore 4, 2) := by decide +kernel
theorem dL_law_344 : decode cL_law 344 = .ok (.goto 341, 3) := by decide +kernel
theorem dL_law_347 : decode cL_law 347 = .ok (.iload 8, 2) := by decide +kernel
theorem dL_law_349 : decode cL_law 349 = .ok (.bipush 14, 2) := by decide +kernel
theorem dL_law_351 : decode cL_law 351 = .ok (.if_icmp .ge 49, 3) := by decide +kernel
theorem dL_law_354 : decode cL_law 354 = .ok (.iload 9, 2) := by decide +kernel
theorem dL_law_356 : decode cL_law 356 = .ok (.ifCond .le 44, 3) := by decide +kernel
theorem dL_law_359 : decode cL_law 359 = .ok (.aload_n 1, 1) := by decide +kernel
theorem dL_law_360 : decode cL_law 360 = .ok (.iload 7, 2) := by decide +kernel
theorem dL_law_362 : decode cL_law 362 = .ok (.iload 9, 2) := by decide +kernel
theorem dL_law_364 : decode cL_law 364 = .ok (.irem, 1) := by decide +kernel
theorem dL_law_365 : decode cL_law 365 = .ok (.invokestatic 100, 3) := by decide +kernel
theorem dL_law_368 : decode cL_law 368 = .ok (.istore 10, 2) := by decide +kernel
theorem dL_law_370 : decode cL_law 370 = .ok (.aload_n 1, 1) := by decide +kernel
theorem dL_law_371 : decode cL_law 371 = .ok (.iload 7, 2) := by decide +kernel
theorem dL_law_373 : decode cL_law 373 = .ok (.iload 9, 2) := by decide +kernel
theorem dL_law_375 : decode cL_law 375 = .ok (.irem, 1) := by decide +kernel
theorem dL_law_376 : decode cL_law 376 = .ok (.iload 7, 2) := by decide +kernel
theorem dL_law_378 : decode cL_law 378 = .ok (.iconst 5, 1) := by decide +kernel
theorem dL_law_379 : decode cL_law 379 = .ok (.idiv, 1) := by decide +kernel
theorem dL_law_380 : decode cL_law 380 = .ok (.iload_n 2, 1) := by decide +kernel
theorem dL_law_381 : decode cL_law 381 = .ok (.irem, 1) := by decide +kernel
theorem dL_law_382 : decode cL_law 382 = .ok (.invokestatic 95, 3) := by decide +kernel
theorem dL_law_385 : decode cL_law 385 = .ok (.iload 10, 2) := by decide +kernel
theorem dL_law_387 : decode cL_law 387 = .ok (.if_icmp .ne 7, 3) := by decide +kernel
theorem dL_law_390 : decode cL_law 390 = .ok (.iconst 1, 1) := by decide +kernel
theorem dL_law_391 : decode cL_law 391 = .ok (.goto 4, 3) := by decide +kernel
theorem dL_law_394 : decode cL_law 394 = .ok (.iconst 0, 1) := by decide +kernel
theorem dL_law_395 : decode cL_law 395 = .ok (.istore 4, 2) := by decide +kernel
theorem dL_law_397 : decode cL_law 397 = .ok (.goto 288, 3) := by decide +kernel
theorem dL_law_400 : decode cL_law 400 = .ok (.iload 8, 2) := by decide +kernel
theorem dL_law_402 : decode cL_law 402 = .ok (.bipush 14, 2) := by decide +kernel
theorem dL_law_404 : decode cL_law 404 = .ok (.if_icmp .ne 29, 3) := by decide +kernel
theorem dL_law_407 : decode cL_law 407 = .ok (.aload_n 1, 1) := by decide +kernel
theorem dL_law_408 : decode cL_law 408 = .ok (.invokevirtual 126, 3) := by decide +kernel
theorem dL_law_411 : decode cL_law 411 = .ok (.iload 9, 2) := by decide +kernel
theorem dL_law_413 : decode cL_law 413 = .ok (.if_icmp .ne 14, 3) := by decide +kernel
theorem dL_law_416 : decode cL_law 416 = .ok (.aload_n 1, 1) := by decide +kernel
theorem dL_law_417 : decode cL_law 417 = .ok (.invokevirtual 67, 3) := by decide +kernel
theorem dL_law_420 : decode cL_law 420 = .ok (.ifCond .ne 7, 3) := by decide +kernel
theorem dL_law_423 : decode cL_law 423 = .ok (.iconst 1, 1) := by decide +kernel
theorem dL_law_424 : decode cL_law 424 = .ok (.goto 4, 3) := by decide +kernel
theorem dL_law_427 : decode cL_law 427 = .ok (.iconst 0, 1) := by decide +kernel
theorem dL_law_428 : decode cL_law 428 = .ok (.istore 4, 2) := by decide +kernel
theorem dL_law_430 : decode cL_law 430 = .ok (.goto 255, 3) := by decide +kernel
theorem dL_law_433 : decode cL_law 433 = .ok (.iconst 1, 1) := by decide +kernel
theorem dL_law_434 : decode cL_law 434 = .ok (.iload 7, 2) := by decide +kernel
theorem dL_law_436 : decode cL_law 436 = .ok (.iconst 3, 1) := by decide +kernel
theorem dL_law_437 : decode cL_law 437 = .ok (.irem, 1) := by decide +kernel
theorem dL_law_438 : decode cL_law 438 = .ok (.iadd, 1) := by decide +kernel
theorem dL_law_439 : decode cL_law 439 = .ok (.istore 10, 2) := by decide +kernel
theorem dL_law_441 : decode cL_law 441 = .ok (.aload_n 1, 1) := by decide +kernel
theorem dL_law_442 : decode cL_law 442 = .ok (.iload 10, 2) := by decide +kernel
theorem dL_law_444 : decode cL_law 444 = .ok (.invokestatic 129, 3) := by decide +kernel
theorem dL_law_447 : decode cL_law 447 = .ok (.istore 11, 2) := by decide +kernel
theorem dL_law_449 : decode cL_law 449 = .ok (.iload 10, 2) := by decide +kernel
theorem dL_law_451 : decode cL_law 451 = .ok (.iconst 1, 1) := by decide +kernel
theorem dL_law_452 : decode cL_law 452 = .ok (.if_icmp .ne 7, 3) := by decide +kernel
theorem dL_law_455 : decode cL_law 455 = .ok (.iload_n 2, 1) := by decide +kernel
theorem dL_law_456 : decode cL_law 456 = .ok (.goto 20, 3) := by decide +kernel
theorem dL_law_459 : decode cL_law 459 = .ok (.iload 10, 2) := by decide +kernel
theorem dL_law_461 : decode cL_law 461 = .ok (.iconst 2, 1) := by decide +kernel
theorem dL_law_462 : decode cL_law 462 = .ok (.if_icmp .ne 9, 3) := by decide +kernel
theorem dL_law_465 : decode cL_law 465 = .ok (.iload_n 2, 1) := by decide +kernel
theorem dL_law_466 : decode cL_law 466 = .ok (.iload_n 2, 1) := by decide +kernel
theorem dL_law_467 : decode cL_law 467 = .ok (.imul, 1) := by decide +kernel
theorem dL_law_468 : decode cL_law 468 = .ok (.goto 8, 3) := by decide +kernel
theorem dL_law_471 : decode cL_law 471 = .ok (.iload_n 2, 1) := by decide +kernel
theorem dL_law_472 : decode cL_law 472 = .ok (.iload_n 2, 1) := by decide +kernel
theorem dL_law_473 : decode cL_law 473 = .ok (.imul, 1) := by decide +kernel
theorem dL_law_474 : decode cL_law 474 = .ok (.iload_n 2, 1) := by decide +kernel
theorem dL_law_475 : decode cL_law 475 = .ok (.imul, 1) := by decide +kernel
theorem dL_law_476 : decode cL_law 476 = .ok (.istore 12, 2) := by decide +kernel
theorem dL_law_478 : decode cL_law 478 = .ok (.aload_n 1, 1) := by decide +kernel
theorem dL_law_479 : decode cL_law 479 = .ok (.iload 10, 2) := by decide +kernel
theorem dL_law_481 : decode cL_law 481 = .ok (.iload 11, 2) := by decide +kernel
theorem dL_law_483 : decode cL_law 483 = .ok (.iconst 1, 1) := by decide +kernel
theorem dL_law_484 : decode cL_law 484 = .ok (.isub, 1) := by decide +kernel
theorem dL_law_485 : decode cL_law 485 = .ok (.ifCond .ge 7, 3) := by decide +kernel
theorem dL_law_488 : decode cL_law 488 = .ok (.iconst 0, 1) := by decide +kernel
theorem dL_law_489 : decode cL_law 489 = .ok (.goto 7, 3) := by decide +kernel
theorem dL_law_492 : decode cL_law 492 = .ok (.iload 11, 2) := by decide +kernel
theorem dL_law_494 : decode cL_law 494 = .ok (.iconst 1, 1) := by decide +kernel
theorem dL_law_495 : decode cL_law 495 = .ok (.isub, 1) := by decide +kernel
theorem dL_law_496 : decode cL_law 496 = .ok (.invokestatic 131, 3) := by decide +kernel
theorem dL_law_499 : decode cL_law 499 = .ok (.istore 13, 2) := by decide +kernel
theorem dL_law_501 : decode cL_law 501 = .ok (.iload 11, 2) := by decide +kernel
theorem dL_law_503 : decode cL_law 503 = .ok (.ifCond .lt 66, 3) := by decide +kernel
theorem dL_law_506 : decode cL_law 506 = .ok (.iload 11, 2) := by decide +kernel
theorem dL_law_508 : decode cL_law 508 = .ok (.iload 12, 2) := by decide +kernel
theorem dL_law_510 : decode cL_law 510 = .ok (.if_icmp .gt 59, 3) := by decide +kernel
theorem dL_law_513 : decode cL_law 513 = .ok (.aload_n 1, 1) := by decide +kernel
theorem dL_law_514 : decode cL_law 514 = .ok (.iload 10, 2) := by decide +kernel
theorem dL_law_516 : decode cL_law 516 = .ok (.invokestatic 133, 3) := by decide +kernel
theorem dL_law_519 : decode cL_law 519 = .ok (.iload 11, 2) := by decide +kernel
theorem dL_law_521 : decode cL_law 521 = .ok (.i2f, 1) := by decide +kernel
theorem dL_law_522 : decode cL_law 522 = .ok (.iload 12, 2) := by decide +kernel
theorem dL_law_524 : decode cL_law 524 = .ok (.i2f, 1) := by decide +kernel
theorem dL_law_525 : decode cL_law 525 = .ok (.fdiv, 1) := by decide +kernel
theorem dL_law_526 : decode cL_law 526 = .ok (.fcmp .l, 1) := by decide +kernel
theorem dL_law_527 : decode cL_law 527 = .ok (.ifCond .ne 42, 3) := by decide +kernel
theorem dL_law_530 : decode cL_law 530 = .ok (.aload_n 1, 1) := by decide +kernel
theorem dL_law_531 : decode cL_law 531 = .ok (.iload 10, 2) := by decide +kernel
theorem dL_law_533 : decode cL_law 533 = .ok (.iload 11, 2) := by decide +kernel
theorem dL_law_535 : decode cL_law 535 = .ok (.invokestatic 131, 3) := by decide +kernel
theorem dL_law_538 : decode cL_law 538 = .ok (.iconst (-1), 1) := by decide +kernel
theorem dL_law_539 : decode cL_law 539 = .ok (.if_icmp .ne 30, 3) := by decide +kernel
theorem dL_law_542 : decode cL_law 542 = .ok (.iload 11, 2) := by decide +kernel
theorem dL_law_544 : decode cL_law 544 = .ok (.ifCond .le 7, 3) := by decide +kernel
theorem dL_law_547 : decode cL_law 547 = .ok (.iconst 1, 1) := by decide +kernel
theorem dL_law_548 : decode cL_law 548 = .ok (.goto 4, 3) := by decide +kernel
theorem dL_law_551 : decode cL_law 551 = .ok (.iconst 0, 1) := by decide +kernel
theorem dL_law_552 : decode cL_law 552 = .ok (.iload 13, 2) := by decide +kernel
theorem dL_law_554 : decode cL_law 554 = .ok (.ifCond .le 7, 3) := by decide +kernel
theorem dL_law_557 : decode cL_law 557 = .ok (.iconst 1, 1) := by decide +kernel
theorem dL_law_558 : decode cL_law 558 = .ok (.goto 4, 3) := by decide +kernel
theorem dL_law_561 : decode cL_law 561 = .ok (.iconst 0, 1) := by decide +kernel
theorem dL_law_562 : decode cL_law 562 = .ok (.if_icmp .ne 7, 3) := by decide +kernel
theorem dL_law_565 : decode cL_law 565 = .ok (.iconst 1, 1) := by decide +kernel
theorem dL_law_566 : decode cL_law 566 = .ok (.goto 4, 3) := by decide +kernel
theorem dL_law_569 : decode cL_law 569 = .ok (.iconst 0, 1) := by decide +kernel
theorem dL_law_570 : decode cL_law 570 = .ok (.istore 4, 2) := by decide +kernel
theorem dL_law_572 : decode cL_law 572 = .ok (.iload 4, 2) := by decide +kernel
theorem dL_law_574 : decode cL_law 574 = .ok (.ifCond .eq 111, 3) := by decide +kernel
theorem dL_law_577 : decode cL_law 577 = .ok (.iload 11, 2) := by decide +kernel
theorem dL_law_579 : decode cL_law 579 = .ok (.ifCond .le 106, 3) := by decide +kernel
theorem dL_law_582 : decode cL_law 582 = .ok (.aload_n 1, 1) := by decide +kernel
theorem dL_law_583 : decode cL_law 583 = .ok (.invokevirtual 126, 3) := by decide +kernel
theorem dL_law_586 : decode cL_law 586 = .ok (.pop, 1) := by decide +kernel
theorem dL_law_587 : decode cL_law 587 = .ok (.iload 10, 2) := by decide +kernel
theorem dL_law_589 : decode cL_law 589 = .ok (.iconst 1, 1) := by decide +kernel
theorem dL_law_590 : decode cL_law 590 = .ok (.if_icmp .ne 7, 3) := by decide +kernel
theorem dL_law_593 : decode cL_law 593 = .ok (.iconst 1, 1) := by decide +kernel
theorem dL_law_594 : decode cL_law 594 = .ok (.goto 16, 3) := by decide +kernel
theorem dL_law_597 : decode cL_law 597 = .ok (.iload 10, 2) := by decide +kernel
theorem dL_law_599 : decode cL_law 599 = .ok (.iconst 2, 1) := by decide +kernel
theorem dL_law_600 : decode cL_law 600 = .ok (.if_icmp .ne 8, 3) := by decide +kernel
theorem dL_law_603 : decode cL_law 603 = .ok (.bipush 10, 2) := by decide +kernel
theorem dL_law_605 : decode cL_law 605 = .ok (.goto 5, 3) := by decide +kernel
theorem dL_law_608 : decode cL_law 608 = .ok (.bipush 100, 2) := by decide +kernel
theorem dL_law_610 : decode cL_law 610 = .ok (.istore 14, 2) := by decide +kernel
theorem dL_law_612 : decode cL_law 612 = .ok (.iconst 0, 1) := by decide +kernel
theorem dL_law_613 : decode cL_law 613 = .ok (.istore 15, 2) := by decide +kernel
theorem dL_law_615 : decode cL_law 615 = .ok (.iload 15, 2) := by decide +kernel
theorem dL_law_617 : decode cL_law 617 = .ok (.iload 10, 2) := by decide +kernel
theorem dL_law_619 : decode cL_law 619 = .ok (.if_icmp .ge 47, 3) := by decide +kernel
theorem dL_law_622 : decode cL_law 622 = .ok (.iload 4, 2) := by decide +kernel
theorem dL_law_624 : decode cL_law 624 = .ok (.ifCond .eq 42, 3) := by decide +kernel
theorem dL_law_627 : decode cL_law 627 = .ok (.aload_n 1, 1) := by decide +kernel
theorem dL_law_628 : decode cL_law 628 = .ok (.iload 13, 2) := by decide +kernel
theorem dL_law_630 : decode cL_law 630 = .ok (.iload 14, 2) := by decide +kernel
theorem dL_law_632 : decode cL_law 632 = .ok (.idiv, 1) := by decide +kernel
theorem dL_law_633 : decode cL_law 633 = .ok (.bipush 10, 2) := by decide +kernel
theorem dL_law_635 : decode cL_law 635 = .ok (.irem, 1) := by decide +kernel
theorem dL_law_636 : decode cL_law 636 = .ok (.invokestatic 124, 3) := by decide +kernel
theorem dL_law_639 : decode cL_law 639 = .ok (.iload 15, 2) := by decide +kernel
theorem dL_law_641 : decode cL_law 641 = .ok (.iconst 1, 1) := by decide +kernel
theorem dL_law_642 : decode cL_law 642 = .ok (.iadd, 1) := by decide +kernel
theorem dL_law_643 : decode cL_law 643 = .ok (.if_icmp .ne 7, 3) := by decide +kernel
theorem dL_law_646 : decode cL_law 646 = .ok (.iconst 1, 1) := by decide +kernel
theorem dL_law_647 : decode cL_law 647 = .ok (.goto 4, 3) := by decide +kernel
theorem dL_law_650 : decode cL_law 650 = .ok (.iconst 0, 1) := by decide +kernel
theorem dL_law_651 : decode cL_law 651 = .ok (.istore 4, 2) := by decide +kernel
theorem dL_law_653 : decode cL_law 653 = .ok (.iload 14, 2) := by decide +kernel
theorem dL_law_655 : decode cL_law 655 = .ok (.bipush 10, 2) := by decide +kernel
theorem dL_law_657 : decode cL_law 657 = .ok (.idiv, 1) := by decide +kernel
theorem dL_law_658 : decode cL_law 658 = .ok (.istore 14, 2) := by decide +kernel
theorem dL_law_660 : decode cL_law 660 = .ok (.iinc 15 1, 3) := by decide +kernel
theorem dL_law_663 : decode cL_law 663 = .ok (.goto (-48), 3) := by decide +kernel
theorem dL_law_666 : decode cL_law 666 = .ok (.iload 4, 2) := by decide +kernel
theorem dL_law_668 : decode cL_law 668 = .ok (.ifCond .eq 14, 3) := by decide +kernel
theorem dL_law_671 : decode cL_law 671 = .ok (.aload_n 1, 1) := by decide +kernel
theorem dL_law_672 : decode cL_law 672 = .ok (.invokevirtual 70, 3) := by decide +kernel
theorem dL_law_675 : decode cL_law 675 = .ok (.ifCond .le 7, 3) := by decide +kernel
theorem dL_law_678 : decode cL_law 678 = .ok (.iconst 1, 1) := by decide +kernel
theorem dL_law_679 : decode cL_law 679 = .ok (.goto 4, 3) := by decide +kernel
theorem dL_law_682 : decode cL_law 682 = .ok (.iconst 0, 1) := by decide +kernel
theorem dL_law_683 : decode cL_law 683 = .ok (.istore 4, 2) := by decide +kernel
theorem dL_law_685 : decode cL_law 685 = .ok (.iload 4, 2) := by decide +kernel
theorem dL_law_687 : decode cL_law 687 = .ok (.ifCond .eq 32, 3) := by decide +kernel
theorem dL_law_690 : decode cL_law 690 = .ok (.aload_n 1, 1) := by decide +kernel
theorem dL_law_691 : decode cL_law 691 = .ok (.iload 7, 2) := by decide +kernel
theorem dL_law_693 : decode cL_law 693 = .ok (.invokestatic 104, 3) := by decide +kernel
theorem dL_law_696 : decode cL_law 696 = .ok (.ifCond .eq 23, 3) := by decide +kernel
theorem dL_law_699 : decode cL_law 699 = .ok (.iload 5, 2) := by decide +kernel
theorem dL_law_701 : decode cL_law 701 = .ok (.iconst 3, 1) := by decide +kernel
theorem dL_law_702 : decode cL_law 702 = .ok (.irem, 1) := by decide +kernel
theorem dL_law_703 : decode cL_law 703 = .ok (.ifCond .gt 12, 3) := by decide +kernel
theorem dL_law_706 : decode cL_law 706 = .ok (.aload_n 1, 1) := by decide +kernel
theorem dL_law_707 : decode cL_law 707 = .ok (.iload 7, 2) := by decide +kernel
theorem dL_law_709 : decode cL_law 709 = .ok (.invokestatic 136, 3) := by decide +kernel
theorem dL_law_712 : decode cL_law 712 = .ok (.ifCond .eq 7, 3) := by decide +kernel
theorem dL_law_715 : decode cL_law 715 = .ok (.iconst 1, 1) := by decide +kernel
theorem dL_law_716 : decode cL_law 716 = .ok (.goto 4, 3) := by decide +kernel
theorem dL_law_719 : decode cL_law 719 = .ok (.iconst 0, 1) := by decide +kernel
theorem dL_law_720 : decode cL_law 720 = .ok (.istore 4, 2) := by decide +kernel
theorem dL_law_722 : decode cL_law 722 = .ok (.iinc 5 1, 3) := by decide +kernel
theorem dL_law_725 : decode cL_law 725 = .ok (.goto (-703), 3) := by decide +kernel
theorem dL_law_728 : decode cL_law 728 = .ok (.iload 4, 2) := by decide +kernel
theorem dL_law_730 : decode cL_law 730 = .ok (.ireturn, 1) := by decide +kernel

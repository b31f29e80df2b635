set_option maxRecDepth 20000 in
theorem ggL_setAddress_X4_setAddress : GoodIn wsL_setAddress wsX4_setAddress := goodIn_ca (goodIn_ca (goodIn_r _ [7, 8, 9, 10, 6, 11, 12, 13, 14, 15, 16, 17, 18, 19, 20, 21, 22, 23, 24, 25, 26, 27, 28, 29, 30, 31, 32, 33, 34, 35, 36, 37, 38, 39, 40, 41, 42, 43, 44] (by decide +kernel) (by decide +kernel)) (goodIn_sub (fun _ h => List.mem_cons_of_mem _ (List.mem_append_left _ (List.mem_append_right _ h))) (by decide +kernel))) (goodIn_sub (fun _ h => List.mem_cons_of_mem _ (List.mem_append_right _ h)) (by decide +kernel))
set_option maxRecDepth 20000 in
theorem gL_setAddress_X4_setAddress : GoodIn wsL_setAddress (wsV RL 7 RX4 yX4_setAddress wsX4_setAddress) := goodIn_app (goodIn_of _ (by decide +kernel)) ggL_setAddress_X4_setAddress
theorem dL_setAddress_0 : decode cL_setAddress 0 = .ok (.aload_n 0, 1) := by decide +kernel
theorem dL_setAddress_1 : decode cL_setAddress 1 = .ok (.iload_n 1, 1) := by decide +kernel
theorem dL_setAddress_2 : decode cL_setAddress 2 = .ok (.iload_n 2, 1) := by decide +kernel
theorem dL_setAddress_3 : decode cL_setAddress 3 = .ok (.iload_n 3, 1) := by decide +kernel
theorem dL_setAddress_4 : decode cL_setAddress 4 = .ok (.invokevirtual 7, 3) := by decide +kernel
theorem dL_setAddress_7 : decode cL_setAddress 7 = .ok (.goto 11, 3) := by decide +kernel
theorem dL_setAddress_10 : decode cL_setAddress 10 = .ok (.astore 4, 2) := by decide +kernel
theorem dL_setAddress_12 : decode cL_setAddress 12 = .ok (.iconst 1, 1) := by decide +kernel
theorem dL_setAddress_13 : decode cL_setAddress 13 = .ok (.ireturn, 1) := by decide +kernel
theorem dL_setAddress_14 : decode cL_setAddress 14 = .ok (.astore 4, 2) := by decide +kernel
theorem dL_setAddress_16 : decode cL_setAddress 16 = .ok (.iconst 2, 1) := by decide +kernel
theorem dL_setAddress_17 : decode cL_setAddress 17 = .ok (.ireturn, 1) := by decide +kernel
theorem dL_setAddress_18 : decode cL_setAddress 18 = .ok (.iconst 0, 1) := by decide +kernel
theorem dL_setAddress_19 : decode cL_setAddress 19 = .ok (.ireturn, 1) := by decide +kernel
set_option maxRecDepth 20000 in
theorem ggL_setAlias_X4_setAlias : GoodIn wsL_setAlias wsX4_setAlias := goodIn_ca (goodIn_ca (goodIn_r _ [7, 8, 9, 10, 11, 12, 6, 13, 14, 15, 16, 17, 18, 19, 20, 21, 22, 23, 24, 25, 26, 27, 28, 29, 30, 31, 32, 33, 34, 35, 36, 37, 38, 39, 40, 41, 42, 43, 44] (by decide +kernel) (by decide +kernel)) (goodIn_sub (fun _ h => List.mem_cons_of_mem _ (List.mem_append_left _ (List.mem_append_right _ h))) (by decide +kernel))) (goodIn_sub (fun _ h => List.mem_cons_of_mem _ (List.mem_append_right _ h)) (by decide +kernel))
set_option maxRecDepth 20000 in
theorem gL_setAlias_X4_setAlias : GoodIn wsL_setAlias (wsV RL 17 RX4 yX4_setAlias wsX4_setAlias) := goodIn_app (goodIn_of _ (by decide +kernel)) ggL_setAlias_X4_setAlias
theorem dL_setAlias_0 : decode cL_setAlias 0 = .ok (.aload_n 0, 1) := by decide +kernel
theorem dL_setAlias_1 : decode cL_setAlias 1 = .ok (.iload_n 1, 1) := by decide +kernel
theorem dL_setAlias_2 : decode cL_setAlias 2 = .ok (.iload_n 2, 1) := by decide +kernel
theorem dL_setAlias_3 : decode cL_setAlias 3 = .ok (.iload_n 3, 1) := by decide +kernel
theorem dL_setAlias_4 : decode cL_setAlias 4 = .ok (.invokevirtual 17, 3) := by decide +kernel
theorem dL_setAlias_7 : decode cL_setAlias 7 = .ok (.goto 11, 3) := by decide +kernel
theorem dL_setAlias_10 : decode cL_setAlias 10 = .ok (.astore 4, 2) := by decide +kernel
theorem dL_setAlias_12 : decode cL_setAlias 12 = .ok (.iconst 1, 1) := by decide +kernel
theorem dL_setAlias_13 : decode cL_setAlias 13 = .ok (.ireturn, 1) := by decide +kernel
theorem dL_setAlias_14 : decode cL_setAlias 14 = .ok (.astore 4, 2) := by decide +kernel
theorem dL_setAlias_16 : decode cL_setAlias 16 = .ok (.iconst 2, 1) := by decide +kernel
theorem dL_setAlias_17 : decode cL_setAlias 17 = .ok (.ireturn, 1) := by decide +kernel
theorem dL_setAlias_18 : decode cL_setAlias 18 = .ok (.iconst 0, 1) := by decide +kernel
theorem dL_setAlias_19 : decode cL_setAlias 19 = .ok (.ireturn, 1) := by decide +kernel
set_option maxRecDepth 20000 in
theorem ggL_remove_X4_remove : GoodIn wsL_remove wsX4_remove := goodIn_ca (goodIn_r _ [6, 7, 8, 9, 5, 10, 11, 12, 13, 14, 15, 16, 17, 18, 19, 20, 21, 22, 23, 24, 25, 26, 27, 28, 29, 30, 31, 32, 33, 34, 35, 36, 37, 38, 39, 40, 41, 42] (by decide +kernel) (by decide +kernel)) (goodIn_sub (fun _ h => List.mem_cons_of_mem _ (List.mem_append_right _ h)) (by decide +kernel))
set_option maxRecDepth 20000 in
theorem gL_remove_X4_remove : GoodIn wsL_remove (wsV RL 20 RX4 yX4_remove wsX4_remove) := goodIn_app (goodIn_of _ (by decide +kernel)) ggL_remove_X4_remove
theorem dL_remove_0 : decode cL_remove 0 = .ok (.aload_n 2, 1) := by decide +kernel
theorem dL_remove_1 : decode cL_remove 1 = .ok (.iconst 0, 1) := by decide +kernel
theorem dL_remove_2 : decode cL_remove 2 = .ok (.aload_n 0, 1) := by decide +kernel
theorem dL_remove_3 : decode cL_remove 3 = .ok (.iload_n 1, 1) := by decide +kernel
theorem dL_remove_4 : decode cL_remove 4 = .ok (.invokevirtual 20, 3) := by decide +kernel
theorem dL_remove_7 : decode cL_remove 7 = .ok (.ifCond .eq 7, 3) := by decide +kernel
theorem dL_remove_10 : decode cL_remove 10 = .ok (.lconst 1, 1) := by decide +kernel
theorem dL_remove_11 : decode cL_remove 11 = .ok (.goto 4, 3) := by decide +kernel
theorem dL_remove_14 : decode cL_remove 14 = .ok (.lconst 0, 1) := by decide +kernel
theorem dL_remove_15 : decode cL_remove 15 = .ok (.lastore, 1) := by decide +kernel
theorem dL_remove_16 : decode cL_remove 16 = .ok (.goto 6, 3) := by decide +kernel
theorem dL_remove_19 : decode cL_remove 19 = .ok (.astore_n 3, 1) := by decide +kernel
theorem dL_remove_20 : decode cL_remove 20 = .ok (.iconst 1, 1) := by decide +kernel
theorem dL_remove_21 : decode cL_remove 21 = .ok (.ireturn, 1) := by decide +kernel
theorem dL_remove_22 : decode cL_remove 22 = .ok (.iconst 0, 1) := by decide +kernel
theorem dL_remove_23 : decode cL_remove 23 = .ok (.ireturn, 1) := by decide +kernel
set_option maxRecDepth 20000 in
theorem ggL_setBound_X4_setBound : GoodIn wsL_setBound wsX4_setBound := goodIn_ca (goodIn_r _ [6, 7, 8, 9, 10, 5, 11, 12, 13, 14, 15, 16, 17, 18, 19, 20, 21, 22, 23, 24, 25, 26, 27, 28, 29, 30, 31] (by decide +kernel) (by decide +kernel)) (goodIn_sub (fun _ h => List.mem_cons_of_mem _ (List.mem_append_right _ h)) (by decide +kernel))
set_option maxRecDepth 20000 in
theorem gL_setBound_X4_setBound : GoodIn wsL_setBound (wsV RL 24 RX4 yX4_setBound wsX4_setBound) := goodIn_app (goodIn_of _ (by decide +kernel)) ggL_setBound_X4_setBound
theorem dL_setBound_0 : decode cL_setBound 0 = .ok (.aload_n 2, 1) := by decide +kernel
theorem dL_setBound_1 : decode cL_setBound 1 = .ok (.iconst 0, 1) := by decide +kernel
theorem dL_setBound_2 : decode cL_setBound 2 = .ok (.aload_n 0, 1) := by decide +kernel
theorem dL_setBound_3 : decode cL_setBound 3 = .ok (.iload_n 1, 1) := by decide +kernel
theorem dL_setBound_4 : decode cL_setBound 4 = .ok (.invokevirtual 24, 3) := by decide +kernel
theorem dL_setBound_7 : decode cL_setBound 7 = .ok (.i2l, 1) := by decide +kernel
theorem dL_setBound_8 : decode cL_setBound 8 = .ok (.lastore, 1) := by decide +kernel
theorem dL_setBound_9 : decode cL_setBound 9 = .ok (.goto 6, 3) := by decide +kernel
theorem dL_setBound_12 : decode cL_setBound 12 = .ok (.astore_n 3, 1) := by decide +kernel
theorem dL_setBound_13 : decode cL_setBound 13 = .ok (.iconst 1, 1) := by decide +kernel
theorem dL_setBound_14 : decode cL_setBound 14 = .ok (.ireturn, 1) := by decide +kernel
theorem dL_setBound_15 : decode cL_setBound 15 = .ok (.iconst 0, 1) := by decide +kernel
theorem dL_setBound_16 : decode cL_setBound 16 = .ok (.ireturn, 1) := by decide +kernel
set_option maxRecDepth 20000 in
theorem ggL_truth_X4_truth : GoodIn wsL_truth wsX4_truth := goodIn_ca (goodIn_r _ [6, 7, 8, 9, 5, 10, 11, 12, 13, 14, 15, 16, 17, 18, 19, 20, 21, 22, 23, 24, 25, 26, 27, 28, 29, 30, 31, 32, 33, 34, 35, 36, 37, 38, 39, 40, 41] (by decide +kernel) (by decide +kernel)) (goodIn_sub (fun _ h => List.mem_cons_of_mem _ (List.mem_append_right _ h)) (by decide +kernel))
set_option maxRecDepth 20000 in
theorem gL_truth_X4_truth : GoodIn wsL_truth (wsV RL 28 RX4 yX4_truth wsX4_truth) := goodIn_app (goodIn_of _ (by decide +kernel)) ggL_truth_X4_truth
theorem dL_truth_0 : decode cL_truth 0 = .ok (.aload_n 2, 1) := by decide +kernel
theorem dL_truth_1 : decode cL_truth 1 = .ok (.iconst 0, 1) := by decide +kernel
theorem dL_truth_2 : decode cL_truth 2 = .ok (.aload_n 0, 1) := by decide +kernel
theorem dL_truth_3 : decode cL_truth 3 = .ok (.iload_n 1, 1) := by decide +kernel
theorem dL_truth_4 : decode cL_truth 4 = .ok (.invokevirtual 28, 3) := by decide +kernel
theorem dL_truth_7 : decode cL_truth 7 = .ok (.i2l, 1) := by decide +kernel
theorem dL_truth_8 : decode cL_truth 8 = .ok (.lastore, 1) := by decide +kernel
theorem dL_truth_9 : decode cL_truth 9 = .ok (.goto 6, 3) := by decide +kernel
theorem dL_truth_12 : decode cL_truth 12 = .ok (.astore_n 3, 1) := by decide +kernel
theorem dL_truth_13 : decode cL_truth 13 = .ok (.iconst 1, 1) := by decide +kernel
theorem dL_truth_14 : decode cL_truth 14 = .ok (.ireturn, 1) := by decide +kernel
theorem dL_truth_15 : decode cL_truth 15 = .ok (.iconst 0, 1) := by decide +kernel
theorem dL_truth_16 : decode cL_truth 16 = .ok (.ireturn, 1) := by decide +kernel
set_option maxRecDepth 20000 in
theorem ggL_addSite_X4_addSite : GoodIn wsL_addSite wsX4_addSite := goodIn_ca (goodIn_ca (goodIn_r _ [7, 8, 9, 10, 11, 12, 13, 14, 15, 16, 6, 17, 18, 19, 20, 21, 22, 23, 24, 25, 26, 27, 28, 29, 30, 31, 32, 33, 34, 35, 36, 37, 38, 39, 40, 41, 42, 43, 44, 45, 46, 47, 48, 49, 50, 51, 52, 53, 54, 55, 56, 57, 58, 59, 60, 61, 62, 63, 64, 65, 66, 67, 68, 69] (by decide +kernel) (by decide +kernel)) (goodIn_sub (fun _ h => List.mem_cons_of_mem _ (List.mem_append_left _ (List.mem_append_right _ h))) (by decide +kernel))) (goodIn_sub (fun _ h => List.mem_cons_of_mem _ (List.mem_append_right _ h)) (by decide +kernel))
set_option maxRecDepth 20000 in
theorem gL_addSite_X4_addSite : GoodIn wsL_addSite (wsV RL 31 RX4 yX4_addSite wsX4_addSite) := goodIn_app (goodIn_of _ (by decide +kernel)) ggL_addSite_X4_addSite
theorem dL_addSite_0 : decode cL_addSite 0 = .ok (.aload_n 2, 1) := by decide +kernel
theorem dL_addSite_1 : decode cL_addSite 1 = .ok (.iconst 0, 1) := by decide +kernel
theorem dL_addSite_2 : decode cL_addSite 2 = .ok (.aload_n 0, 1) := by decide +kernel
theorem dL_addSite_3 : decode cL_addSite 3 = .ok (.iload_n 1, 1) := by decide +kernel
theorem dL_addSite_4 : decode cL_addSite 4 = .ok (.invokevirtual 31, 3) := by decide +kernel
theorem dL_addSite_7 : decode cL_addSite 7 = .ok (.i2l, 1) := by decide +kernel
theorem dL_addSite_8 : decode cL_addSite 8 = .ok (.lastore, 1) := by decide +kernel
theorem dL_addSite_9 : decode cL_addSite 9 = .ok (.goto 9, 3) := by decide +kernel
theorem dL_addSite_12 : decode cL_addSite 12 = .ok (.astore_n 3, 1) := by decide +kernel
theorem dL_addSite_13 : decode cL_addSite 13 = .ok (.iconst 1, 1) := by decide +kernel
theorem dL_addSite_14 : decode cL_addSite 14 = .ok (.ireturn, 1) := by decide +kernel
theorem dL_addSite_15 : decode cL_addSite 15 = .ok (.astore_n 3, 1) := by decide +kernel
theorem dL_addSite_16 : decode cL_addSite 16 = .ok (.iconst 2, 1) := by decide +kernel
theorem dL_addSite_17 : decode cL_addSite 17 = .ok (.ireturn, 1) := by decide +kernel
theorem dL_addSite_18 : decode cL_addSite 18 = .ok (.iconst 0, 1) := by decide +kernel
theorem dL_addSite_19 : decode cL_addSite 19 = .ok (.ireturn, 1) := by decide +kernel
set_option maxRecDepth 20000 in
theorem ggL_announce_X4_announce : GoodIn wsL_announce wsX4_announce := goodIn_ca (goodIn_r _ [6, 7, 8, 9, 10, 5, 11, 12, 13, 14, 15, 16, 17, 18, 19, 20, 21, 22, 23, 24, 25, 26, 27, 28, 29, 30, 31] (by decide +kernel) (by decide +kernel)) (goodIn_sub (fun _ h => List.mem_cons_of_mem _ (List.mem_append_right _ h)) (by decide +kernel))
set_option maxRecDepth 20000 in
theorem gL_announce_X4_announce : GoodIn wsL_announce (wsV RL 36 RX4 yX4_announce wsX4_announce) := goodIn_app (goodIn_of _ (by decide +kernel)) ggL_announce_X4_announce
theorem dL_announce_0 : decode cL_announce 0 = .ok (.aload_n 3, 1) := by decide +kernel
theorem dL_announce_1 : decode cL_announce 1 = .ok (.iconst 0, 1) := by decide +kernel
theorem dL_announce_2 : decode cL_announce 2 = .ok (.aload_n 0, 1) := by decide +kernel
theorem dL_announce_3 : decode cL_announce 3 = .ok (.iload_n 1, 1) := by decide +kernel
theorem dL_announce_4 : decode cL_announce 4 = .ok (.iload_n 2, 1) := by decide +kernel
theorem dL_announce_5 : decode cL_announce 5 = .ok (.invokevirtual 36, 3) := by decide +kernel
theorem dL_announce_8 : decode cL_announce 8 = .ok (.ifCond .eq 7, 3) := by decide +kernel
theorem dL_announce_11 : decode cL_announce 11 = .ok (.lconst 1, 1) := by decide +kernel
theorem dL_announce_12 : decode cL_announce 12 = .ok (.goto 4, 3) := by decide +kernel
theorem dL_announce_15 : decode cL_announce 15 = .ok (.lconst 0, 1) := by decide +kernel
theorem dL_announce_16 : decode cL_announce 16 = .ok (.lastore, 1) := by decide +kernel
theorem dL_announce_17 : decode cL_announce 17 = .ok (.goto 7, 3) := by decide +kernel
theorem dL_announce_20 : decode cL_announce 20 = .ok (.astore 4, 2) := by decide +kernel
theorem dL_announce_22 : decode cL_announce 22 = .ok (.iconst 1, 1) := by decide +kernel
theorem dL_announce_23 : decode cL_announce 23 = .ok (.ireturn, 1) := by decide +kernel
theorem dL_announce_24 : decode cL_announce 24 = .ok (.iconst 0, 1) := by decide +kernel
theorem dL_announce_25 : decode cL_announce 25 = .ok (.ireturn, 1) := by decide +kernel
set_option maxRecDepth 20000 in
theorem ggL_siteFor_X4_siteFor : GoodIn wsL_siteFor wsX4_siteFor := goodIn_ca (goodIn_r _ [6, 7, 8, 9, 5, 10, 11, 12, 13, 14, 15, 16, 17, 18, 19, 20, 21, 22, 23, 24, 25, 26, 27, 28, 29, 30, 31, 32, 33, 34, 35, 36, 37, 38, 39, 40, 41, 42, 43, 44, 45] (by decide +kernel) (by decide +kernel)) (goodIn_sub (fun _ h => List.mem_cons_of_mem _ (List.mem_append_right _ h)) (by decide +kernel))
set_option maxRecDepth 20000 in
theorem gL_siteFor_X4_siteFor : GoodIn wsL_siteFor (wsV RL 40 RX4 yX4_siteFor wsX4_siteFor) := goodIn_app (goodIn_of _ (by decide +kernel)) ggL_siteFor_X4_siteFor
theorem dL_siteFor_0 : decode cL_siteFor 0 = .ok (.aload_n 2, 1) := by decide +kernel
theorem dL_siteFor_1 : decode cL_siteFor 1 = .ok (.iconst 0, 1) := by decide +kernel
theorem dL_siteFor_2 : decode cL_siteFor 2 = .ok (.aload_n 0, 1) := by decide +kernel
theorem dL_siteFor_3 : decode cL_siteFor 3 = .ok (.iload_n 1, 1) := by decide +kernel
theorem dL_siteFor_4 : decode cL_siteFor 4 = .ok (.invokevirtual 40, 3) := by decide +kernel
theorem dL_siteFor_7 : decode cL_siteFor 7 = .ok (.i2l, 1) := by decide +kernel
theorem dL_siteFor_8 : decode cL_siteFor 8 = .ok (.lastore, 1) := by decide +kernel
theorem dL_siteFor_9 : decode cL_siteFor 9 = .ok (.goto 6, 3) := by decide +kernel
theorem dL_siteFor_12 : decode cL_siteFor 12 = .ok (.astore_n 3, 1) := by decide +kernel
theorem dL_siteFor_13 : decode cL_siteFor 13 = .ok (.iconst 1, 1) := by decide +kernel
theorem dL_siteFor_14 : decode cL_siteFor 14 = .ok (.ireturn, 1) := by decide +kernel
theorem dL_siteFor_15 : decode cL_siteFor 15 = .ok (.iconst 0, 1) := by decide +kernel
theorem dL_siteFor_16 : decode cL_siteFor 16 = .ok (.ireturn, 1) := by decide +kernel
set_option maxRecDepth 20000 in
theorem ggL_flush_X4_flush : GoodIn wsL_flush wsX4_flush := goodIn_ca (goodIn_r _ [6, 7, 8, 9, 5, 10, 11, 12, 13, 14, 15, 16, 17, 18, 19, 20, 21, 22, 23, 24, 25, 26, 27, 28, 29, 30, 31, 32, 33, 34, 35, 36, 37, 38, 39, 40, 41, 42, 43, 44, 45, 46, 47, 48, 49, 50, 51, 52, 53, 54, 55] (by decide +kernel) (by decide +kernel)) (goodIn_sub (fun _ h => List.mem_cons_of_mem _ (List.mem_append_right _ h)) (by decide +kernel))
set_option maxRecDepth 20000 in
theorem gL_flush_X4_flush : GoodIn wsL_flush (wsV RL 43 RX4 yX4_flush wsX4_flush) := goodIn_app (goodIn_of _ (by decide +kernel)) ggL_flush_X4_flush
theorem dL_flush_0 : decode cL_flush 0 = .ok (.aload_n 3, 1) := by decide +kernel
theorem dL_flush_1 : decode cL_flush 1 = .ok (.iconst 0, 1) := by decide +kernel
theorem dL_flush_2 : decode cL_flush 2 = .ok (.aload_n 0, 1) := by decide +kernel
theorem dL_flush_3 : decode cL_flush 3 = .ok (.iload_n 1, 1) := by decide +kernel
theorem dL_flush_4 : decode cL_flush 4 = .ok (.iload_n 2, 1) := by decide +kernel
theorem dL_flush_5 : decode cL_flush 5 = .ok (.invokevirtual 43, 3) := by decide +kernel
theorem dL_flush_8 : decode cL_flush 8 = .ok (.ifCond .eq 7, 3) := by decide +kernel
theorem dL_flush_11 : decode cL_flush 11 = .ok (.lconst 1, 1) := by decide +kernel
theorem dL_flush_12 : decode cL_flush 12 = .ok (.goto 4, 3) := by decide +kernel
theorem dL_flush_15 : decode cL_flush 15 = .ok (.lconst 0, 1) := by decide +kernel
theorem dL_flush_16 : decode cL_flush 16 = .ok (.lastore, 1) := by decide +kernel
theorem dL_flush_17 : decode cL_flush 17 = .ok (.goto 7, 3) := by decide +kernel
theorem dL_flush_20 : decode cL_flush 20 = .ok (.astore 4, 2) := by decide +kernel
theorem dL_flush_22 : decode cL_flush 22 = .ok (.iconst 1, 1) := by decide +kernel
theorem dL_flush_23 : decode cL_flush 23 = .ok (.ireturn, 1) := by decide +kernel
theorem dL_flush_24 : decode cL_flush 24 = .ok (.iconst 0, 1) := by decide +kernel
theorem dL_flush_25 : decode cL_flush 25 = .ok (.ireturn, 1) := by decide +kernel
set_option maxRecDepth 20000 in
theorem ggL_pass_X4_pass : GoodIn wsL_pass wsX4_pass := goodIn_ca (goodIn_r _ [6, 7, 8, 9, 5, 10, 11, 12, 13, 14, 15, 16, 17, 18, 19, 20, 21, 22, 23, 24, 25] (by decide +kernel) (by decide +kernel)) (goodIn_sub (fun _ h => List.mem_cons_of_mem _ (List.mem_append_right _ h)) (by decide +kernel))
set_option maxRecDepth 20000 in
theorem gL_pass_X4_pass : GoodIn wsL_pass (wsV RL 47 RX4 yX4_pass wsX4_pass) := goodIn_app (goodIn_of _ (by decide +kernel)) ggL_pass_X4_pass
theorem dL_pass_0 : decode cL_pass 0 = .ok (.aload_n 2, 1) := by decide +kernel
theorem dL_pass_1 : decode cL_pass 1 = .ok (.iconst 0, 1) := by decide +kernel
theorem dL_pass_2 : decode cL_pass 2 = .ok (.aload_n 0, 1) := by decide +kernel
theorem dL_pass_3 : decode cL_pass 3 = .ok (.iload_n 1, 1) := by decide +kernel
theorem dL_pass_4 : decode cL_pass 4 = .ok (.invokevirtual 47, 3) := by decide +kernel
theorem dL_pass_7 : decode cL_pass 7 = .ok (.i2l, 1) := by decide +kernel
theorem dL_pass_8 : decode cL_pass 8 = .ok (.lastore, 1) := by decide +kernel
theorem dL_pass_9 : decode cL_pass 9 = .ok (.goto 6, 3) := by decide +kernel
theorem dL_pass_12 : decode cL_pass 12 = .ok (.astore_n 3, 1) := by decide +kernel
theorem dL_pass_13 : decode cL_pass 13 = .ok (.iconst 1, 1) := by decide +kernel
theorem dL_pass_14 : decode cL_pass 14 = .ok (.ireturn, 1) := by decide +kernel
theorem dL_pass_15 : decode cL_pass 15 = .ok (.iconst 0, 1) := by decide +kernel
theorem dL_pass_16 : decode cL_pass 16 = .ok (.ireturn, 1) := by decide +kernel
set_option maxRecDepth 20000 in
theorem ggL_query_X4_query : GoodIn wsL_query wsX4_query := goodIn_ca (goodIn_ca (goodIn_ca (goodIn_r _ [8, 9, 10, 11, 12, 13, 14, 15, 7, 16, 17, 18, 19, 20, 21, 22, 23, 24, 25, 26, 27, 28, 29, 30, 31, 32, 33, 34, 35, 36, 37, 38, 39, 40, 41, 42, 43, 44, 45, 46, 47, 48, 49, 50, 51, 52, 53, 54, 55, 56, 57, 58, 59, 60, 61, 62, 63, 64, 65, 66, 67, 68, 69, 70, 71, 72, 73, 74, 75, 76, 77, 78, 79, 80, 81, 82, 83, 84, 85, 86, 87, 88, 89, 90, 91, 92, 93, 94, 95, 96, 97, 98, 99, 100, 101, 102, 103, 104, 105, 106, 107, 108, 109, 110, 111, 112, 113, 114, 115, 116, 117, 118, 119, 120, 121, 122, 123, 124, 125, 126, 127, 128, 129, 130, 131, 132, 133, 134, 135, 136, 137, 138, 139, 140, 141, 142, 143, 144, 145, 146, 147, 148, 149, 150, 151, 152, 153, 154, 155, 156, 157, 158, 159, 160, 161, 162, 163, 164, 165, 166, 167, 168, 169, 170, 171, 172, 173, 174, 175, 176, 177, 178, 179, 180, 181, 182, 183, 184, 185, 186, 187, 188, 189, 190, 191, 192, 193, 194] (by decide +kernel) (by decide +kernel)) (goodIn_sub (fun _ h => List.mem_cons_of_mem _ (List.mem_append_left _ (List.mem_append_left _ (List.mem_append_right _ h)))) (by decide +kernel))) (goodIn_sub (fun _ h => List.mem_cons_of_mem _ (List.mem_append_left _ (List.mem_append_right _ h))) (by decide +kernel))) (goodIn_sub (fun _ h => List.mem_cons_of_mem _ (List.mem_append_right _ h)) (by decide +kernel))
set_option maxRecDepth 20000 in
theorem gL_query_X4_query : GoodIn wsL_query (wsV RL 50 RX4 yX4_query wsX4_query) := goodIn_app (goodIn_of _ (by decide +kernel)) ggL_query_X4_query
theorem dL_query_0 : decode cL_query 0 = .ok (.aload_n 3, 1) := by decide +kernel
theorem dL_query_1 : decode cL_query 1 = .ok (.iconst 0, 1) := by decide +kernel
theorem dL_query_2 : decode cL_query 2 = .ok (.aload_n 0, 1) := by decide +kernel
theorem dL_query_3 : decode cL_query 3 = .ok (.iload_n 1, 1) := by decide +kernel
theorem dL_query_4 : decode cL_query 4 = .ok (.iload_n 2, 1) := by decide +kernel
theorem dL_query_5 : decode cL_query 5 = .ok (.invokevirtual 50, 3) := by decide +kernel
theorem dL_query_8 : decode cL_query 8 = .ok (.i2l, 1) := by decide +kernel
theorem dL_query_9 : decode cL_query 9 = .ok (.lastore, 1) := by decide +kernel
theorem dL_query_10 : decode cL_query 10 = .ok (.goto 15, 3) := by decide +kernel
theorem dL_query_13 : decode cL_query 13 = .ok (.astore 4, 2) := by decide +kernel
theorem dL_query_15 : decode cL_query 15 = .ok (.iconst 1, 1) := by decide +kernel
theorem dL_query_16 : decode cL_query 16 = .ok (.ireturn, 1) := by decide +kernel
theorem dL_query_17 : decode cL_query 17 = .ok (.astore 4, 2) := by decide +kernel
theorem dL_query_19 : decode cL_query 19 = .ok (.iconst 2, 1) := by decide +kernel
theorem dL_query_20 : decode cL_query 20 = .ok (.ireturn, 1) := by decide +kernel
theorem dL_query_21 : decode cL_query 21 = .ok (.astore 4, 2) := by decide +kernel
theorem dL_query_23 : decode cL_query 23 = .ok (.iconst 3, 1) := by decide +kernel
theorem dL_query_24 : decode cL_query 24 = .ok (.ireturn, 1) := by decide +kernel
theorem dL_query_25 : decode cL_query 25 = .ok (.iconst 0, 1) := by decide +kernel
theorem dL_query_26 : decode cL_query 26 = .ok (.ireturn, 1) := by decide +kernel
set_option maxRecDepth 20000 in
theorem ggL_wouldAnswer_X4_wouldAnswer : GoodIn wsL_wouldAnswer wsX4_wouldAnswer := goodIn_ca (goodIn_ca (goodIn_ca (goodIn_r _ [8, 9, 10, 11, 12, 13, 14, 7, 15, 16, 17, 18, 19, 20, 21, 22, 23, 24, 25, 26, 27, 28, 29, 30, 31, 32, 33, 34, 35, 36, 37, 38, 39, 40, 41, 42, 43, 44, 45, 46, 47, 48, 49, 50, 51, 52, 53, 54, 55, 56, 57, 58, 59, 60, 61, 62, 63, 64, 65, 66, 67, 68, 69, 70, 71, 72, 73, 74, 75, 76, 77, 78, 79, 80, 81, 82, 83, 84, 85, 86, 87, 88, 89, 90, 91, 92, 93, 94, 95, 96, 97, 98, 99, 100, 101, 102, 103, 104, 105, 106, 107, 108, 109, 110, 111, 112, 113, 114, 115, 116, 117, 118, 119, 120, 121, 122, 123, 124, 125, 126, 127, 128, 129, 130, 131, 132, 133, 134, 135, 136, 137, 138, 139, 140, 141, 142, 143, 144, 145, 146, 147, 148, 149, 150, 151, 152, 153, 154, 155, 156, 157, 158, 159, 160, 161, 162, 163, 164, 165, 166, 167, 168, 169, 170, 171, 172, 173, 174, 175, 176, 177, 178] (by decide +kernel) (by decide +kernel)) (goodIn_sub (fun _ h => List.mem_cons_of_mem _ (List.mem_append_left _ (List.mem_append_left _ (List.mem_append_right _ h)))) (by decide +kernel))) (goodIn_sub (fun _ h => List.mem_cons_of_mem _ (List.mem_append_left _ (List.mem_append_right _ h))) (by decide +kernel))) (goodIn_sub (fun _ h => List.mem_cons_of_mem _ (List.mem_append_right _ h)) (by decide +kernel))
set_option maxRecDepth 20000 in
theorem gL_wouldAnswer_X4_wouldAnswer : GoodIn wsL_wouldAnswer (wsV RL 54 RX4 yX4_wouldAnswer wsX4_wouldAnswer) := goodIn_app (goodIn_of _ (by decide +kernel)) ggL_wouldAnswer_X4_wouldAnswer
theorem dL_wouldAnswer_0 : decode cL_wouldAnswer 0 = .ok (.aload_n 3, 1) := by decide +kernel
theorem dL_wouldAnswer_1 : decode cL_wouldAnswer 1 = .ok (.iconst 0, 1) := by decide +kernel
theorem dL_wouldAnswer_2 : decode cL_wouldAnswer 2 = .ok (.aload_n 0, 1) := by decide +kernel
theorem dL_wouldAnswer_3 : decode cL_wouldAnswer 3 = .ok (.iload_n 1, 1) := by decide +kernel
theorem dL_wouldAnswer_4 : decode cL_wouldAnswer 4 = .ok (.iload_n 2, 1) := by decide +kernel
theorem dL_wouldAnswer_5 : decode cL_wouldAnswer 5 = .ok (.invokevirtual 54, 3) := by decide +kernel
theorem dL_wouldAnswer_8 : decode cL_wouldAnswer 8 = .ok (.i2l, 1) := by decide +kernel
theorem dL_wouldAnswer_9 : decode cL_wouldAnswer 9 = .ok (.lastore, 1) := by decide +kernel
theorem dL_wouldAnswer_10 : decode cL_wouldAnswer 10 = .ok (.goto 15, 3) := by decide +kernel
theorem dL_wouldAnswer_13 : decode cL_wouldAnswer 13 = .ok (.astore 4, 2) := by decide +kernel
theorem dL_wouldAnswer_15 : decode cL_wouldAnswer 15 = .ok (.iconst 1, 1) := by decide +kernel
theorem dL_wouldAnswer_16 : decode cL_wouldAnswer 16 = .ok (.ireturn, 1) := by decide +kernel
theorem dL_wouldAnswer_17 : decode cL_wouldAnswer 17 = .ok (.astore 4, 2) := by decide +kernel
theorem dL_wouldAnswer_19 : decode cL_wouldAnswer 19 = .ok (.iconst 2, 1) := by decide +kernel
theorem dL_wouldAnswer_20 : decode cL_wouldAnswer 20 = .ok (.ireturn, 1) := by decide +kernel
theorem dL_wouldAnswer_21 : decode cL_wouldAnswer 21 = .ok (.astore 4, 2) := by decide +kernel
theorem dL_wouldAnswer_23 : decode cL_wouldAnswer 23 = .ok (.iconst 3, 1) := by decide +kernel
theorem dL_wouldAnswer_24 : decode cL_wouldAnswer 24 = .ok (.ireturn, 1) := by decide +kernel
theorem dL_wouldAnswer_25 : decode cL_wouldAnswer 25 = .ok (.iconst 0, 1) := by decide +kernel
theorem dL_wouldAnswer_26 : decode cL_wouldAnswer 26 = .ok (.ireturn, 1) := by decide +kernel
set_option maxRecDepth 20000 in
theorem ggL_entries_X4_entries : GoodIn wsL_entries wsX4_entries := goodIn_ca (goodIn_r _ [6, 7, 8, 9, 10, 11, 5, 12, 13, 14, 15, 16, 17, 18, 19, 20, 21, 22, 23, 24, 25, 26, 27, 28, 29, 30, 31, 32, 33, 34, 35, 36, 37, 38] (by decide +kernel) (by decide +kernel)) (goodIn_sub (fun _ h => List.mem_cons_of_mem _ (List.mem_append_right _ h)) (by decide +kernel))
set_option maxRecDepth 20000 in
theorem gL_entries_X4_entries : GoodIn wsL_entries (wsV RL 57 RX4 yX4_entries wsX4_entries) := goodIn_app (goodIn_of _ (by decide +kernel)) ggL_entries_X4_entries
theorem dL_entries_0 : decode cL_entries 0 = .ok (.aload_n 2, 1) := by decide +kernel
theorem dL_entries_1 : decode cL_entries 1 = .ok (.iconst 0, 1) := by decide +kernel
theorem dL_entries_2 : decode cL_entries 2 = .ok (.aload_n 0, 1) := by decide +kernel
theorem dL_entries_3 : decode cL_entries 3 = .ok (.iload_n 1, 1) := by decide +kernel
theorem dL_entries_4 : decode cL_entries 4 = .ok (.invokevirtual 57, 3) := by decide +kernel
theorem dL_entries_7 : decode cL_entries 7 = .ok (.i2l, 1) := by decide +kernel
theorem dL_entries_8 : decode cL_entries 8 = .ok (.lastore, 1) := by decide +kernel
theorem dL_entries_9 : decode cL_entries 9 = .ok (.goto 6, 3) := by decide +kernel
theorem dL_entries_12 : decode cL_entries 12 = .ok (.astore_n 3, 1) := by decide +kernel
theorem dL_entries_13 : decode cL_entries 13 = .ok (.iconst 1, 1) := by decide +kernel
theorem dL_entries_14 : decode cL_entries 14 = .ok (.ireturn, 1) := by decide +kernel
theorem dL_entries_15 : decode cL_entries 15 = .ok (.iconst 0, 1) := by decide +kernel
theorem dL_entries_16 : decode cL_entries 16 = .ok (.ireturn, 1) := by decide +kernel
set_option maxRecDepth 20000 in
theorem ggL_cachedKind_X4_cachedKind : GoodIn wsL_cachedKind wsX4_cachedKind := goodIn_ca (goodIn_r _ [6, 7, 8, 9, 5, 10, 11, 12, 13, 14, 15, 16, 17, 18, 19, 20, 21, 22, 23, 24, 25, 26, 27, 28, 29, 30, 31, 32, 33, 34, 35, 36, 37, 38, 39, 40, 41, 42, 43, 44, 45, 46, 47, 48, 49, 50, 51, 52, 53, 54] (by decide +kernel) (by decide +kernel)) (goodIn_sub (fun _ h => List.mem_cons_of_mem _ (List.mem_append_right _ h)) (by decide +kernel))
set_option maxRecDepth 20000 in
theorem gL_cachedKind_X4_cachedKind : GoodIn wsL_cachedKind (wsV RL 60 RX4 yX4_cachedKind wsX4_cachedKind) := goodIn_app (goodIn_of _ (by decide +kernel)) ggL_cachedKind_X4_cachedKind
theorem dL_cachedKind_0 : decode cL_cachedKind 0 = .ok (.aload_n 3, 1) := by decide +kernel
theorem dL_cachedKind_1 : decode cL_cachedKind 1 = .ok (.iconst 0, 1) := by decide +kernel
theorem dL_cachedKind_2 : decode cL_cachedKind 2 = .ok (.aload_n 0, 1) := by decide +kernel
theorem dL_cachedKind_3 : decode cL_cachedKind 3 = .ok (.iload_n 1, 1) := by decide +kernel
theorem dL_cachedKind_4 : decode cL_cachedKind 4 = .ok (.iload_n 2, 1) := by decide +kernel
theorem dL_cachedKind_5 : decode cL_cachedKind 5 = .ok (.invokevirtual 60, 3) := by decide +kernel
theorem dL_cachedKind_8 : decode cL_cachedKind 8 = .ok (.i2l, 1) := by decide +kernel
theorem dL_cachedKind_9 : decode cL_cachedKind 9 = .ok (.lastore, 1) := by decide +kernel
theorem dL_cachedKind_10 : decode cL_cachedKind 10 = .ok (.goto 7, 3) := by decide +kernel
theorem dL_cachedKind_13 : decode cL_cachedKind 13 = .ok (.astore 4, 2) := by decide +kernel
theorem dL_cachedKind_15 : decode cL_cachedKind 15 = .ok (.iconst 1, 1) := by decide +kernel
theorem dL_cachedKind_16 : decode cL_cachedKind 16 = .ok (.ireturn, 1) := by decide +kernel
theorem dL_cachedKind_17 : decode cL_cachedKind 17 = .ok (.iconst 0, 1) := by decide +kernel
theorem dL_cachedKind_18 : decode cL_cachedKind 18 = .ok (.ireturn, 1) := by decide +kernel
set_option maxRecDepth 20000 in
theorem ggL_cachedValue_X4_cachedValue : GoodIn wsL_cachedValue wsX4_cachedValue := goodIn_ca (goodIn_r _ [6, 7, 8, 9, 5, 10, 11, 12, 13, 14, 15, 16, 17, 18, 19, 20, 21, 22, 23, 24, 25, 26, 27, 28, 29, 30, 31, 32, 33, 34, 35, 36, 37, 38, 39, 40, 41, 42, 43, 44, 45, 46, 47, 48, 49, 50, 51, 52, 53, 54, 55] (by decide +kernel) (by decide +kernel)) (goodIn_sub (fun _ h => List.mem_cons_of_mem _ (List.mem_append_right _ h)) (by decide +kernel))
set_option maxRecDepth 20000 in
theorem gL_cachedValue_X4_cachedValue : GoodIn wsL_cachedValue (wsV RL 63 RX4 yX4_cachedValue wsX4_cachedValue) := goodIn_app (goodIn_of _ (by decide +kernel)) ggL_cachedValue_X4_cachedValue
theorem dL_cachedValue_0 : decode cL_cachedValue 0 = .ok (.aload_n 3, 1) := by decide +kernel
theorem dL_cachedValue_1 : decode cL_cachedValue 1 = .ok (.iconst 0, 1) := by decide +kernel
theorem dL_cachedValue_2 : decode cL_cachedValue 2 = .ok (.aload_n 0, 1) := by decide +kernel
theorem dL_cachedValue_3 : decode cL_cachedValue 3 = .ok (.iload_n 1, 1) := by decide +kernel
theorem dL_cachedValue_4 : decode cL_cachedValue 4 = .ok (.iload_n 2, 1) := by decide +kernel
theorem dL_cachedValue_5 : decode cL_cachedValue 5 = .ok (.invokevirtual 63, 3) := by decide +kernel
theorem dL_cachedValue_8 : decode cL_cachedValue 8 = .ok (.i2l, 1) := by decide +kernel
theorem dL_cachedValue_9 : decode cL_cachedValue 9 = .ok (.lastore, 1) := by decide +kernel
theorem dL_cachedValue_10 : decode cL_cachedValue 10 = .ok (.goto 7, 3) := by decide +kernel
theorem dL_cachedValue_13 : decode cL_cachedValue 13 = .ok (.astore 4, 2) := by decide +kernel
theorem dL_cachedValue_15 : decode cL_cachedValue 15 = .ok (.iconst 1, 1) := by decide +kernel
theorem dL_cachedValue_16 : decode cL_cachedValue 16 = .ok (.ireturn, 1) := by decide +kernel
theorem dL_cachedValue_17 : decode cL_cachedValue 17 = .ok (.iconst 0, 1) := by decide +kernel
theorem dL_cachedValue_18 : decode cL_cachedValue 18 = .ok (.ireturn, 1) := by decide +kernel
set_option maxRecDepth 20000 in
theorem ggL_left_X4_left : GoodIn wsL_left wsX4_left := goodIn_ca (goodIn_ca (goodIn_r _ [7, 8, 9, 10, 11, 12, 13, 6, 14, 15, 16, 17, 18, 19, 20, 21, 22, 23, 24, 25, 26, 27, 28, 29, 30, 31, 32, 33, 34, 35, 36, 37, 38, 39, 40, 41, 42, 43, 44, 45, 46, 47, 48, 49, 50, 51, 52, 53, 54, 55, 56, 57, 58, 59, 60] (by decide +kernel) (by decide +kernel)) (goodIn_sub (fun _ h => List.mem_cons_of_mem _ (List.mem_append_left _ (List.mem_append_right _ h))) (by decide +kernel))) (goodIn_sub (fun _ h => List.mem_cons_of_mem _ (List.mem_append_right _ h)) (by decide +kernel))
set_option maxRecDepth 20000 in
theorem gL_left_X4_left : GoodIn wsL_left (wsV RL 66 RX4 yX4_left wsX4_left) := goodIn_app (goodIn_of _ (by decide +kernel)) ggL_left_X4_left
theorem dL_left_0 : decode cL_left 0 = .ok (.aload_n 3, 1) := by decide +kernel
theorem dL_left_1 : decode cL_left 1 = .ok (.iconst 0, 1) := by decide +kernel
theorem dL_left_2 : decode cL_left 2 = .ok (.aload_n 0, 1) := by decide +kernel
theorem dL_left_3 : decode cL_left 3 = .ok (.iload_n 1, 1) := by decide +kernel
theorem dL_left_4 : decode cL_left 4 = .ok (.iload_n 2, 1) := by decide +kernel
theorem dL_left_5 : decode cL_left 5 = .ok (.invokevirtual 66, 3) := by decide +kernel
theorem dL_left_8 : decode cL_left 8 = .ok (.i2l, 1) := by decide +kernel
theorem dL_left_9 : decode cL_left 9 = .ok (.lastore, 1) := by decide +kernel
theorem dL_left_10 : decode cL_left 10 = .ok (.goto 11, 3) := by decide +kernel
theorem dL_left_13 : decode cL_left 13 = .ok (.astore 4, 2) := by decide +kernel
theorem dL_left_15 : decode cL_left 15 = .ok (.iconst 1, 1) := by decide +kernel
theorem dL_left_16 : decode cL_left 16 = .ok (.ireturn, 1) := by decide +kernel
theorem dL_left_17 : decode cL_left 17 = .ok (.astore 4, 2) := by decide +kernel
theorem dL_left_19 : decode cL_left 19 = .ok (.iconst 2, 1) := by decide +kernel
theorem dL_left_20 : decode cL_left 20 = .ok (.ireturn, 1) := by decide +kernel
theorem dL_left_21 : decode cL_left 21 = .ok (.iconst 0, 1) := by decide +kernel
theorem dL_left_22 : decode cL_left 22 = .ok (.ireturn, 1) := by decide +kernel
set_option maxRecDepth 20000 in
theorem ggL_hitsOf_X4_hitsOf : GoodIn wsL_hitsOf wsX4_hitsOf := goodIn_ca (goodIn_r _ [6, 7, 8, 9, 5, 10, 11, 12, 13, 14, 15, 16, 17, 18, 19, 20, 21, 22, 23, 24, 25, 26, 27, 28, 29, 30, 31, 32, 33, 34, 35, 36, 37, 38, 39, 40, 41, 42, 43, 44, 45, 46, 47, 48, 49, 50, 51, 52, 53, 54, 55] (by decide +kernel) (by decide +kernel)) (goodIn_sub (fun _ h => List.mem_cons_of_mem _ (List.mem_append_right _ h)) (by decide +kernel))
set_option maxRecDepth 20000 in
theorem gL_hitsOf_X4_hitsOf : GoodIn wsL_hitsOf (wsV RL 69 RX4 yX4_hitsOf wsX4_hitsOf) := goodIn_app (goodIn_of _ (by decide +kernel)) ggL_hitsOf_X4_hitsOf
theorem dL_hitsOf_0 : decode cL_hitsOf 0 = .ok (.aload_n 3, 1) := by decide +kernel
theorem dL_hitsOf_1 : decode cL_hitsOf 1 = .ok (.iconst 0, 1) := by decide +kernel
theorem dL_hitsOf_2 : decode cL_hitsOf 2 = .ok (.aload_n 0, 1) := by decide +kernel
theorem dL_hitsOf_3 : decode cL_hitsOf 3 = .ok (.iload_n 1, 1) := by decide +kernel
theorem dL_hitsOf_4 : decode cL_hitsOf 4 = .ok (.iload_n 2, 1) := by decide +kernel
theorem dL_hitsOf_5 : decode cL_hitsOf 5 = .ok (.invokevirtual 69, 3) := by decide +kernel
theorem dL_hitsOf_8 : decode cL_hitsOf 8 = .ok (.i2l, 1) := by decide +kernel
theorem dL_hitsOf_9 : decode cL_hitsOf 9 = .ok (.lastore, 1) := by decide +kernel
theorem dL_hitsOf_10 : decode cL_hitsOf 10 = .ok (.goto 7, 3) := by decide +kernel
theorem dL_hitsOf_13 : decode cL_hitsOf 13 = .ok (.astore 4, 2) := by decide +kernel
theorem dL_hitsOf_15 : decode cL_hitsOf 15 = .ok (.iconst 1, 1) := by decide +kernel
theorem dL_hitsOf_16 : decode cL_hitsOf 16 = .ok (.ireturn, 1) := by decide +kernel
theorem dL_hitsOf_17 : decode cL_hitsOf 17 = .ok (.iconst 0, 1) := by decide +kernel
theorem dL_hitsOf_18 : decode cL_hitsOf 18 = .ok (.ireturn, 1) := by decide +kernel


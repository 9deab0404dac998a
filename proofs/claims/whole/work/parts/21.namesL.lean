set_option maxRecDepth 20000 in
theorem ggL_follow_X4_follow : GoodIn wsL_follow wsX4_follow := goodIn_ca (goodIn_ca (goodIn_ca (goodIn_r _ [8, 9, 10, 11, 12, 13, 14, 7, 15, 16, 17, 18, 19, 20, 21, 22, 23, 24, 25, 26, 27, 28, 29, 30, 31, 32, 33, 34, 35, 36, 37, 38, 39, 40, 41, 42, 43, 44, 45, 46, 47, 48, 49, 50, 51, 52, 53, 54, 55, 56, 57, 58, 59, 60, 61, 62, 63, 64, 65, 66, 67, 68, 69, 70, 71, 72, 73, 74, 75, 76, 77, 78, 79, 80, 81, 82, 83, 84, 85, 86, 87, 88, 89, 90, 91, 92, 93, 94, 95, 96, 97, 98, 99, 100, 101, 102, 103, 104, 105, 106, 107, 108, 109, 110, 111, 112, 113, 114, 115, 116, 117, 118, 119, 120, 121, 122, 123, 124, 125, 126] (by decide +kernel) (by decide +kernel)) (goodIn_sub (fun _ h => List.mem_cons_of_mem _ (List.mem_append_left _ (List.mem_append_left _ (List.mem_append_right _ h)))) (by decide +kernel))) (goodIn_sub (fun _ h => List.mem_cons_of_mem _ (List.mem_append_left _ (List.mem_append_right _ h))) (by decide +kernel))) (goodIn_sub (fun _ h => List.mem_cons_of_mem _ (List.mem_append_right _ h)) (by decide +kernel))
set_option maxRecDepth 20000 in
theorem gL_follow_X4_follow : GoodIn wsL_follow (wsV RL 7 RX4 yX4_follow wsX4_follow) := goodIn_app (goodIn_of _ (by decide +kernel)) ggL_follow_X4_follow
theorem dL_follow_0 : decode cL_follow 0 = .ok (.aload_n 3, 1) := by decide +kernel
theorem dL_follow_1 : decode cL_follow 1 = .ok (.iconst 0, 1) := by decide +kernel
theorem dL_follow_2 : decode cL_follow 2 = .ok (.aload_n 0, 1) := by decide +kernel
theorem dL_follow_3 : decode cL_follow 3 = .ok (.iload_n 1, 1) := by decide +kernel
theorem dL_follow_4 : decode cL_follow 4 = .ok (.iload_n 2, 1) := by decide +kernel
theorem dL_follow_5 : decode cL_follow 5 = .ok (.invokevirtual 7, 3) := by decide +kernel
theorem dL_follow_8 : decode cL_follow 8 = .ok (.i2l, 1) := by decide +kernel
theorem dL_follow_9 : decode cL_follow 9 = .ok (.lastore, 1) := by decide +kernel
theorem dL_follow_10 : decode cL_follow 10 = .ok (.goto 15, 3) := by decide +kernel
theorem dL_follow_13 : decode cL_follow 13 = .ok (.astore 4, 2) := by decide +kernel
theorem dL_follow_15 : decode cL_follow 15 = .ok (.iconst 1, 1) := by decide +kernel
theorem dL_follow_16 : decode cL_follow 16 = .ok (.ireturn, 1) := by decide +kernel
theorem dL_follow_17 : decode cL_follow 17 = .ok (.astore 4, 2) := by decide +kernel
theorem dL_follow_19 : decode cL_follow 19 = .ok (.iconst 2, 1) := by decide +kernel
theorem dL_follow_20 : decode cL_follow 20 = .ok (.ireturn, 1) := by decide +kernel
theorem dL_follow_21 : decode cL_follow 21 = .ok (.astore 4, 2) := by decide +kernel
theorem dL_follow_23 : decode cL_follow 23 = .ok (.iconst 3, 1) := by decide +kernel
theorem dL_follow_24 : decode cL_follow 24 = .ok (.ireturn, 1) := by decide +kernel
theorem dL_follow_25 : decode cL_follow 25 = .ok (.iconst 0, 1) := by decide +kernel
theorem dL_follow_26 : decode cL_follow 26 = .ok (.ireturn, 1) := by decide +kernel
set_option maxRecDepth 20000 in
theorem ggL_unfollow_X4_unfollow : GoodIn wsL_unfollow wsX4_unfollow := goodIn_ca (goodIn_ca (goodIn_r _ [7, 8, 9, 10, 11, 12, 6, 13, 14, 15, 16, 17, 18, 19, 20, 21, 22, 23, 24, 25, 26, 27, 28, 29, 30, 31, 32, 33, 34, 35, 36, 37, 38, 39, 40, 41, 42, 43, 44, 45, 46, 47, 48, 49, 50, 51, 52, 53, 54, 55, 56, 57, 58, 59, 60, 61, 62, 63, 64, 65, 66, 67, 68, 69, 70, 71, 72, 73, 74, 75, 76, 77, 78, 79, 80, 81, 82, 83, 84, 85, 86, 87, 88, 89, 90, 91, 92, 93, 94, 95, 96, 97, 98, 99, 100, 101, 102, 103, 104, 105, 106, 107, 108, 109, 110, 111, 112, 113, 114, 115, 116, 117, 118, 119] (by decide +kernel) (by decide +kernel)) (goodIn_sub (fun _ h => List.mem_cons_of_mem _ (List.mem_append_left _ (List.mem_append_right _ h))) (by decide +kernel))) (goodIn_sub (fun _ h => List.mem_cons_of_mem _ (List.mem_append_right _ h)) (by decide +kernel))
set_option maxRecDepth 20000 in
theorem gL_unfollow_X4_unfollow : GoodIn wsL_unfollow (wsV RL 19 RX4 yX4_unfollow wsX4_unfollow) := goodIn_app (goodIn_of _ (by decide +kernel)) ggL_unfollow_X4_unfollow
theorem dL_unfollow_0 : decode cL_unfollow 0 = .ok (.aload_n 3, 1) := by decide +kernel
theorem dL_unfollow_1 : decode cL_unfollow 1 = .ok (.iconst 0, 1) := by decide +kernel
theorem dL_unfollow_2 : decode cL_unfollow 2 = .ok (.aload_n 0, 1) := by decide +kernel
theorem dL_unfollow_3 : decode cL_unfollow 3 = .ok (.iload_n 1, 1) := by decide +kernel
theorem dL_unfollow_4 : decode cL_unfollow 4 = .ok (.iload_n 2, 1) := by decide +kernel
theorem dL_unfollow_5 : decode cL_unfollow 5 = .ok (.invokevirtual 19, 3) := by decide +kernel
theorem dL_unfollow_8 : decode cL_unfollow 8 = .ok (.i2l, 1) := by decide +kernel
theorem dL_unfollow_9 : decode cL_unfollow 9 = .ok (.lastore, 1) := by decide +kernel
theorem dL_unfollow_10 : decode cL_unfollow 10 = .ok (.goto 11, 3) := by decide +kernel
theorem dL_unfollow_13 : decode cL_unfollow 13 = .ok (.astore 4, 2) := by decide +kernel
theorem dL_unfollow_15 : decode cL_unfollow 15 = .ok (.iconst 1, 1) := by decide +kernel
theorem dL_unfollow_16 : decode cL_unfollow 16 = .ok (.ireturn, 1) := by decide +kernel
theorem dL_unfollow_17 : decode cL_unfollow 17 = .ok (.astore 4, 2) := by decide +kernel
theorem dL_unfollow_19 : decode cL_unfollow 19 = .ok (.iconst 2, 1) := by decide +kernel
theorem dL_unfollow_20 : decode cL_unfollow 20 = .ok (.ireturn, 1) := by decide +kernel
theorem dL_unfollow_21 : decode cL_unfollow 21 = .ok (.iconst 0, 1) := by decide +kernel
theorem dL_unfollow_22 : decode cL_unfollow 22 = .ok (.ireturn, 1) := by decide +kernel
set_option maxRecDepth 20000 in
theorem ggL_mute_X4_mute : GoodIn wsL_mute wsX4_mute := goodIn_ca (goodIn_ca (goodIn_r _ [7, 8, 9, 10, 6, 11, 12, 13, 14, 15, 16, 17, 18, 19, 20, 21, 22, 23, 24, 25, 26, 27, 28, 29, 30, 31, 32, 33, 34, 35, 36, 37, 38, 39, 40] (by decide +kernel) (by decide +kernel)) (goodIn_sub (fun _ h => List.mem_cons_of_mem _ (List.mem_append_left _ (List.mem_append_right _ h))) (by decide +kernel))) (goodIn_sub (fun _ h => List.mem_cons_of_mem _ (List.mem_append_right _ h)) (by decide +kernel))
set_option maxRecDepth 20000 in
theorem gL_mute_X4_mute : GoodIn wsL_mute (wsV RL 22 RX4 yX4_mute wsX4_mute) := goodIn_app (goodIn_of _ (by decide +kernel)) ggL_mute_X4_mute
theorem dL_mute_0 : decode cL_mute 0 = .ok (.aload 4, 2) := by decide +kernel
theorem dL_mute_2 : decode cL_mute 2 = .ok (.iconst 0, 1) := by decide +kernel
theorem dL_mute_3 : decode cL_mute 3 = .ok (.aload_n 0, 1) := by decide +kernel
theorem dL_mute_4 : decode cL_mute 4 = .ok (.iload_n 1, 1) := by decide +kernel
theorem dL_mute_5 : decode cL_mute 5 = .ok (.iload_n 2, 1) := by decide +kernel
theorem dL_mute_6 : decode cL_mute 6 = .ok (.iload_n 3, 1) := by decide +kernel
theorem dL_mute_7 : decode cL_mute 7 = .ok (.invokevirtual 22, 3) := by decide +kernel
theorem dL_mute_10 : decode cL_mute 10 = .ok (.ifCond .eq 7, 3) := by decide +kernel
theorem dL_mute_13 : decode cL_mute 13 = .ok (.lconst 1, 1) := by decide +kernel
theorem dL_mute_14 : decode cL_mute 14 = .ok (.goto 4, 3) := by decide +kernel
theorem dL_mute_17 : decode cL_mute 17 = .ok (.lconst 0, 1) := by decide +kernel
theorem dL_mute_18 : decode cL_mute 18 = .ok (.lastore, 1) := by decide +kernel
theorem dL_mute_19 : decode cL_mute 19 = .ok (.goto 11, 3) := by decide +kernel
theorem dL_mute_22 : decode cL_mute 22 = .ok (.astore 5, 2) := by decide +kernel
theorem dL_mute_24 : decode cL_mute 24 = .ok (.iconst 1, 1) := by decide +kernel
theorem dL_mute_25 : decode cL_mute 25 = .ok (.ireturn, 1) := by decide +kernel
theorem dL_mute_26 : decode cL_mute 26 = .ok (.astore 5, 2) := by decide +kernel
theorem dL_mute_28 : decode cL_mute 28 = .ok (.iconst 2, 1) := by decide +kernel
theorem dL_mute_29 : decode cL_mute 29 = .ok (.ireturn, 1) := by decide +kernel
theorem dL_mute_30 : decode cL_mute 30 = .ok (.iconst 0, 1) := by decide +kernel
theorem dL_mute_31 : decode cL_mute 31 = .ok (.ireturn, 1) := by decide +kernel
set_option maxRecDepth 20000 in
theorem ggL_block_X4_block : GoodIn wsL_block wsX4_block := goodIn_ca (goodIn_ca (goodIn_r _ [7, 8, 9, 10, 11, 6, 12, 13, 14, 15, 16, 17, 18, 19, 20, 21, 22, 23, 24, 25, 26, 27, 28, 29, 30, 31, 32, 33, 34, 35, 36, 37, 38, 39, 40, 41, 42, 43, 44, 45, 46, 47, 48, 49, 50, 51, 52, 53, 54, 55, 56, 57, 58, 59, 60, 61, 62, 63, 64, 65, 66, 67, 68, 69, 70, 71, 72, 73, 74, 75, 76, 77, 78, 79, 80, 81, 82, 83, 84, 85, 86, 87, 88, 89, 90, 91, 92, 93, 94, 95, 96, 97, 98, 99, 100, 101, 102, 103, 104, 105, 106, 107, 108, 109, 110, 111, 112, 113, 114, 115, 116, 117, 118, 119, 120, 121, 122, 123] (by decide +kernel) (by decide +kernel)) (goodIn_sub (fun _ h => List.mem_cons_of_mem _ (List.mem_append_left _ (List.mem_append_right _ h))) (by decide +kernel))) (goodIn_sub (fun _ h => List.mem_cons_of_mem _ (List.mem_append_right _ h)) (by decide +kernel))
set_option maxRecDepth 20000 in
theorem gL_block_X4_block : GoodIn wsL_block (wsV RL 26 RX4 yX4_block wsX4_block) := goodIn_app (goodIn_of _ (by decide +kernel)) ggL_block_X4_block
theorem dL_block_0 : decode cL_block 0 = .ok (.aload 4, 2) := by decide +kernel
theorem dL_block_2 : decode cL_block 2 = .ok (.iconst 0, 1) := by decide +kernel
theorem dL_block_3 : decode cL_block 3 = .ok (.aload_n 0, 1) := by decide +kernel
theorem dL_block_4 : decode cL_block 4 = .ok (.iload_n 1, 1) := by decide +kernel
theorem dL_block_5 : decode cL_block 5 = .ok (.iload_n 2, 1) := by decide +kernel
theorem dL_block_6 : decode cL_block 6 = .ok (.iload_n 3, 1) := by decide +kernel
theorem dL_block_7 : decode cL_block 7 = .ok (.invokevirtual 26, 3) := by decide +kernel
theorem dL_block_10 : decode cL_block 10 = .ok (.ifCond .eq 7, 3) := by decide +kernel
theorem dL_block_13 : decode cL_block 13 = .ok (.lconst 1, 1) := by decide +kernel
theorem dL_block_14 : decode cL_block 14 = .ok (.goto 4, 3) := by decide +kernel
theorem dL_block_17 : decode cL_block 17 = .ok (.lconst 0, 1) := by decide +kernel
theorem dL_block_18 : decode cL_block 18 = .ok (.lastore, 1) := by decide +kernel
theorem dL_block_19 : decode cL_block 19 = .ok (.goto 11, 3) := by decide +kernel
theorem dL_block_22 : decode cL_block 22 = .ok (.astore 5, 2) := by decide +kernel
theorem dL_block_24 : decode cL_block 24 = .ok (.iconst 1, 1) := by decide +kernel
theorem dL_block_25 : decode cL_block 25 = .ok (.ireturn, 1) := by decide +kernel
theorem dL_block_26 : decode cL_block 26 = .ok (.astore 5, 2) := by decide +kernel
theorem dL_block_28 : decode cL_block 28 = .ok (.iconst 2, 1) := by decide +kernel
theorem dL_block_29 : decode cL_block 29 = .ok (.ireturn, 1) := by decide +kernel
theorem dL_block_30 : decode cL_block 30 = .ok (.iconst 0, 1) := by decide +kernel
theorem dL_block_31 : decode cL_block 31 = .ok (.ireturn, 1) := by decide +kernel
set_option maxRecDepth 20000 in
theorem ggL_post_X4_post : GoodIn wsL_post wsX4_post := goodIn_ca (goodIn_ca (goodIn_r _ [7, 8, 9, 10, 6, 11, 12, 13, 14, 15, 16, 17, 18, 19, 20, 21, 22, 23, 24, 25, 26, 27, 28, 29, 30, 31, 32, 33, 34, 35, 36, 37, 38, 39, 40, 41, 42, 43, 44, 45, 46, 47, 48, 49, 50, 51, 52, 53, 54, 55, 56, 57, 58, 59, 60, 61, 62, 63, 64, 65, 66, 67, 68, 69, 70, 71, 72, 73, 74, 75, 76, 77, 78, 79, 80, 81, 82, 83, 84, 85, 86, 87, 88, 89, 90, 91, 92, 93, 94, 95, 96, 97, 98, 99, 100, 101, 102, 103, 104, 105, 106, 107, 108, 109, 110, 111, 112, 113, 114, 115, 116, 117, 118, 119, 120, 121, 122, 123, 124] (by decide +kernel) (by decide +kernel)) (goodIn_sub (fun _ h => List.mem_cons_of_mem _ (List.mem_append_left _ (List.mem_append_right _ h))) (by decide +kernel))) (goodIn_sub (fun _ h => List.mem_cons_of_mem _ (List.mem_append_right _ h)) (by decide +kernel))
set_option maxRecDepth 20000 in
theorem gL_post_X4_post : GoodIn wsL_post (wsV RL 29 RX4 yX4_post wsX4_post) := goodIn_app (goodIn_of _ (by decide +kernel)) ggL_post_X4_post
theorem dL_post_0 : decode cL_post 0 = .ok (.aload_n 2, 1) := by decide +kernel
theorem dL_post_1 : decode cL_post 1 = .ok (.iconst 0, 1) := by decide +kernel
theorem dL_post_2 : decode cL_post 2 = .ok (.aload_n 0, 1) := by decide +kernel
theorem dL_post_3 : decode cL_post 3 = .ok (.iload_n 1, 1) := by decide +kernel
theorem dL_post_4 : decode cL_post 4 = .ok (.invokevirtual 29, 3) := by decide +kernel
theorem dL_post_7 : decode cL_post 7 = .ok (.i2l, 1) := by decide +kernel
theorem dL_post_8 : decode cL_post 8 = .ok (.lastore, 1) := by decide +kernel
theorem dL_post_9 : decode cL_post 9 = .ok (.goto 9, 3) := by decide +kernel
theorem dL_post_12 : decode cL_post 12 = .ok (.astore_n 3, 1) := by decide +kernel
theorem dL_post_13 : decode cL_post 13 = .ok (.iconst 1, 1) := by decide +kernel
theorem dL_post_14 : decode cL_post 14 = .ok (.ireturn, 1) := by decide +kernel
theorem dL_post_15 : decode cL_post 15 = .ok (.astore_n 3, 1) := by decide +kernel
theorem dL_post_16 : decode cL_post 16 = .ok (.iconst 2, 1) := by decide +kernel
theorem dL_post_17 : decode cL_post 17 = .ok (.ireturn, 1) := by decide +kernel
theorem dL_post_18 : decode cL_post 18 = .ok (.iconst 0, 1) := by decide +kernel
theorem dL_post_19 : decode cL_post 19 = .ok (.ireturn, 1) := by decide +kernel
set_option maxRecDepth 20000 in
theorem ggL_repost_X4_repost : GoodIn wsL_repost wsX4_repost := goodIn_ca (goodIn_ca (goodIn_r _ [7, 8, 9, 10, 11, 12, 13, 6, 14, 15, 16, 17, 18, 19, 20, 21, 22, 23, 24, 25, 26, 27, 28, 29, 30, 31, 32, 33, 34, 35, 36, 37, 38, 39, 40, 41, 42, 43, 44, 45, 46, 47, 48, 49, 50, 51, 52, 53, 54, 55, 56, 57, 58, 59, 60, 61, 62, 63, 64, 65, 66, 67, 68, 69, 70, 71, 72, 73, 74, 75, 76, 77, 78, 79, 80, 81, 82, 83, 84, 85, 86, 87, 88, 89, 90, 91, 92, 93, 94, 95, 96, 97, 98, 99, 100, 101, 102, 103, 104, 105, 106, 107, 108, 109, 110, 111, 112, 113, 114, 115, 116, 117, 118, 119, 120, 121, 122, 123, 124, 125, 126, 127, 128, 129, 130, 131, 132, 133, 134] (by decide +kernel) (by decide +kernel)) (goodIn_sub (fun _ h => List.mem_cons_of_mem _ (List.mem_append_left _ (List.mem_append_right _ h))) (by decide +kernel))) (goodIn_sub (fun _ h => List.mem_cons_of_mem _ (List.mem_append_right _ h)) (by decide +kernel))
set_option maxRecDepth 20000 in
theorem gL_repost_X4_repost : GoodIn wsL_repost (wsV RL 33 RX4 yX4_repost wsX4_repost) := goodIn_app (goodIn_of _ (by decide +kernel)) ggL_repost_X4_repost
theorem dL_repost_0 : decode cL_repost 0 = .ok (.aload_n 3, 1) := by decide +kernel
theorem dL_repost_1 : decode cL_repost 1 = .ok (.iconst 0, 1) := by decide +kernel
theorem dL_repost_2 : decode cL_repost 2 = .ok (.aload_n 0, 1) := by decide +kernel
theorem dL_repost_3 : decode cL_repost 3 = .ok (.iload_n 1, 1) := by decide +kernel
theorem dL_repost_4 : decode cL_repost 4 = .ok (.iload_n 2, 1) := by decide +kernel
theorem dL_repost_5 : decode cL_repost 5 = .ok (.invokevirtual 33, 3) := by decide +kernel
theorem dL_repost_8 : decode cL_repost 8 = .ok (.i2l, 1) := by decide +kernel
theorem dL_repost_9 : decode cL_repost 9 = .ok (.lastore, 1) := by decide +kernel
theorem dL_repost_10 : decode cL_repost 10 = .ok (.goto 11, 3) := by decide +kernel
theorem dL_repost_13 : decode cL_repost 13 = .ok (.astore 4, 2) := by decide +kernel
theorem dL_repost_15 : decode cL_repost 15 = .ok (.iconst 1, 1) := by decide +kernel
theorem dL_repost_16 : decode cL_repost 16 = .ok (.ireturn, 1) := by decide +kernel
theorem dL_repost_17 : decode cL_repost 17 = .ok (.astore 4, 2) := by decide +kernel
theorem dL_repost_19 : decode cL_repost 19 = .ok (.iconst 2, 1) := by decide +kernel
theorem dL_repost_20 : decode cL_repost 20 = .ok (.ireturn, 1) := by decide +kernel
theorem dL_repost_21 : decode cL_repost 21 = .ok (.iconst 0, 1) := by decide +kernel
theorem dL_repost_22 : decode cL_repost 22 = .ok (.ireturn, 1) := by decide +kernel
set_option maxRecDepth 20000 in
theorem ggL_delete_X4_delete : GoodIn wsL_delete wsX4_delete := goodIn_ca (goodIn_ca (goodIn_r _ [7, 8, 9, 10, 11, 12, 13, 6, 14, 15, 16, 17, 18, 19, 20, 21, 22, 23, 24, 25, 26, 27, 28, 29, 30, 31, 32, 33, 34, 35, 36, 37, 38, 39, 40, 41, 42, 43, 44, 45, 46, 47, 48, 49, 50, 51, 52, 53, 54, 55, 56, 57, 58, 59, 60, 61, 62, 63, 64, 65, 66, 67, 68, 69, 70, 71, 72, 73, 74, 75, 76, 77, 78, 79, 80, 81, 82, 83, 84, 85, 86, 87, 88, 89, 90, 91, 92, 93, 94, 95, 96, 97, 98, 99, 100, 101, 102, 103, 104, 105, 106, 107, 108, 109, 110, 111, 112, 113, 114, 115, 116, 117, 118, 119, 120, 121, 122, 123, 124, 125, 126, 127, 128, 129, 130] (by decide +kernel) (by decide +kernel)) (goodIn_sub (fun _ h => List.mem_cons_of_mem _ (List.mem_append_left _ (List.mem_append_right _ h))) (by decide +kernel))) (goodIn_sub (fun _ h => List.mem_cons_of_mem _ (List.mem_append_right _ h)) (by decide +kernel))
set_option maxRecDepth 20000 in
theorem gL_delete_X4_delete : GoodIn wsL_delete (wsV RL 36 RX4 yX4_delete wsX4_delete) := goodIn_app (goodIn_of _ (by decide +kernel)) ggL_delete_X4_delete
theorem dL_delete_0 : decode cL_delete 0 = .ok (.aload_n 2, 1) := by decide +kernel
theorem dL_delete_1 : decode cL_delete 1 = .ok (.iconst 0, 1) := by decide +kernel
theorem dL_delete_2 : decode cL_delete 2 = .ok (.aload_n 0, 1) := by decide +kernel
theorem dL_delete_3 : decode cL_delete 3 = .ok (.iload_n 1, 1) := by decide +kernel
theorem dL_delete_4 : decode cL_delete 4 = .ok (.invokevirtual 36, 3) := by decide +kernel
theorem dL_delete_7 : decode cL_delete 7 = .ok (.i2l, 1) := by decide +kernel
theorem dL_delete_8 : decode cL_delete 8 = .ok (.lastore, 1) := by decide +kernel
theorem dL_delete_9 : decode cL_delete 9 = .ok (.goto 9, 3) := by decide +kernel
theorem dL_delete_12 : decode cL_delete 12 = .ok (.astore_n 3, 1) := by decide +kernel
theorem dL_delete_13 : decode cL_delete 13 = .ok (.iconst 1, 1) := by decide +kernel
theorem dL_delete_14 : decode cL_delete 14 = .ok (.ireturn, 1) := by decide +kernel
theorem dL_delete_15 : decode cL_delete 15 = .ok (.astore_n 3, 1) := by decide +kernel
theorem dL_delete_16 : decode cL_delete 16 = .ok (.iconst 2, 1) := by decide +kernel
theorem dL_delete_17 : decode cL_delete 17 = .ok (.ireturn, 1) := by decide +kernel
theorem dL_delete_18 : decode cL_delete 18 = .ok (.iconst 0, 1) := by decide +kernel
theorem dL_delete_19 : decode cL_delete 19 = .ok (.ireturn, 1) := by decide +kernel
set_option maxRecDepth 20000 in
theorem ggL_setMark_X4_setMark : GoodIn wsL_setMark wsX4_setMark := goodIn_ca (goodIn_r _ [6, 7, 8, 9, 5, 10, 11, 12, 13, 14, 15, 16, 17, 18, 19, 20, 21, 22, 23, 24, 25, 26, 27, 28, 29, 30, 31, 32, 33, 34, 35, 36, 37, 38, 39, 40, 41, 42, 43, 44, 45, 46, 47, 48, 49, 50, 51, 52, 53, 54, 55, 56, 57, 58, 59, 60, 61, 62, 63, 64, 65, 66, 67, 68, 69, 70, 71, 72, 73, 74, 75, 76, 77, 78, 79, 80, 81, 82, 83, 84, 85, 86, 87, 88, 89, 90, 91, 92, 93, 94, 95, 96, 97, 98, 99, 100, 101, 102, 103, 104, 105, 106, 107, 108, 109, 110, 111, 112, 113, 114, 115] (by decide +kernel) (by decide +kernel)) (goodIn_sub (fun _ h => List.mem_cons_of_mem _ (List.mem_append_right _ h)) (by decide +kernel))
set_option maxRecDepth 20000 in
theorem gL_setMark_X4_setMark : GoodIn wsL_setMark (wsV RL 39 RX4 yX4_setMark wsX4_setMark) := goodIn_app (goodIn_of _ (by decide +kernel)) ggL_setMark_X4_setMark
theorem dL_setMark_0 : decode cL_setMark 0 = .ok (.aload_n 2, 1) := by decide +kernel
theorem dL_setMark_1 : decode cL_setMark 1 = .ok (.iconst 0, 1) := by decide +kernel
theorem dL_setMark_2 : decode cL_setMark 2 = .ok (.aload_n 0, 1) := by decide +kernel
theorem dL_setMark_3 : decode cL_setMark 3 = .ok (.iload_n 1, 1) := by decide +kernel
theorem dL_setMark_4 : decode cL_setMark 4 = .ok (.invokevirtual 39, 3) := by decide +kernel
theorem dL_setMark_7 : decode cL_setMark 7 = .ok (.i2l, 1) := by decide +kernel
theorem dL_setMark_8 : decode cL_setMark 8 = .ok (.lastore, 1) := by decide +kernel
theorem dL_setMark_9 : decode cL_setMark 9 = .ok (.goto 6, 3) := by decide +kernel
theorem dL_setMark_12 : decode cL_setMark 12 = .ok (.astore_n 3, 1) := by decide +kernel
theorem dL_setMark_13 : decode cL_setMark 13 = .ok (.iconst 1, 1) := by decide +kernel
theorem dL_setMark_14 : decode cL_setMark 14 = .ok (.ireturn, 1) := by decide +kernel
theorem dL_setMark_15 : decode cL_setMark 15 = .ok (.iconst 0, 1) := by decide +kernel
theorem dL_setMark_16 : decode cL_setMark 16 = .ok (.ireturn, 1) := by decide +kernel
set_option maxRecDepth 20000 in
theorem ggL_setRoom_X4_setRoom : GoodIn wsL_setRoom wsX4_setRoom := goodIn_ca (goodIn_r _ [6, 7, 8, 9, 5, 10, 11, 12, 13, 14, 15, 16, 17, 18, 19, 20, 21, 22, 23, 24, 25, 26, 27, 28, 29, 30, 31, 32, 33, 34, 35, 36, 37, 38, 39, 40, 41, 42, 43, 44, 45, 46, 47, 48, 49, 50, 51, 52, 53, 54, 55, 56, 57, 58, 59, 60, 61, 62, 63, 64, 65, 66, 67, 68, 69, 70, 71, 72, 73, 74, 75, 76, 77, 78, 79, 80, 81, 82, 83, 84, 85, 86, 87, 88, 89, 90, 91, 92, 93, 94, 95, 96, 97, 98, 99, 100, 101, 102, 103, 104, 105, 106, 107, 108, 109, 110, 111] (by decide +kernel) (by decide +kernel)) (goodIn_sub (fun _ h => List.mem_cons_of_mem _ (List.mem_append_right _ h)) (by decide +kernel))
set_option maxRecDepth 20000 in
theorem gL_setRoom_X4_setRoom : GoodIn wsL_setRoom (wsV RL 42 RX4 yX4_setRoom wsX4_setRoom) := goodIn_app (goodIn_of _ (by decide +kernel)) ggL_setRoom_X4_setRoom
theorem dL_setRoom_0 : decode cL_setRoom 0 = .ok (.aload_n 2, 1) := by decide +kernel
theorem dL_setRoom_1 : decode cL_setRoom 1 = .ok (.iconst 0, 1) := by decide +kernel
theorem dL_setRoom_2 : decode cL_setRoom 2 = .ok (.aload_n 0, 1) := by decide +kernel
theorem dL_setRoom_3 : decode cL_setRoom 3 = .ok (.iload_n 1, 1) := by decide +kernel
theorem dL_setRoom_4 : decode cL_setRoom 4 = .ok (.invokevirtual 42, 3) := by decide +kernel
theorem dL_setRoom_7 : decode cL_setRoom 7 = .ok (.i2l, 1) := by decide +kernel
theorem dL_setRoom_8 : decode cL_setRoom 8 = .ok (.lastore, 1) := by decide +kernel
theorem dL_setRoom_9 : decode cL_setRoom 9 = .ok (.goto 6, 3) := by decide +kernel
theorem dL_setRoom_12 : decode cL_setRoom 12 = .ok (.astore_n 3, 1) := by decide +kernel
theorem dL_setRoom_13 : decode cL_setRoom 13 = .ok (.iconst 1, 1) := by decide +kernel
theorem dL_setRoom_14 : decode cL_setRoom 14 = .ok (.ireturn, 1) := by decide +kernel
theorem dL_setRoom_15 : decode cL_setRoom 15 = .ok (.iconst 0, 1) := by decide +kernel
theorem dL_setRoom_16 : decode cL_setRoom 16 = .ok (.ireturn, 1) := by decide +kernel
set_option maxRecDepth 20000 in
theorem ggL_authorOf_X4_authorOf : GoodIn wsL_authorOf wsX4_authorOf := goodIn_ca (goodIn_r _ [6, 7, 8, 9, 10, 5, 11, 12, 13, 14, 15, 16, 17, 18, 19, 20, 21, 22, 23, 24, 25, 26, 27, 28, 29, 30, 31, 32, 33, 34, 35, 36, 37] (by decide +kernel) (by decide +kernel)) (goodIn_sub (fun _ h => List.mem_cons_of_mem _ (List.mem_append_right _ h)) (by decide +kernel))
set_option maxRecDepth 20000 in
theorem gL_authorOf_X4_authorOf : GoodIn wsL_authorOf (wsV RL 45 RX4 yX4_authorOf wsX4_authorOf) := goodIn_app (goodIn_of _ (by decide +kernel)) ggL_authorOf_X4_authorOf
theorem dL_authorOf_0 : decode cL_authorOf 0 = .ok (.aload_n 2, 1) := by decide +kernel
theorem dL_authorOf_1 : decode cL_authorOf 1 = .ok (.iconst 0, 1) := by decide +kernel
theorem dL_authorOf_2 : decode cL_authorOf 2 = .ok (.aload_n 0, 1) := by decide +kernel
theorem dL_authorOf_3 : decode cL_authorOf 3 = .ok (.iload_n 1, 1) := by decide +kernel
theorem dL_authorOf_4 : decode cL_authorOf 4 = .ok (.invokevirtual 45, 3) := by decide +kernel
theorem dL_authorOf_7 : decode cL_authorOf 7 = .ok (.i2l, 1) := by decide +kernel
theorem dL_authorOf_8 : decode cL_authorOf 8 = .ok (.lastore, 1) := by decide +kernel
theorem dL_authorOf_9 : decode cL_authorOf 9 = .ok (.goto 6, 3) := by decide +kernel
theorem dL_authorOf_12 : decode cL_authorOf 12 = .ok (.astore_n 3, 1) := by decide +kernel
theorem dL_authorOf_13 : decode cL_authorOf 13 = .ok (.iconst 1, 1) := by decide +kernel
theorem dL_authorOf_14 : decode cL_authorOf 14 = .ok (.ireturn, 1) := by decide +kernel
theorem dL_authorOf_15 : decode cL_authorOf 15 = .ok (.iconst 0, 1) := by decide +kernel
theorem dL_authorOf_16 : decode cL_authorOf 16 = .ok (.ireturn, 1) := by decide +kernel
set_option maxRecDepth 20000 in
theorem ggL_originOf_X4_originOf : GoodIn wsL_originOf wsX4_originOf := goodIn_ca (goodIn_r _ [6, 7, 8, 9, 10, 5, 11, 12, 13, 14, 15, 16, 17, 18, 19, 20, 21, 22, 23, 24, 25, 26, 27, 28, 29, 30, 31, 32, 33, 34, 35, 36, 37] (by decide +kernel) (by decide +kernel)) (goodIn_sub (fun _ h => List.mem_cons_of_mem _ (List.mem_append_right _ h)) (by decide +kernel))
set_option maxRecDepth 20000 in
theorem gL_originOf_X4_originOf : GoodIn wsL_originOf (wsV RL 48 RX4 yX4_originOf wsX4_originOf) := goodIn_app (goodIn_of _ (by decide +kernel)) ggL_originOf_X4_originOf
theorem dL_originOf_0 : decode cL_originOf 0 = .ok (.aload_n 2, 1) := by decide +kernel
theorem dL_originOf_1 : decode cL_originOf 1 = .ok (.iconst 0, 1) := by decide +kernel
theorem dL_originOf_2 : decode cL_originOf 2 = .ok (.aload_n 0, 1) := by decide +kernel
theorem dL_originOf_3 : decode cL_originOf 3 = .ok (.iload_n 1, 1) := by decide +kernel
theorem dL_originOf_4 : decode cL_originOf 4 = .ok (.invokevirtual 48, 3) := by decide +kernel
theorem dL_originOf_7 : decode cL_originOf 7 = .ok (.i2l, 1) := by decide +kernel
theorem dL_originOf_8 : decode cL_originOf 8 = .ok (.lastore, 1) := by decide +kernel
theorem dL_originOf_9 : decode cL_originOf 9 = .ok (.goto 6, 3) := by decide +kernel
theorem dL_originOf_12 : decode cL_originOf 12 = .ok (.astore_n 3, 1) := by decide +kernel
theorem dL_originOf_13 : decode cL_originOf 13 = .ok (.iconst 1, 1) := by decide +kernel
theorem dL_originOf_14 : decode cL_originOf 14 = .ok (.ireturn, 1) := by decide +kernel
theorem dL_originOf_15 : decode cL_originOf 15 = .ok (.iconst 0, 1) := by decide +kernel
theorem dL_originOf_16 : decode cL_originOf 16 = .ok (.ireturn, 1) := by decide +kernel
set_option maxRecDepth 20000 in
theorem ggL_follows_X4_follows : GoodIn wsL_follows wsX4_follows := goodIn_ca (goodIn_r _ [6, 7, 8, 9, 5, 10, 11, 12, 13, 14, 15, 16, 17, 18, 19, 20, 21, 22, 23, 24, 25, 26, 27, 28, 29, 30] (by decide +kernel) (by decide +kernel)) (goodIn_sub (fun _ h => List.mem_cons_of_mem _ (List.mem_append_right _ h)) (by decide +kernel))
set_option maxRecDepth 20000 in
theorem gL_follows_X4_follows : GoodIn wsL_follows (wsV RL 51 RX4 yX4_follows wsX4_follows) := goodIn_app (goodIn_of _ (by decide +kernel)) ggL_follows_X4_follows
theorem dL_follows_0 : decode cL_follows 0 = .ok (.aload_n 3, 1) := by decide +kernel
theorem dL_follows_1 : decode cL_follows 1 = .ok (.iconst 0, 1) := by decide +kernel
theorem dL_follows_2 : decode cL_follows 2 = .ok (.aload_n 0, 1) := by decide +kernel
theorem dL_follows_3 : decode cL_follows 3 = .ok (.iload_n 1, 1) := by decide +kernel
theorem dL_follows_4 : decode cL_follows 4 = .ok (.iload_n 2, 1) := by decide +kernel
theorem dL_follows_5 : decode cL_follows 5 = .ok (.invokevirtual 51, 3) := by decide +kernel
theorem dL_follows_8 : decode cL_follows 8 = .ok (.ifCond .eq 7, 3) := by decide +kernel
theorem dL_follows_11 : decode cL_follows 11 = .ok (.lconst 1, 1) := by decide +kernel
theorem dL_follows_12 : decode cL_follows 12 = .ok (.goto 4, 3) := by decide +kernel
theorem dL_follows_15 : decode cL_follows 15 = .ok (.lconst 0, 1) := by decide +kernel
theorem dL_follows_16 : decode cL_follows 16 = .ok (.lastore, 1) := by decide +kernel
theorem dL_follows_17 : decode cL_follows 17 = .ok (.goto 7, 3) := by decide +kernel
theorem dL_follows_20 : decode cL_follows 20 = .ok (.astore 4, 2) := by decide +kernel
theorem dL_follows_22 : decode cL_follows 22 = .ok (.iconst 1, 1) := by decide +kernel
theorem dL_follows_23 : decode cL_follows 23 = .ok (.ireturn, 1) := by decide +kernel
theorem dL_follows_24 : decode cL_follows 24 = .ok (.iconst 0, 1) := by decide +kernel
theorem dL_follows_25 : decode cL_follows 25 = .ok (.ireturn, 1) := by decide +kernel
set_option maxRecDepth 20000 in
theorem ggL_followers_X4_followers : GoodIn wsL_followers wsX4_followers := goodIn_ca (goodIn_r _ [6, 7, 8, 9, 5, 10, 11, 12, 13, 14, 15, 16, 17, 18, 19, 20, 21, 22, 23, 24, 25, 26, 27, 28, 29, 30, 31, 32, 33, 34] (by decide +kernel) (by decide +kernel)) (goodIn_sub (fun _ h => List.mem_cons_of_mem _ (List.mem_append_right _ h)) (by decide +kernel))
set_option maxRecDepth 20000 in
theorem gL_followers_X4_followers : GoodIn wsL_followers (wsV RL 55 RX4 yX4_followers wsX4_followers) := goodIn_app (goodIn_of _ (by decide +kernel)) ggL_followers_X4_followers
theorem dL_followers_0 : decode cL_followers 0 = .ok (.aload_n 2, 1) := by decide +kernel
theorem dL_followers_1 : decode cL_followers 1 = .ok (.iconst 0, 1) := by decide +kernel
theorem dL_followers_2 : decode cL_followers 2 = .ok (.aload_n 0, 1) := by decide +kernel
theorem dL_followers_3 : decode cL_followers 3 = .ok (.iload_n 1, 1) := by decide +kernel
theorem dL_followers_4 : decode cL_followers 4 = .ok (.invokevirtual 55, 3) := by decide +kernel
theorem dL_followers_7 : decode cL_followers 7 = .ok (.i2l, 1) := by decide +kernel
theorem dL_followers_8 : decode cL_followers 8 = .ok (.lastore, 1) := by decide +kernel
theorem dL_followers_9 : decode cL_followers 9 = .ok (.goto 6, 3) := by decide +kernel
theorem dL_followers_12 : decode cL_followers 12 = .ok (.astore_n 3, 1) := by decide +kernel
theorem dL_followers_13 : decode cL_followers 13 = .ok (.iconst 1, 1) := by decide +kernel
theorem dL_followers_14 : decode cL_followers 14 = .ok (.ireturn, 1) := by decide +kernel
theorem dL_followers_15 : decode cL_followers 15 = .ok (.iconst 0, 1) := by decide +kernel
theorem dL_followers_16 : decode cL_followers 16 = .ok (.ireturn, 1) := by decide +kernel
set_option maxRecDepth 20000 in
theorem ggL_isLarge_X4_isLarge : GoodIn wsL_isLarge wsX4_isLarge := goodIn_ca (goodIn_r _ [6, 7, 8, 5, 9, 10, 11, 12, 13, 14, 15, 16, 17, 18, 19, 20, 21, 22, 23, 24, 25, 26, 27, 28, 29, 30, 31, 32, 33, 34, 35, 36, 37, 38, 39] (by decide +kernel) (by decide +kernel)) (goodIn_sub (fun _ h => List.mem_cons_of_mem _ (List.mem_append_right _ h)) (by decide +kernel))
set_option maxRecDepth 20000 in
theorem gL_isLarge_X4_isLarge : GoodIn wsL_isLarge (wsV RL 58 RX4 yX4_isLarge wsX4_isLarge) := goodIn_app (goodIn_of _ (by decide +kernel)) ggL_isLarge_X4_isLarge
theorem dL_isLarge_0 : decode cL_isLarge 0 = .ok (.aload_n 2, 1) := by decide +kernel
theorem dL_isLarge_1 : decode cL_isLarge 1 = .ok (.iconst 0, 1) := by decide +kernel
theorem dL_isLarge_2 : decode cL_isLarge 2 = .ok (.aload_n 0, 1) := by decide +kernel
theorem dL_isLarge_3 : decode cL_isLarge 3 = .ok (.iload_n 1, 1) := by decide +kernel
theorem dL_isLarge_4 : decode cL_isLarge 4 = .ok (.invokevirtual 58, 3) := by decide +kernel
theorem dL_isLarge_7 : decode cL_isLarge 7 = .ok (.ifCond .eq 7, 3) := by decide +kernel
theorem dL_isLarge_10 : decode cL_isLarge 10 = .ok (.lconst 1, 1) := by decide +kernel
theorem dL_isLarge_11 : decode cL_isLarge 11 = .ok (.goto 4, 3) := by decide +kernel
theorem dL_isLarge_14 : decode cL_isLarge 14 = .ok (.lconst 0, 1) := by decide +kernel
theorem dL_isLarge_15 : decode cL_isLarge 15 = .ok (.lastore, 1) := by decide +kernel
theorem dL_isLarge_16 : decode cL_isLarge 16 = .ok (.goto 6, 3) := by decide +kernel
theorem dL_isLarge_19 : decode cL_isLarge 19 = .ok (.astore_n 3, 1) := by decide +kernel
theorem dL_isLarge_20 : decode cL_isLarge 20 = .ok (.iconst 1, 1) := by decide +kernel
theorem dL_isLarge_21 : decode cL_isLarge 21 = .ok (.ireturn, 1) := by decide +kernel
theorem dL_isLarge_22 : decode cL_isLarge 22 = .ok (.iconst 0, 1) := by decide +kernel
theorem dL_isLarge_23 : decode cL_isLarge 23 = .ok (.ireturn, 1) := by decide +kernel
set_option maxRecDepth 20000 in
theorem ggL_inRow_X4_inRow : GoodIn wsL_inRow wsX4_inRow := goodIn_ca (goodIn_r _ [6, 7, 8, 9, 5, 10, 11, 12, 13, 14, 15, 16, 17, 18, 19, 20, 21, 22, 23, 24, 25, 26, 27, 28, 29, 30, 31, 32, 33, 34, 35, 36, 37] (by decide +kernel) (by decide +kernel)) (goodIn_sub (fun _ h => List.mem_cons_of_mem _ (List.mem_append_right _ h)) (by decide +kernel))
set_option maxRecDepth 20000 in
theorem gL_inRow_X4_inRow : GoodIn wsL_inRow (wsV RL 62 RX4 yX4_inRow wsX4_inRow) := goodIn_app (goodIn_of _ (by decide +kernel)) ggL_inRow_X4_inRow
theorem dL_inRow_0 : decode cL_inRow 0 = .ok (.aload_n 2, 1) := by decide +kernel
theorem dL_inRow_1 : decode cL_inRow 1 = .ok (.iconst 0, 1) := by decide +kernel
theorem dL_inRow_2 : decode cL_inRow 2 = .ok (.aload_n 0, 1) := by decide +kernel
theorem dL_inRow_3 : decode cL_inRow 3 = .ok (.iload_n 1, 1) := by decide +kernel
theorem dL_inRow_4 : decode cL_inRow 4 = .ok (.invokevirtual 62, 3) := by decide +kernel
theorem dL_inRow_7 : decode cL_inRow 7 = .ok (.i2l, 1) := by decide +kernel
theorem dL_inRow_8 : decode cL_inRow 8 = .ok (.lastore, 1) := by decide +kernel
theorem dL_inRow_9 : decode cL_inRow 9 = .ok (.goto 6, 3) := by decide +kernel
theorem dL_inRow_12 : decode cL_inRow 12 = .ok (.astore_n 3, 1) := by decide +kernel
theorem dL_inRow_13 : decode cL_inRow 13 = .ok (.iconst 1, 1) := by decide +kernel
theorem dL_inRow_14 : decode cL_inRow 14 = .ok (.ireturn, 1) := by decide +kernel
theorem dL_inRow_15 : decode cL_inRow 15 = .ok (.iconst 0, 1) := by decide +kernel
theorem dL_inRow_16 : decode cL_inRow 16 = .ok (.ireturn, 1) := by decide +kernel
set_option maxRecDepth 20000 in
theorem ggL_rowAt_X4_rowAt : GoodIn wsL_rowAt wsX4_rowAt := goodIn_ca (goodIn_r _ [6, 7, 8, 9, 10, 11, 5, 12, 13, 14, 15, 16, 17, 18, 19, 20, 21, 22, 23, 24, 25, 26, 27, 28, 29, 30, 31, 32, 33, 34, 35, 36, 37, 38, 39, 40, 41, 42] (by decide +kernel) (by decide +kernel)) (goodIn_sub (fun _ h => List.mem_cons_of_mem _ (List.mem_append_right _ h)) (by decide +kernel))
set_option maxRecDepth 20000 in
theorem gL_rowAt_X4_rowAt : GoodIn wsL_rowAt (wsV RL 65 RX4 yX4_rowAt wsX4_rowAt) := goodIn_app (goodIn_of _ (by decide +kernel)) ggL_rowAt_X4_rowAt
theorem dL_rowAt_0 : decode cL_rowAt 0 = .ok (.aload_n 3, 1) := by decide +kernel
theorem dL_rowAt_1 : decode cL_rowAt 1 = .ok (.iconst 0, 1) := by decide +kernel
theorem dL_rowAt_2 : decode cL_rowAt 2 = .ok (.aload_n 0, 1) := by decide +kernel
theorem dL_rowAt_3 : decode cL_rowAt 3 = .ok (.iload_n 1, 1) := by decide +kernel
theorem dL_rowAt_4 : decode cL_rowAt 4 = .ok (.iload_n 2, 1) := by decide +kernel
theorem dL_rowAt_5 : decode cL_rowAt 5 = .ok (.invokevirtual 65, 3) := by decide +kernel
theorem dL_rowAt_8 : decode cL_rowAt 8 = .ok (.i2l, 1) := by decide +kernel
theorem dL_rowAt_9 : decode cL_rowAt 9 = .ok (.lastore, 1) := by decide +kernel
theorem dL_rowAt_10 : decode cL_rowAt 10 = .ok (.goto 7, 3) := by decide +kernel
theorem dL_rowAt_13 : decode cL_rowAt 13 = .ok (.astore 4, 2) := by decide +kernel
theorem dL_rowAt_15 : decode cL_rowAt 15 = .ok (.iconst 1, 1) := by decide +kernel
theorem dL_rowAt_16 : decode cL_rowAt 16 = .ok (.ireturn, 1) := by decide +kernel
theorem dL_rowAt_17 : decode cL_rowAt 17 = .ok (.iconst 0, 1) := by decide +kernel
theorem dL_rowAt_18 : decode cL_rowAt 18 = .ok (.ireturn, 1) := by decide +kernel
set_option maxRecDepth 20000 in
theorem ggL_floorOf_X4_floorOf : GoodIn wsL_floorOf wsX4_floorOf := goodIn_ca (goodIn_r _ [6, 7, 8, 9, 5, 10, 11, 12, 13, 14, 15, 16, 17, 18, 19, 20, 21, 22, 23, 24, 25, 26, 27, 28, 29, 30, 31, 32, 33, 34, 35, 36, 37] (by decide +kernel) (by decide +kernel)) (goodIn_sub (fun _ h => List.mem_cons_of_mem _ (List.mem_append_right _ h)) (by decide +kernel))
set_option maxRecDepth 20000 in
theorem gL_floorOf_X4_floorOf : GoodIn wsL_floorOf (wsV RL 68 RX4 yX4_floorOf wsX4_floorOf) := goodIn_app (goodIn_of _ (by decide +kernel)) ggL_floorOf_X4_floorOf
theorem dL_floorOf_0 : decode cL_floorOf 0 = .ok (.aload_n 2, 1) := by decide +kernel
theorem dL_floorOf_1 : decode cL_floorOf 1 = .ok (.iconst 0, 1) := by decide +kernel
theorem dL_floorOf_2 : decode cL_floorOf 2 = .ok (.aload_n 0, 1) := by decide +kernel
theorem dL_floorOf_3 : decode cL_floorOf 3 = .ok (.iload_n 1, 1) := by decide +kernel
theorem dL_floorOf_4 : decode cL_floorOf 4 = .ok (.invokevirtual 68, 3) := by decide +kernel
theorem dL_floorOf_7 : decode cL_floorOf 7 = .ok (.i2l, 1) := by decide +kernel
theorem dL_floorOf_8 : decode cL_floorOf 8 = .ok (.lastore, 1) := by decide +kernel
theorem dL_floorOf_9 : decode cL_floorOf 9 = .ok (.goto 6, 3) := by decide +kernel
theorem dL_floorOf_12 : decode cL_floorOf 12 = .ok (.astore_n 3, 1) := by decide +kernel
theorem dL_floorOf_13 : decode cL_floorOf 13 = .ok (.iconst 1, 1) := by decide +kernel
theorem dL_floorOf_14 : decode cL_floorOf 14 = .ok (.ireturn, 1) := by decide +kernel
theorem dL_floorOf_15 : decode cL_floorOf 15 = .ok (.iconst 0, 1) := by decide +kernel
theorem dL_floorOf_16 : decode cL_floorOf 16 = .ok (.ireturn, 1) := by decide +kernel
set_option maxRecDepth 20000 in
theorem ggL_shows_X4_shows : GoodIn wsL_shows wsX4_shows := goodIn_ca (goodIn_r _ [6, 7, 8, 9, 10, 5, 11, 12, 13, 14, 15, 16, 17, 18, 19, 20, 21, 22, 23, 24, 25, 26, 27, 28, 29, 30, 31, 32, 33, 34, 35, 36, 37, 38, 39, 40, 41, 42, 43, 44, 45, 46, 47, 48, 49, 50, 51, 52, 53, 54, 55, 56, 57, 58, 59, 60, 61, 62, 63, 64, 65, 66, 67, 68, 69, 70, 71, 72, 73, 74, 75, 76, 77, 78, 79, 80, 81, 82, 83, 84, 85, 86, 87, 88, 89, 90, 91, 92, 93, 94, 95, 96, 97, 98, 99, 100, 101, 102, 103, 104, 105, 106, 107, 108, 109, 110, 111, 112, 113, 114, 115, 116, 117, 118, 119, 120, 121, 122, 123, 124, 125, 126, 127, 128, 129, 130, 131, 132, 133, 134, 135, 136, 137, 138, 139, 140, 141, 142, 143, 144] (by decide +kernel) (by decide +kernel)) (goodIn_sub (fun _ h => List.mem_cons_of_mem _ (List.mem_append_right _ h)) (by decide +kernel))
set_option maxRecDepth 20000 in
theorem gL_shows_X4_shows : GoodIn wsL_shows (wsV RL 71 RX4 yX4_shows wsX4_shows) := goodIn_app (goodIn_of _ (by decide +kernel)) ggL_shows_X4_shows
theorem dL_shows_0 : decode cL_shows 0 = .ok (.aload_n 3, 1) := by decide +kernel
theorem dL_shows_1 : decode cL_shows 1 = .ok (.iconst 0, 1) := by decide +kernel
theorem dL_shows_2 : decode cL_shows 2 = .ok (.aload_n 0, 1) := by decide +kernel
theorem dL_shows_3 : decode cL_shows 3 = .ok (.iload_n 1, 1) := by decide +kernel
theorem dL_shows_4 : decode cL_shows 4 = .ok (.iload_n 2, 1) := by decide +kernel
theorem dL_shows_5 : decode cL_shows 5 = .ok (.invokevirtual 71, 3) := by decide +kernel
theorem dL_shows_8 : decode cL_shows 8 = .ok (.ifCond .eq 7, 3) := by decide +kernel
theorem dL_shows_11 : decode cL_shows 11 = .ok (.lconst 1, 1) := by decide +kernel
theorem dL_shows_12 : decode cL_shows 12 = .ok (.goto 4, 3) := by decide +kernel
theorem dL_shows_15 : decode cL_shows 15 = .ok (.lconst 0, 1) := by decide +kernel
theorem dL_shows_16 : decode cL_shows 16 = .ok (.lastore, 1) := by decide +kernel
theorem dL_shows_17 : decode cL_shows 17 = .ok (.goto 7, 3) := by decide +kernel
theorem dL_shows_20 : decode cL_shows 20 = .ok (.astore 4, 2) := by decide +kernel
theorem dL_shows_22 : decode cL_shows 22 = .ok (.iconst 1, 1) := by decide +kernel
theorem dL_shows_23 : decode cL_shows 23 = .ok (.ireturn, 1) := by decide +kernel
theorem dL_shows_24 : decode cL_shows 24 = .ok (.iconst 0, 1) := by decide +kernel
theorem dL_shows_25 : decode cL_shows 25 = .ok (.ireturn, 1) := by decide +kernel
set_option maxRecDepth 20000 in
theorem ggL_next_X4_next : GoodIn wsL_next wsX4_next := goodIn_ca (goodIn_ca (goodIn_r _ [7, 8, 9, 10, 11, 6, 12, 13, 14, 15, 16, 17, 18, 19, 20, 21, 22, 23, 24, 25, 26, 27, 28, 29, 30, 31, 32, 33, 34, 35, 36, 37, 38, 39, 40, 41, 42, 43, 44, 45, 46, 47, 48, 49, 50, 51, 52, 53, 54, 55, 56, 57, 58, 59, 60, 61, 62, 63, 64, 65, 66, 67, 68, 69, 70, 71, 72, 73, 74, 75, 76, 77, 78, 79, 80, 81, 82, 83, 84, 85, 86, 87, 88, 89, 90, 91, 92, 93, 94, 95, 96, 97, 98, 99, 100, 101, 102, 103, 104, 105, 106, 107, 108, 109, 110, 111, 112, 113, 114, 115, 116, 117, 118, 119, 120, 121, 122, 123, 124, 125, 126, 127, 128, 129, 130, 131, 132, 133, 134, 135, 136, 137, 138, 139, 140, 141, 142, 143, 144, 145] (by decide +kernel) (by decide +kernel)) (goodIn_sub (fun _ h => List.mem_cons_of_mem _ (List.mem_append_left _ (List.mem_append_right _ h))) (by decide +kernel))) (goodIn_sub (fun _ h => List.mem_cons_of_mem _ (List.mem_append_right _ h)) (by decide +kernel))
set_option maxRecDepth 20000 in
theorem gL_next_X4_next : GoodIn wsL_next (wsV RL 74 RX4 yX4_next wsX4_next) := goodIn_app (goodIn_of _ (by decide +kernel)) ggL_next_X4_next
theorem dL_next_0 : decode cL_next 0 = .ok (.aload_n 3, 1) := by decide +kernel
theorem dL_next_1 : decode cL_next 1 = .ok (.iconst 0, 1) := by decide +kernel
theorem dL_next_2 : decode cL_next 2 = .ok (.aload_n 0, 1) := by decide +kernel
theorem dL_next_3 : decode cL_next 3 = .ok (.iload_n 1, 1) := by decide +kernel
theorem dL_next_4 : decode cL_next 4 = .ok (.iload_n 2, 1) := by decide +kernel
theorem dL_next_5 : decode cL_next 5 = .ok (.invokevirtual 74, 3) := by decide +kernel
theorem dL_next_8 : decode cL_next 8 = .ok (.i2l, 1) := by decide +kernel
theorem dL_next_9 : decode cL_next 9 = .ok (.lastore, 1) := by decide +kernel
theorem dL_next_10 : decode cL_next 10 = .ok (.goto 11, 3) := by decide +kernel
theorem dL_next_13 : decode cL_next 13 = .ok (.astore 4, 2) := by decide +kernel
theorem dL_next_15 : decode cL_next 15 = .ok (.iconst 1, 1) := by decide +kernel
theorem dL_next_16 : decode cL_next 16 = .ok (.ireturn, 1) := by decide +kernel
theorem dL_next_17 : decode cL_next 17 = .ok (.astore 4, 2) := by decide +kernel
theorem dL_next_19 : decode cL_next 19 = .ok (.iconst 2, 1) := by decide +kernel
theorem dL_next_20 : decode cL_next 20 = .ok (.ireturn, 1) := by decide +kernel
theorem dL_next_21 : decode cL_next 21 = .ok (.iconst 0, 1) := by decide +kernel
theorem dL_next_22 : decode cL_next 22 = .ok (.ireturn, 1) := by decide +kernel
set_option maxRecDepth 20000 in
theorem ggL_pageEnd_X4_pageEnd : GoodIn wsL_pageEnd wsX4_pageEnd := goodIn_ca (goodIn_ca (goodIn_r _ [7, 8, 9, 10, 11, 12, 13, 14, 15, 6, 16, 17, 18, 19, 20, 21, 22, 23, 24, 25, 26, 27, 28, 29, 30, 31, 32, 33, 34, 35, 36, 37, 38, 39, 40, 41, 42, 43, 44, 45, 46, 47, 48, 49, 50, 51, 52, 53, 54, 55, 56, 57, 58, 59, 60, 61, 62, 63, 64, 65, 66, 67, 68, 69, 70, 71, 72, 73, 74, 75, 76, 77, 78, 79, 80, 81, 82, 83, 84, 85, 86, 87, 88, 89, 90, 91, 92, 93, 94, 95, 96, 97, 98, 99, 100, 101, 102, 103, 104, 105, 106, 107, 108, 109, 110, 111, 112, 113, 114, 115, 116, 117, 118, 119, 120, 121, 122, 123, 124, 125, 126, 127, 128, 129, 130, 131, 132, 133, 134, 135, 136, 137, 138, 139, 140, 141, 142, 143, 144, 145, 146, 147, 148, 149, 150, 151, 152, 153] (by decide +kernel) (by decide +kernel)) (goodIn_sub (fun _ h => List.mem_cons_of_mem _ (List.mem_append_left _ (List.mem_append_right _ h))) (by decide +kernel))) (goodIn_sub (fun _ h => List.mem_cons_of_mem _ (List.mem_append_right _ h)) (by decide +kernel))
set_option maxRecDepth 20000 in
theorem gL_pageEnd_X4_pageEnd : GoodIn wsL_pageEnd (wsV RL 77 RX4 yX4_pageEnd wsX4_pageEnd) := goodIn_app (goodIn_of _ (by decide +kernel)) ggL_pageEnd_X4_pageEnd
theorem dL_pageEnd_0 : decode cL_pageEnd 0 = .ok (.aload 4, 2) := by decide +kernel
theorem dL_pageEnd_2 : decode cL_pageEnd 2 = .ok (.iconst 0, 1) := by decide +kernel
theorem dL_pageEnd_3 : decode cL_pageEnd 3 = .ok (.aload_n 0, 1) := by decide +kernel
theorem dL_pageEnd_4 : decode cL_pageEnd 4 = .ok (.iload_n 1, 1) := by decide +kernel
theorem dL_pageEnd_5 : decode cL_pageEnd 5 = .ok (.iload_n 2, 1) := by decide +kernel
theorem dL_pageEnd_6 : decode cL_pageEnd 6 = .ok (.iload_n 3, 1) := by decide +kernel
theorem dL_pageEnd_7 : decode cL_pageEnd 7 = .ok (.invokevirtual 77, 3) := by decide +kernel
theorem dL_pageEnd_10 : decode cL_pageEnd 10 = .ok (.i2l, 1) := by decide +kernel
theorem dL_pageEnd_11 : decode cL_pageEnd 11 = .ok (.lastore, 1) := by decide +kernel
theorem dL_pageEnd_12 : decode cL_pageEnd 12 = .ok (.goto 11, 3) := by decide +kernel
theorem dL_pageEnd_15 : decode cL_pageEnd 15 = .ok (.astore 5, 2) := by decide +kernel
theorem dL_pageEnd_17 : decode cL_pageEnd 17 = .ok (.iconst 1, 1) := by decide +kernel
theorem dL_pageEnd_18 : decode cL_pageEnd 18 = .ok (.ireturn, 1) := by decide +kernel
theorem dL_pageEnd_19 : decode cL_pageEnd 19 = .ok (.astore 5, 2) := by decide +kernel
theorem dL_pageEnd_21 : decode cL_pageEnd 21 = .ok (.iconst 2, 1) := by decide +kernel
theorem dL_pageEnd_22 : decode cL_pageEnd 22 = .ok (.ireturn, 1) := by decide +kernel
theorem dL_pageEnd_23 : decode cL_pageEnd 23 = .ok (.iconst 0, 1) := by decide +kernel
theorem dL_pageEnd_24 : decode cL_pageEnd 24 = .ok (.ireturn, 1) := by decide +kernel
set_option maxRecDepth 20000 in
theorem ggL_length_X4_length : GoodIn wsL_length wsX4_length := goodIn_ca (goodIn_r _ [6, 7, 8, 9, 10, 5, 11, 12, 13, 14, 15, 16, 17, 18, 19, 20, 21, 22, 23, 24, 25, 26, 27, 28, 29, 30, 31, 32, 33, 34, 35, 36, 37, 38, 39, 40, 41, 42, 43, 44, 45, 46, 47, 48, 49, 50, 51, 52, 53, 54, 55, 56, 57, 58, 59, 60, 61, 62, 63, 64, 65, 66, 67, 68, 69, 70, 71, 72, 73, 74, 75, 76, 77, 78, 79, 80, 81, 82, 83, 84, 85, 86, 87, 88, 89, 90, 91, 92, 93, 94, 95, 96, 97, 98, 99, 100, 101, 102, 103, 104, 105, 106, 107, 108, 109, 110, 111, 112, 113, 114, 115, 116, 117, 118, 119, 120, 121, 122, 123, 124, 125, 126, 127, 128, 129, 130, 131, 132, 133, 134] (by decide +kernel) (by decide +kernel)) (goodIn_sub (fun _ h => List.mem_cons_of_mem _ (List.mem_append_right _ h)) (by decide +kernel))
set_option maxRecDepth 20000 in
theorem gL_length_X4_length : GoodIn wsL_length (wsV RL 81 RX4 yX4_length wsX4_length) := goodIn_app (goodIn_of _ (by decide +kernel)) ggL_length_X4_length
theorem dL_length_0 : decode cL_length 0 = .ok (.aload_n 2, 1) := by decide +kernel
theorem dL_length_1 : decode cL_length 1 = .ok (.iconst 0, 1) := by decide +kernel
theorem dL_length_2 : decode cL_length 2 = .ok (.aload_n 0, 1) := by decide +kernel
theorem dL_length_3 : decode cL_length 3 = .ok (.iload_n 1, 1) := by decide +kernel
theorem dL_length_4 : decode cL_length 4 = .ok (.invokevirtual 81, 3) := by decide +kernel
theorem dL_length_7 : decode cL_length 7 = .ok (.i2l, 1) := by decide +kernel
theorem dL_length_8 : decode cL_length 8 = .ok (.lastore, 1) := by decide +kernel
theorem dL_length_9 : decode cL_length 9 = .ok (.goto 6, 3) := by decide +kernel
theorem dL_length_12 : decode cL_length 12 = .ok (.astore_n 3, 1) := by decide +kernel
theorem dL_length_13 : decode cL_length 13 = .ok (.iconst 1, 1) := by decide +kernel
theorem dL_length_14 : decode cL_length 14 = .ok (.ireturn, 1) := by decide +kernel
theorem dL_length_15 : decode cL_length 15 = .ok (.iconst 0, 1) := by decide +kernel
theorem dL_length_16 : decode cL_length 16 = .ok (.ireturn, 1) := by decide +kernel
set_option maxRecDepth 20000 in
theorem ggL_lengthByMerging_X4_lengthByMerging : GoodIn wsL_lengthByMerging wsX4_lengthByMerging := goodIn_ca (goodIn_r _ [6, 7, 8, 9, 10, 5, 11, 12, 13, 14, 15, 16, 17, 18, 19, 20, 21, 22, 23, 24, 25, 26, 27, 28, 29, 30, 31, 32, 33, 34, 35, 36, 37, 38, 39, 40, 41, 42, 43, 44, 45, 46, 47, 48, 49, 50, 51, 52, 53, 54, 55, 56, 57, 58, 59, 60, 61, 62, 63, 64, 65, 66, 67, 68, 69, 70, 71, 72, 73, 74, 75, 76, 77, 78, 79, 80, 81, 82, 83, 84, 85, 86, 87, 88, 89, 90, 91, 92, 93, 94, 95, 96, 97, 98, 99, 100, 101, 102, 103, 104, 105, 106, 107, 108, 109] (by decide +kernel) (by decide +kernel)) (goodIn_sub (fun _ h => List.mem_cons_of_mem _ (List.mem_append_right _ h)) (by decide +kernel))
set_option maxRecDepth 20000 in
theorem gL_lengthByMerging_X4_lengthByMerging : GoodIn wsL_lengthByMerging (wsV RL 84 RX4 yX4_lengthByMerging wsX4_lengthByMerging) := goodIn_app (goodIn_of _ (by decide +kernel)) ggL_lengthByMerging_X4_lengthByMerging
theorem dL_lengthByMerging_0 : decode cL_lengthByMerging 0 = .ok (.aload_n 2, 1) := by decide +kernel
theorem dL_lengthByMerging_1 : decode cL_lengthByMerging 1 = .ok (.iconst 0, 1) := by decide +kernel
theorem dL_lengthByMerging_2 : decode cL_lengthByMerging 2 = .ok (.aload_n 0, 1) := by decide +kernel
theorem dL_lengthByMerging_3 : decode cL_lengthByMerging 3 = .ok (.iload_n 1, 1) := by decide +kernel
theorem dL_lengthByMerging_4 : decode cL_lengthByMerging 4 = .ok (.invokevirtual 84, 3) := by decide +kernel
theorem dL_lengthByMerging_7 : decode cL_lengthByMerging 7 = .ok (.i2l, 1) := by decide +kernel
theorem dL_lengthByMerging_8 : decode cL_lengthByMerging 8 = .ok (.lastore, 1) := by decide +kernel
theorem dL_lengthByMerging_9 : decode cL_lengthByMerging 9 = .ok (.goto 6, 3) := by decide +kernel
theorem dL_lengthByMerging_12 : decode cL_lengthByMerging 12 = .ok (.astore_n 3, 1) := by decide +kernel
theorem dL_lengthByMerging_13 : decode cL_lengthByMerging 13 = .ok (.iconst 1, 1) := by decide +kernel
theorem dL_lengthByMerging_14 : decode cL_lengthByMerging 14 = .ok (.ireturn, 1) := by decide +kernel
theorem dL_lengthByMerging_15 : decode cL_lengthByMerging 15 = .ok (.iconst 0, 1) := by decide +kernel
theorem dL_lengthByMerging_16 : decode cL_lengthByMerging 16 = .ok (.ireturn, 1) := by decide +kernel
set_option maxRecDepth 20000 in
theorem ggL_hasGap_X4_hasGap : GoodIn wsL_hasGap wsX4_hasGap := goodIn_ca (goodIn_r _ [6, 7, 8, 9, 10, 11, 5, 12, 13, 14, 15, 16, 17, 18, 19, 20, 21, 22, 23, 24, 25, 26, 27, 28, 29, 30, 31, 32, 33, 34, 35, 36, 37, 38, 39, 40, 41, 42, 43, 44, 45, 46, 47, 48, 49, 50, 51, 52, 53, 54, 55, 56, 57, 58, 59, 60, 61, 62, 63, 64, 65, 66] (by decide +kernel) (by decide +kernel)) (goodIn_sub (fun _ h => List.mem_cons_of_mem _ (List.mem_append_right _ h)) (by decide +kernel))
set_option maxRecDepth 20000 in
theorem gL_hasGap_X4_hasGap : GoodIn wsL_hasGap (wsV RL 87 RX4 yX4_hasGap wsX4_hasGap) := goodIn_app (goodIn_of _ (by decide +kernel)) ggL_hasGap_X4_hasGap
theorem dL_hasGap_0 : decode cL_hasGap 0 = .ok (.aload_n 2, 1) := by decide +kernel
theorem dL_hasGap_1 : decode cL_hasGap 1 = .ok (.iconst 0, 1) := by decide +kernel
theorem dL_hasGap_2 : decode cL_hasGap 2 = .ok (.aload_n 0, 1) := by decide +kernel
theorem dL_hasGap_3 : decode cL_hasGap 3 = .ok (.iload_n 1, 1) := by decide +kernel
theorem dL_hasGap_4 : decode cL_hasGap 4 = .ok (.invokevirtual 87, 3) := by decide +kernel
theorem dL_hasGap_7 : decode cL_hasGap 7 = .ok (.ifCond .eq 7, 3) := by decide +kernel
theorem dL_hasGap_10 : decode cL_hasGap 10 = .ok (.lconst 1, 1) := by decide +kernel
theorem dL_hasGap_11 : decode cL_hasGap 11 = .ok (.goto 4, 3) := by decide +kernel
theorem dL_hasGap_14 : decode cL_hasGap 14 = .ok (.lconst 0, 1) := by decide +kernel
theorem dL_hasGap_15 : decode cL_hasGap 15 = .ok (.lastore, 1) := by decide +kernel
theorem dL_hasGap_16 : decode cL_hasGap 16 = .ok (.goto 6, 3) := by decide +kernel
theorem dL_hasGap_19 : decode cL_hasGap 19 = .ok (.astore_n 3, 1) := by decide +kernel
theorem dL_hasGap_20 : decode cL_hasGap 20 = .ok (.iconst 1, 1) := by decide +kernel
theorem dL_hasGap_21 : decode cL_hasGap 21 = .ok (.ireturn, 1) := by decide +kernel
theorem dL_hasGap_22 : decode cL_hasGap 22 = .ok (.iconst 0, 1) := by decide +kernel
theorem dL_hasGap_23 : decode cL_hasGap 23 = .ok (.ireturn, 1) := by decide +kernel

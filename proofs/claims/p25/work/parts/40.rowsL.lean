theorem dL_draw_0 : decode cL_draw 0 = .ok (.iload_n 1, 1) := by decide +kernel
theorem dL_draw_1 : decode cL_draw 1 = .ok (.aload_n 0, 1) := by decide +kernel
theorem dL_draw_2 : decode cL_draw 2 = .ok (.arraylength, 1) := by decide +kernel
theorem dL_draw_3 : decode cL_draw 3 = .ok (.if_icmp .ge 9, 3) := by decide +kernel
theorem dL_draw_6 : decode cL_draw 6 = .ok (.aload_n 0, 1) := by decide +kernel
theorem dL_draw_7 : decode cL_draw 7 = .ok (.iload_n 1, 1) := by decide +kernel
theorem dL_draw_8 : decode cL_draw 8 = .ok (.iaload, 1) := by decide +kernel
theorem dL_draw_9 : decode cL_draw 9 = .ok (.goto 11, 3) := by decide +kernel
theorem dL_draw_12 : decode cL_draw 12 = .ok (.ldc 7, 2) := by decide +kernel
theorem dL_draw_14 : decode cL_draw 14 = .ok (.iload_n 1, 1) := by decide +kernel
theorem dL_draw_15 : decode cL_draw 15 = .ok (.imul, 1) := by decide +kernel
theorem dL_draw_16 : decode cL_draw 16 = .ok (.sipush 11503, 3) := by decide +kernel
theorem dL_draw_19 : decode cL_draw 19 = .ok (.iadd, 1) := by decide +kernel
theorem dL_draw_20 : decode cL_draw 20 = .ok (.ldc 8, 2) := by decide +kernel
theorem dL_draw_22 : decode cL_draw 22 = .ok (.iand, 1) := by decide +kernel
theorem dL_draw_23 : decode cL_draw 23 = .ok (.ireturn, 1) := by decide +kernel
set_option maxRecDepth 20000 in
theorem ggL_start_X5_start : GoodIn wsL_start wsX5_start := goodIn_ca (goodIn_r _ [7, 8, 9, 10, 11, 12, 6, 13, 14, 15, 16, 17, 18, 19, 20, 21, 22, 23, 24, 25, 26, 27, 28, 29, 30, 31, 32, 33, 34, 35, 36, 37, 38, 39, 40, 41, 42, 43, 44, 45, 46, 47, 48, 49, 50, 51, 52, 53, 54, 55, 56, 57, 58, 59, 60, 61, 62, 63, 64, 65, 66, 67, 68, 69, 70, 71, 72, 73, 74, 75, 76, 77, 78, 79, 80, 81, 82, 83, 84, 85, 86, 87, 88, 89, 90, 91, 92, 93, 94, 95, 96, 97, 98, 99, 100, 101, 102, 103, 104, 105, 106, 107, 108, 109, 110, 111, 112, 113, 114, 115, 116, 117, 118, 119, 120, 121] (by decide +kernel) (by decide +kernel)) (goodIn_sub (fun _ h => List.mem_cons_of_mem _ (List.mem_append_right _ h)) (by decide +kernel))
set_option maxRecDepth 20000 in
theorem gL_start_X5_start : GoodIn wsL_start (wsV RL 9 RX5 yX5_start wsX5_start) := goodIn_app (goodIn_of _ (by decide +kernel)) ggL_start_X5_start
theorem dL_start_0 : decode cL_start 0 = .ok (.aload_n 0, 1) := by decide +kernel
theorem dL_start_1 : decode cL_start 1 = .ok (.iload_n 1, 1) := by decide +kernel
theorem dL_start_2 : decode cL_start 2 = .ok (.iload_n 2, 1) := by decide +kernel
theorem dL_start_3 : decode cL_start 3 = .ok (.invokevirtual 9, 3) := by decide +kernel
theorem dL_start_6 : decode cL_start 6 = .ok (.i2l, 1) := by decide +kernel
theorem dL_start_7 : decode cL_start 7 = .ok (.lreturn, 1) := by decide +kernel
theorem dL_start_8 : decode cL_start 8 = .ok (.astore_n 3, 1) := by decide +kernel
theorem dL_start_9 : decode cL_start 9 = .ok (.ldc2_w 17, 3) := by decide +kernel
theorem dL_start_12 : decode cL_start 12 = .ok (.lreturn, 1) := by decide +kernel
set_option maxRecDepth 20000 in
theorem ggL_weight_X5_setWeight : GoodIn wsL_weight wsX5_setWeight := goodIn_ca (goodIn_ca (goodIn_r _ [9, 10, 11, 12, 13, 14, 15, 16, 17, 18, 19, 20, 21, 22, 23, 24, 25, 26, 27, 28, 29, 30, 31, 32, 33, 34] (by decide +kernel) (by decide +kernel)) (goodIn_sub (fun _ h => List.mem_cons_of_mem _ (List.mem_append_left _ (List.mem_append_right _ h))) (by decide +kernel))) (goodIn_sub (fun _ h => List.mem_cons_of_mem _ (List.mem_append_right _ h)) (by decide +kernel))
set_option maxRecDepth 20000 in
theorem gL_weight_X5_setWeight : GoodIn wsL_weight (wsV RL 19 RX5 yX5_setWeight wsX5_setWeight) := goodIn_app (goodIn_of _ (by decide +kernel)) ggL_weight_X5_setWeight
theorem dL_weight_0 : decode cL_weight 0 = .ok (.aload_n 0, 1) := by decide +kernel
theorem dL_weight_1 : decode cL_weight 1 = .ok (.iload_n 1, 1) := by decide +kernel
theorem dL_weight_2 : decode cL_weight 2 = .ok (.iload_n 2, 1) := by decide +kernel
theorem dL_weight_3 : decode cL_weight 3 = .ok (.invokevirtual 19, 3) := by decide +kernel
theorem dL_weight_6 : decode cL_weight 6 = .ok (.i2l, 1) := by decide +kernel
theorem dL_weight_7 : decode cL_weight 7 = .ok (.lreturn, 1) := by decide +kernel
theorem dL_weight_8 : decode cL_weight 8 = .ok (.astore_n 3, 1) := by decide +kernel
theorem dL_weight_9 : decode cL_weight 9 = .ok (.ldc2_w 17, 3) := by decide +kernel
theorem dL_weight_12 : decode cL_weight 12 = .ok (.lreturn, 1) := by decide +kernel
theorem dL_weight_13 : decode cL_weight 13 = .ok (.astore_n 3, 1) := by decide +kernel
theorem dL_weight_14 : decode cL_weight 14 = .ok (.ldc2_w 24, 3) := by decide +kernel
theorem dL_weight_17 : decode cL_weight 17 = .ok (.lreturn, 1) := by decide +kernel
set_option maxRecDepth 20000 in
theorem ggL_set_X5_setBlock : GoodIn wsL_set wsX5_setBlock := goodIn_ca (goodIn_r _ [7, 8, 9, 10, 11, 12, 13, 14, 15, 16, 17, 18, 19, 20, 21, 22, 23, 24, 25, 6, 26, 27, 28, 29, 30, 31, 32, 33, 34, 35, 36, 37, 38, 39, 40, 41, 42, 43, 44, 45, 46] (by decide +kernel) (by decide +kernel)) (goodIn_sub (fun _ h => List.mem_cons_of_mem _ (List.mem_append_right _ h)) (by decide +kernel))
set_option maxRecDepth 20000 in
theorem gL_set_X5_setBlock : GoodIn wsL_set (wsV RL 26 RX5 yX5_setBlock wsX5_setBlock) := goodIn_app (goodIn_of _ (by decide +kernel)) ggL_set_X5_setBlock
theorem dL_set_0 : decode cL_set 0 = .ok (.aload_n 0, 1) := by decide +kernel
theorem dL_set_1 : decode cL_set 1 = .ok (.iload_n 1, 1) := by decide +kernel
theorem dL_set_2 : decode cL_set 2 = .ok (.iload_n 2, 1) := by decide +kernel
theorem dL_set_3 : decode cL_set 3 = .ok (.invokevirtual 26, 3) := by decide +kernel
theorem dL_set_6 : decode cL_set 6 = .ok (.i2l, 1) := by decide +kernel
theorem dL_set_7 : decode cL_set 7 = .ok (.lreturn, 1) := by decide +kernel
theorem dL_set_8 : decode cL_set 8 = .ok (.astore_n 3, 1) := by decide +kernel
theorem dL_set_9 : decode cL_set 9 = .ok (.ldc2_w 31, 3) := by decide +kernel
theorem dL_set_12 : decode cL_set 12 = .ok (.lreturn, 1) := by decide +kernel
set_option maxRecDepth 20000 in
theorem ggL_at_X5_blockAt : GoodIn wsL_at wsX5_blockAt := goodIn_ca (goodIn_r _ [7, 8, 9, 10, 11, 12, 13, 6, 14, 15, 16, 17, 18, 19, 20, 21, 22, 23, 24, 25, 26, 27, 28, 29, 30, 31, 32, 33, 34, 35, 36, 37, 38, 39, 40, 41, 42, 43, 44, 45, 46, 47] (by decide +kernel) (by decide +kernel)) (goodIn_sub (fun _ h => List.mem_cons_of_mem _ (List.mem_append_right _ h)) (by decide +kernel))
set_option maxRecDepth 20000 in
theorem gL_at_X5_blockAt : GoodIn wsL_at (wsV RL 33 RX5 yX5_blockAt wsX5_blockAt) := goodIn_app (goodIn_of _ (by decide +kernel)) ggL_at_X5_blockAt
theorem dL_at_0 : decode cL_at 0 = .ok (.aload_n 0, 1) := by decide +kernel
theorem dL_at_1 : decode cL_at 1 = .ok (.iload_n 1, 1) := by decide +kernel
theorem dL_at_2 : decode cL_at 2 = .ok (.invokevirtual 33, 3) := by decide +kernel
theorem dL_at_5 : decode cL_at 5 = .ok (.i2l, 1) := by decide +kernel
theorem dL_at_6 : decode cL_at 6 = .ok (.lreturn, 1) := by decide +kernel
theorem dL_at_7 : decode cL_at 7 = .ok (.astore_n 2, 1) := by decide +kernel
theorem dL_at_8 : decode cL_at 8 = .ok (.ldc2_w 31, 3) := by decide +kernel
theorem dL_at_11 : decode cL_at 11 = .ok (.lreturn, 1) := by decide +kernel
set_option maxRecDepth 20000 in
theorem ggL_of_X5_blockOf : GoodIn wsL_of wsX5_blockOf := goodIn_ca (goodIn_r _ [7, 8, 9, 10, 11, 12, 6, 13, 14, 15, 16, 17, 18, 19, 20, 21, 22, 23, 24, 25, 26, 27, 28, 29, 30, 31, 32, 33, 34, 35, 36, 37, 38, 39, 40, 41, 42, 43, 44, 45, 46, 47, 48, 49, 50, 51, 52, 53, 54, 55, 56, 57, 58, 59, 60, 61, 62, 63, 64, 65, 66, 67, 68, 69, 70, 71, 72, 73, 74, 75, 76, 77, 78, 79, 80, 81, 82, 83] (by decide +kernel) (by decide +kernel)) (goodIn_sub (fun _ h => List.mem_cons_of_mem _ (List.mem_append_right _ h)) (by decide +kernel))
set_option maxRecDepth 20000 in
theorem gL_of_X5_blockOf : GoodIn wsL_of (wsV RL 37 RX5 yX5_blockOf wsX5_blockOf) := goodIn_app (goodIn_of _ (by decide +kernel)) ggL_of_X5_blockOf
theorem dL_of_0 : decode cL_of 0 = .ok (.aload_n 0, 1) := by decide +kernel
theorem dL_of_1 : decode cL_of 1 = .ok (.iload_n 1, 1) := by decide +kernel
theorem dL_of_2 : decode cL_of 2 = .ok (.iload_n 2, 1) := by decide +kernel
theorem dL_of_3 : decode cL_of 3 = .ok (.invokevirtual 37, 3) := by decide +kernel
theorem dL_of_6 : decode cL_of 6 = .ok (.i2l, 1) := by decide +kernel
theorem dL_of_7 : decode cL_of 7 = .ok (.lreturn, 1) := by decide +kernel
theorem dL_of_8 : decode cL_of 8 = .ok (.astore_n 3, 1) := by decide +kernel
theorem dL_of_9 : decode cL_of 9 = .ok (.ldc2_w 31, 3) := by decide +kernel
theorem dL_of_12 : decode cL_of 12 = .ok (.lreturn, 1) := by decide +kernel
set_option maxRecDepth 20000 in
theorem ggL_receive_X5_receive : GoodIn wsL_receive wsX5_receive := goodIn_ca (goodIn_r _ [7, 8, 9, 10, 11, 12, 6, 13, 14, 15, 16, 17, 18, 19, 20, 21, 22, 23, 24, 25, 26, 27, 28, 29, 30, 31, 32, 33, 34, 35, 36, 37, 38, 39, 40, 41, 42, 43, 44, 45, 46, 47, 48, 49, 50, 51, 52, 53, 54, 55, 56, 57, 58, 59, 60, 61, 62, 63, 64, 65, 66, 67, 68, 69, 70, 71, 72, 73, 74, 75, 76, 77, 78, 79, 80, 81, 82, 83, 84, 85, 86, 87, 88, 89, 90, 91, 92, 93, 94, 95, 96, 97, 98, 99, 100, 101, 102, 103, 104, 105, 106, 107, 108, 109, 110, 111, 112, 113, 114, 115, 116, 117, 118, 119, 120, 121, 122, 123, 124, 125, 126, 127, 128, 129, 130, 131, 132, 133, 134, 135, 136, 137, 138, 139, 140, 141, 142, 143, 144, 145, 146, 147, 148, 149, 150, 151, 152, 153, 154, 155, 156, 157, 158, 159, 160, 161, 162, 163, 164, 165, 166, 167] (by decide +kernel) (by decide +kernel)) (goodIn_sub (fun _ h => List.mem_cons_of_mem _ (List.mem_append_right _ h)) (by decide +kernel))
set_option maxRecDepth 20000 in
theorem gL_receive_X5_receive : GoodIn wsL_receive (wsV RL 40 RX5 yX5_receive wsX5_receive) := goodIn_app (goodIn_of _ (by decide +kernel)) ggL_receive_X5_receive
theorem dL_receive_0 : decode cL_receive 0 = .ok (.aload_n 0, 1) := by decide +kernel
theorem dL_receive_1 : decode cL_receive 1 = .ok (.iload_n 1, 1) := by decide +kernel
theorem dL_receive_2 : decode cL_receive 2 = .ok (.iload_n 2, 1) := by decide +kernel
theorem dL_receive_3 : decode cL_receive 3 = .ok (.invokevirtual 40, 3) := by decide +kernel
theorem dL_receive_6 : decode cL_receive 6 = .ok (.i2l, 1) := by decide +kernel
theorem dL_receive_7 : decode cL_receive 7 = .ok (.lreturn, 1) := by decide +kernel
theorem dL_receive_8 : decode cL_receive 8 = .ok (.astore_n 3, 1) := by decide +kernel
theorem dL_receive_9 : decode cL_receive 9 = .ok (.ldc2_w 24, 3) := by decide +kernel
theorem dL_receive_12 : decode cL_receive 12 = .ok (.lreturn, 1) := by decide +kernel
set_option maxRecDepth 20000 in
theorem ggL_all_X5_receiveAll : GoodIn wsL_all wsX5_receiveAll := goodIn_ca (goodIn_r _ [7, 8, 9, 10, 11, 12, 13, 6, 14, 15, 16, 17, 18, 19, 20, 21, 22, 23, 24, 25, 26, 27, 28, 29, 30, 31, 32, 33, 34, 35, 36, 37, 38, 39, 40, 41, 42, 43, 44, 45, 46, 47, 48, 49, 50, 51, 52, 53, 54, 55, 56, 57, 58, 59, 60, 61, 62, 63, 64, 65, 66, 67, 68, 69, 70, 71, 72, 73, 74, 75, 76, 77, 78, 79, 80, 81, 82, 83, 84, 85, 86, 87, 88, 89, 90, 91, 92, 93, 94, 95, 96, 97, 98, 99, 100, 101, 102, 103, 104, 105, 106, 107, 108, 109, 110, 111, 112, 113, 114, 115, 116, 117, 118, 119, 120, 121, 122, 123, 124, 125, 126, 127, 128, 129, 130, 131, 132, 133, 134, 135, 136, 137, 138, 139, 140, 141, 142, 143, 144, 145, 146, 147, 148, 149, 150, 151, 152, 153, 154, 155, 156, 157, 158, 159, 160, 161, 162, 163, 164, 165, 166, 167, 168, 169, 170, 171, 172, 173, 174, 175, 176, 177, 178, 179, 180, 181, 182, 183, 184, 185] (by decide +kernel) (by decide +kernel)) (goodIn_sub (fun _ h => List.mem_cons_of_mem _ (List.mem_append_right _ h)) (by decide +kernel))
set_option maxRecDepth 20000 in
theorem gL_all_X5_receiveAll : GoodIn wsL_all (wsV RL 43 RX5 yX5_receiveAll wsX5_receiveAll) := goodIn_app (goodIn_of _ (by decide +kernel)) ggL_all_X5_receiveAll
theorem dL_all_0 : decode cL_all 0 = .ok (.aload_n 0, 1) := by decide +kernel
theorem dL_all_1 : decode cL_all 1 = .ok (.iload_n 1, 1) := by decide +kernel
theorem dL_all_2 : decode cL_all 2 = .ok (.iload_n 2, 1) := by decide +kernel
theorem dL_all_3 : decode cL_all 3 = .ok (.invokevirtual 43, 3) := by decide +kernel
theorem dL_all_6 : decode cL_all 6 = .ok (.i2l, 1) := by decide +kernel
theorem dL_all_7 : decode cL_all 7 = .ok (.lreturn, 1) := by decide +kernel
theorem dL_all_8 : decode cL_all 8 = .ok (.astore_n 3, 1) := by decide +kernel
theorem dL_all_9 : decode cL_all 9 = .ok (.ldc2_w 17, 3) := by decide +kernel
theorem dL_all_12 : decode cL_all 12 = .ok (.lreturn, 1) := by decide +kernel
set_option maxRecDepth 20000 in
theorem ggL_peeledAt_X5_peeledAt : GoodIn wsL_peeledAt wsX5_peeledAt := goodIn_ca (goodIn_r _ [7, 8, 9, 10, 11, 12, 13, 14, 15, 16, 17, 18, 19, 20, 21, 22, 23, 24, 25, 26, 27, 28, 29, 30, 31, 32] (by decide +kernel) (by decide +kernel)) (goodIn_sub (fun _ h => List.mem_cons_of_mem _ (List.mem_append_right _ h)) (by decide +kernel))
set_option maxRecDepth 20000 in
theorem gL_peeledAt_X5_peeledAt : GoodIn wsL_peeledAt (wsV RL 46 RX5 yX5_peeledAt wsX5_peeledAt) := goodIn_app (goodIn_of _ (by decide +kernel)) ggL_peeledAt_X5_peeledAt
theorem dL_peeledAt_0 : decode cL_peeledAt 0 = .ok (.aload_n 0, 1) := by decide +kernel
theorem dL_peeledAt_1 : decode cL_peeledAt 1 = .ok (.iload_n 1, 1) := by decide +kernel
theorem dL_peeledAt_2 : decode cL_peeledAt 2 = .ok (.invokevirtual 46, 3) := by decide +kernel
theorem dL_peeledAt_5 : decode cL_peeledAt 5 = .ok (.i2l, 1) := by decide +kernel
theorem dL_peeledAt_6 : decode cL_peeledAt 6 = .ok (.lreturn, 1) := by decide +kernel
theorem dL_peeledAt_7 : decode cL_peeledAt 7 = .ok (.astore_n 2, 1) := by decide +kernel
theorem dL_peeledAt_8 : decode cL_peeledAt 8 = .ok (.ldc2_w 31, 3) := by decide +kernel
theorem dL_peeledAt_11 : decode cL_peeledAt 11 = .ok (.lreturn, 1) := by decide +kernel
set_option maxRecDepth 20000 in
theorem ggL_peeledBy_X5_peeledBy : GoodIn wsL_peeledBy wsX5_peeledBy := goodIn_ca (goodIn_r _ [7, 8, 9, 10, 11, 12, 13, 6, 14, 15, 16, 17, 18, 19, 20, 21, 22, 23, 24, 25, 26, 27, 28, 29, 30, 31, 32, 33, 34, 35, 36, 37, 38, 39, 40, 41, 42] (by decide +kernel) (by decide +kernel)) (goodIn_sub (fun _ h => List.mem_cons_of_mem _ (List.mem_append_right _ h)) (by decide +kernel))
set_option maxRecDepth 20000 in
theorem gL_peeledBy_X5_peeledBy : GoodIn wsL_peeledBy (wsV RL 49 RX5 yX5_peeledBy wsX5_peeledBy) := goodIn_app (goodIn_of _ (by decide +kernel)) ggL_peeledBy_X5_peeledBy
theorem dL_peeledBy_0 : decode cL_peeledBy 0 = .ok (.aload_n 0, 1) := by decide +kernel
theorem dL_peeledBy_1 : decode cL_peeledBy 1 = .ok (.iload_n 1, 1) := by decide +kernel
theorem dL_peeledBy_2 : decode cL_peeledBy 2 = .ok (.invokevirtual 49, 3) := by decide +kernel
theorem dL_peeledBy_5 : decode cL_peeledBy 5 = .ok (.i2l, 1) := by decide +kernel
theorem dL_peeledBy_6 : decode cL_peeledBy 6 = .ok (.lreturn, 1) := by decide +kernel
theorem dL_peeledBy_7 : decode cL_peeledBy 7 = .ok (.astore_n 2, 1) := by decide +kernel
theorem dL_peeledBy_8 : decode cL_peeledBy 8 = .ok (.ldc2_w 31, 3) := by decide +kernel
theorem dL_peeledBy_11 : decode cL_peeledBy 11 = .ok (.lreturn, 1) := by decide +kernel
set_option maxRecDepth 20000 in
theorem ggL_known_X5_isDetermined : GoodIn wsL_known wsX5_isDetermined := goodIn_ca (goodIn_r _ [7, 8, 9, 10, 11, 12, 13, 6, 14, 15, 16, 17, 18, 19, 20, 21, 22, 23, 24, 25, 26, 27, 28, 29, 30, 31, 32, 33, 34, 35, 36, 37, 38, 39, 40, 41, 42, 43, 44, 45] (by decide +kernel) (by decide +kernel)) (goodIn_sub (fun _ h => List.mem_cons_of_mem _ (List.mem_append_right _ h)) (by decide +kernel))
set_option maxRecDepth 20000 in
theorem gL_known_X5_isDetermined : GoodIn wsL_known (wsV RL 52 RX5 yX5_isDetermined wsX5_isDetermined) := goodIn_app (goodIn_of _ (by decide +kernel)) ggL_known_X5_isDetermined
theorem dL_known_0 : decode cL_known 0 = .ok (.aload_n 0, 1) := by decide +kernel
theorem dL_known_1 : decode cL_known 1 = .ok (.iload_n 1, 1) := by decide +kernel
theorem dL_known_2 : decode cL_known 2 = .ok (.invokevirtual 52, 3) := by decide +kernel
theorem dL_known_5 : decode cL_known 5 = .ok (.ifCond .eq 7, 3) := by decide +kernel
theorem dL_known_8 : decode cL_known 8 = .ok (.lconst 1, 1) := by decide +kernel
theorem dL_known_9 : decode cL_known 9 = .ok (.goto 4, 3) := by decide +kernel
theorem dL_known_12 : decode cL_known 12 = .ok (.lconst 0, 1) := by decide +kernel
theorem dL_known_13 : decode cL_known 13 = .ok (.lreturn, 1) := by decide +kernel
theorem dL_known_14 : decode cL_known 14 = .ok (.astore_n 2, 1) := by decide +kernel
theorem dL_known_15 : decode cL_known 15 = .ok (.ldc2_w 31, 3) := by decide +kernel
theorem dL_known_18 : decode cL_known 18 = .ok (.lreturn, 1) := by decide +kernel
set_option maxRecDepth 20000 in
theorem ggL_recovered_X5_recovered : GoodIn wsL_recovered wsX5_recovered := goodIn_ca (goodIn_ca (goodIn_r _ [9, 10, 11, 12, 13, 14, 15, 16, 17, 8, 18, 19, 20, 21, 22, 23, 24, 25, 26, 27, 28, 29, 30, 31, 32, 33, 34, 35, 36, 37, 38, 39, 40, 41, 42, 43, 44, 45, 46, 47, 48, 49, 50, 51, 52, 53, 54, 55, 56, 57] (by decide +kernel) (by decide +kernel)) (goodIn_sub (fun _ h => List.mem_cons_of_mem _ (List.mem_append_left _ (List.mem_append_right _ h))) (by decide +kernel))) (goodIn_sub (fun _ h => List.mem_cons_of_mem _ (List.mem_append_right _ h)) (by decide +kernel))
set_option maxRecDepth 20000 in
theorem gL_recovered_X5_recovered : GoodIn wsL_recovered (wsV RL 56 RX5 yX5_recovered wsX5_recovered) := goodIn_app (goodIn_of _ (by decide +kernel)) ggL_recovered_X5_recovered
theorem dL_recovered_0 : decode cL_recovered 0 = .ok (.aload_n 0, 1) := by decide +kernel
theorem dL_recovered_1 : decode cL_recovered 1 = .ok (.iload_n 1, 1) := by decide +kernel
theorem dL_recovered_2 : decode cL_recovered 2 = .ok (.invokevirtual 56, 3) := by decide +kernel
theorem dL_recovered_5 : decode cL_recovered 5 = .ok (.i2l, 1) := by decide +kernel
theorem dL_recovered_6 : decode cL_recovered 6 = .ok (.lreturn, 1) := by decide +kernel
theorem dL_recovered_7 : decode cL_recovered 7 = .ok (.astore_n 2, 1) := by decide +kernel
theorem dL_recovered_8 : decode cL_recovered 8 = .ok (.ldc2_w 31, 3) := by decide +kernel
theorem dL_recovered_11 : decode cL_recovered 11 = .ok (.lreturn, 1) := by decide +kernel
theorem dL_recovered_12 : decode cL_recovered 12 = .ok (.astore_n 2, 1) := by decide +kernel
theorem dL_recovered_13 : decode cL_recovered 13 = .ok (.ldc2_w 24, 3) := by decide +kernel
theorem dL_recovered_16 : decode cL_recovered 16 = .ok (.lreturn, 1) := by decide +kernel
set_option maxRecDepth 20000 in
theorem ggL_now_X5_equations : GoodIn wsL_now wsX5_equations := goodIn_r _ [6, 7, 8, 9, 10, 11, 12, 13, 124, 125, 126, 127, 128, 129, 130, 131, 132, 133, 134] (by decide +kernel) (by decide +kernel)
set_option maxRecDepth 20000 in
theorem gL_now_X5_equations : GoodIn wsL_now (wsV RL 61 RX5 yX5_equations wsX5_equations) := goodIn_app (goodIn_of _ (by decide +kernel)) ggL_now_X5_equations
set_option maxRecDepth 20000 in
theorem ggL_now_X5_rank : GoodIn wsL_now wsX5_rank := goodIn_r _ [17, 18, 19, 20, 21, 22, 23, 24, 124, 125, 126, 127, 128, 135, 136, 137] (by decide +kernel) (by decide +kernel)
set_option maxRecDepth 20000 in
theorem gL_now_X5_rank : GoodIn wsL_now (wsV RL 65 RX5 yX5_rank wsX5_rank) := goodIn_app (goodIn_of _ (by decide +kernel)) ggL_now_X5_rank
set_option maxRecDepth 20000 in
theorem ggL_now_X5_peeled : GoodIn wsL_now wsX5_peeled := goodIn_r _ [28, 7, 29, 30, 31, 11, 32, 33, 124, 125, 126, 127, 128, 129, 130, 131, 132, 133, 134] (by decide +kernel) (by decide +kernel)
set_option maxRecDepth 20000 in
theorem gL_now_X5_peeled : GoodIn wsL_now (wsV RL 68 RX5 yX5_peeled wsX5_peeled) := goodIn_app (goodIn_of _ (by decide +kernel)) ggL_now_X5_peeled
set_option maxRecDepth 20000 in
theorem ggL_now_X5_blocks : GoodIn wsL_now wsX5_blocks := goodIn_r _ [37, 38, 39, 40, 41, 42, 43, 44, 45, 124, 125, 126, 127, 128, 138, 139, 140] (by decide +kernel) (by decide +kernel)
set_option maxRecDepth 20000 in
theorem gL_now_X5_blocks : GoodIn wsL_now (wsV RL 71 RX5 yX5_blocks wsX5_blocks) := goodIn_app (goodIn_of _ (by decide +kernel)) ggL_now_X5_blocks
set_option maxRecDepth 20000 in
theorem ggL_now_L_peeledBy : GoodIn wsL_now wsL_peeledBy := goodIn_ca (goodIn_r _ [49, 50, 51, 52, 53, 54, 5, 55, 56, 57, 7, 58, 59, 60, 61, 38, 39, 40, 41, 42, 43, 44, 45, 62, 63, 64, 11, 65, 66, 124, 125, 126, 127, 128, 138, 139, 140, 129, 130, 131, 132, 133, 134] (by decide +kernel) (by decide +kernel)) (goodIn_sub (fun _ h => List.mem_cons_of_mem _ (List.mem_append_left _ (List.mem_append_right _ h))) (by decide +kernel))
set_option maxRecDepth 20000 in
theorem gL_now_L_peeledBy : GoodIn wsL_now (va_wsS RL 74 yL_peeledBy wsL_peeledBy) := goodIn_app (goodIn_of _ (by decide +kernel)) ggL_now_L_peeledBy
set_option maxRecDepth 20000 in
theorem ggL_now_L_known : GoodIn wsL_now wsL_known := goodIn_ca (goodIn_r _ [69, 50, 51, 70, 71, 72, 5, 73, 56, 57, 18, 58, 59, 60, 61, 38, 39, 40, 41, 42, 43, 44, 45, 74, 75, 76, 22, 77, 78, 79, 80, 81, 82, 83, 84, 124, 125, 126, 127, 128, 138, 139, 140, 135, 136, 137] (by decide +kernel) (by decide +kernel)) (goodIn_sub (fun _ h => List.mem_cons_of_mem _ (List.mem_append_left _ (List.mem_append_right _ h))) (by decide +kernel))
set_option maxRecDepth 20000 in
theorem gL_now_L_known : GoodIn wsL_now (va_wsS RL 79 yL_known wsL_known) := goodIn_app (goodIn_of _ (by decide +kernel)) ggL_now_L_known
set_option maxRecDepth 20000 in
theorem ggL_now_L_recovered : GoodIn wsL_now wsL_recovered := goodIn_ca (goodIn_ca (goodIn_r _ [87, 50, 88, 51, 89, 90, 91, 92, 5, 93, 56, 57, 94, 95, 18, 58, 59, 60, 61, 38, 39, 40, 41, 42, 43, 44, 45, 74, 75, 76, 22, 77, 78, 79, 80, 81, 82, 83, 84, 96, 97, 98, 99, 100, 101, 102, 103, 124, 125, 126, 127, 128, 138, 139, 140, 135, 136, 137] (by decide +kernel) (by decide +kernel)) (goodIn_sub (fun _ h => List.mem_cons_of_mem _ (List.mem_append_left _ (List.mem_append_right _ h))) (by decide +kernel))) (goodIn_sub (fun _ h => List.mem_cons_of_mem _ (List.mem_append_right _ h)) (by decide +kernel))
set_option maxRecDepth 20000 in
theorem gL_now_L_recovered : GoodIn wsL_now (va_wsS RL 82 yL_recovered wsL_recovered) := goodIn_app (goodIn_of _ (by decide +kernel)) ggL_now_L_recovered
set_option maxRecDepth 20000 in
theorem ggL_now_L_at : GoodIn wsL_now wsL_at := goodIn_ca (goodIn_r _ [106, 50, 51, 107, 108, 109, 5, 110, 56, 57, 38, 58, 59, 60, 61, 39, 40, 41, 42, 43, 44, 45, 111, 112, 113, 114, 115, 116, 117, 118, 83, 84, 119, 120, 121, 122, 123, 102, 103, 96, 124, 125, 126, 127, 128, 138, 139, 140] (by decide +kernel) (by decide +kernel)) (goodIn_sub (fun _ h => List.mem_cons_of_mem _ (List.mem_append_left _ (List.mem_append_right _ h))) (by decide +kernel))
set_option maxRecDepth 20000 in
theorem gL_now_L_at : GoodIn wsL_now (va_wsS RL 84 yL_at wsL_at) := goodIn_app (goodIn_of _ (by decide +kernel)) ggL_now_L_at
theorem dL_now_0 : decode cL_now 0 = .ok (.ldc2_w 59, 3) := by decide +kernel
theorem dL_now_3 : decode cL_now 3 = .ok (.ldc2_w 59, 3) := by decide +kernel
theorem dL_now_6 : decode cL_now 6 = .ok (.aload_n 0, 1) := by decide +kernel
theorem dL_now_7 : decode cL_now 7 = .ok (.invokevirtual 61, 3) := by decide +kernel
theorem dL_now_10 : decode cL_now 10 = .ok (.i2l, 1) := by decide +kernel
theorem dL_now_11 : decode cL_now 11 = .ok (.lmul, 1) := by decide +kernel
theorem dL_now_12 : decode cL_now 12 = .ok (.aload_n 0, 1) := by decide +kernel
theorem dL_now_13 : decode cL_now 13 = .ok (.invokevirtual 65, 3) := by decide +kernel
theorem dL_now_16 : decode cL_now 16 = .ok (.i2l, 1) := by decide +kernel
theorem dL_now_17 : decode cL_now 17 = .ok (.ladd, 1) := by decide +kernel
theorem dL_now_18 : decode cL_now 18 = .ok (.lmul, 1) := by decide +kernel
theorem dL_now_19 : decode cL_now 19 = .ok (.aload_n 0, 1) := by decide +kernel
theorem dL_now_20 : decode cL_now 20 = .ok (.invokevirtual 68, 3) := by decide +kernel
theorem dL_now_23 : decode cL_now 23 = .ok (.i2l, 1) := by decide +kernel
theorem dL_now_24 : decode cL_now 24 = .ok (.ladd, 1) := by decide +kernel
theorem dL_now_25 : decode cL_now 25 = .ok (.lstore_n 1, 1) := by decide +kernel
theorem dL_now_26 : decode cL_now 26 = .ok (.iconst 0, 1) := by decide +kernel
theorem dL_now_27 : decode cL_now 27 = .ok (.istore_n 3, 1) := by decide +kernel
theorem dL_now_28 : decode cL_now 28 = .ok (.iload_n 3, 1) := by decide +kernel
theorem dL_now_29 : decode cL_now 29 = .ok (.aload_n 0, 1) := by decide +kernel
theorem dL_now_30 : decode cL_now 30 = .ok (.invokevirtual 71, 3) := by decide +kernel
theorem dL_now_33 : decode cL_now 33 = .ok (.if_icmp .ge 47, 3) := by decide +kernel
theorem dL_now_36 : decode cL_now 36 = .ok (.ldc2_w 59, 3) := by decide +kernel
theorem dL_now_39 : decode cL_now 39 = .ok (.ldc2_w 59, 3) := by decide +kernel
theorem dL_now_42 : decode cL_now 42 = .ok (.ldc2_w 59, 3) := by decide +kernel
theorem dL_now_45 : decode cL_now 45 = .ok (.lload_n 1, 1) := by decide +kernel
theorem dL_now_46 : decode cL_now 46 = .ok (.lmul, 1) := by decide +kernel
theorem dL_now_47 : decode cL_now 47 = .ok (.aload_n 0, 1) := by decide +kernel
theorem dL_now_48 : decode cL_now 48 = .ok (.iload_n 3, 1) := by decide +kernel
theorem dL_now_49 : decode cL_now 49 = .ok (.invokestatic 74, 3) := by decide +kernel
theorem dL_now_52 : decode cL_now 52 = .ok (.ladd, 1) := by decide +kernel
theorem dL_now_53 : decode cL_now 53 = .ok (.lmul, 1) := by decide +kernel
theorem dL_now_54 : decode cL_now 54 = .ok (.aload_n 0, 1) := by decide +kernel
theorem dL_now_55 : decode cL_now 55 = .ok (.iload_n 3, 1) := by decide +kernel
theorem dL_now_56 : decode cL_now 56 = .ok (.invokestatic 79, 3) := by decide +kernel
theorem dL_now_59 : decode cL_now 59 = .ok (.ladd, 1) := by decide +kernel
theorem dL_now_60 : decode cL_now 60 = .ok (.lmul, 1) := by decide +kernel
theorem dL_now_61 : decode cL_now 61 = .ok (.aload_n 0, 1) := by decide +kernel
theorem dL_now_62 : decode cL_now 62 = .ok (.iload_n 3, 1) := by decide +kernel
theorem dL_now_63 : decode cL_now 63 = .ok (.invokestatic 82, 3) := by decide +kernel
theorem dL_now_66 : decode cL_now 66 = .ok (.ladd, 1) := by decide +kernel
theorem dL_now_67 : decode cL_now 67 = .ok (.aload_n 0, 1) := by decide +kernel
theorem dL_now_68 : decode cL_now 68 = .ok (.iload_n 3, 1) := by decide +kernel
theorem dL_now_69 : decode cL_now 69 = .ok (.invokestatic 84, 3) := by decide +kernel
theorem dL_now_72 : decode cL_now 72 = .ok (.ladd, 1) := by decide +kernel
theorem dL_now_73 : decode cL_now 73 = .ok (.lstore_n 1, 1) := by decide +kernel
theorem dL_now_74 : decode cL_now 74 = .ok (.iinc 3 1, 3) := by decide +kernel
theorem dL_now_77 : decode cL_now 77 = .ok (.goto (-49), 3) := by decide +kernel
theorem dL_now_80 : decode cL_now 80 = .ok (.lload_n 1, 1) := by decide +kernel
theorem dL_now_81 : decode cL_now 81 = .ok (.lreturn, 1) := by decide +kernel
set_option maxRecDepth 20000 in
theorem ggL_refuses_L_now : GoodIn wsL_refuses wsL_now := goodIn_ca (goodIn_ca (goodIn_r _ [6, 7, 8, 9, 10, 11, 12, 13, 14, 15, 16, 17, 18, 19, 20, 21, 22, 23, 24, 25, 26, 27, 28, 29, 30, 31, 32, 33, 34, 35, 36, 37, 38, 39, 40, 41, 42, 43, 44, 45, 46, 47, 48, 49, 50, 51, 52, 53, 5, 54, 55, 2, 56, 57, 58, 59, 60, 61, 62, 63, 64, 65, 66, 67, 68, 69, 70, 71, 72, 73, 74, 75, 76, 77, 78, 79, 80, 81, 82, 83, 84, 85, 86, 87, 88, 89, 90, 91, 92, 93, 94, 95, 96, 97, 98, 99, 100, 101, 102, 103, 104, 105, 106, 107, 108, 109, 110, 111, 112, 113, 114, 115, 116, 117, 118, 119, 120, 121, 122, 123, 124, 125, 126, 127, 353, 354, 355, 356, 357, 358, 359, 360, 361, 362, 363, 364, 365, 366, 367, 368, 369] (by decide +kernel) (by decide +kernel)) (goodIn_sub (fun _ h => List.mem_cons_of_mem _ (List.mem_append_left _ (List.mem_append_left _ (List.mem_append_right _ h)))) (by decide +kernel))) (goodIn_sub (fun _ h => List.mem_cons_of_mem _ (List.mem_append_left _ (List.mem_append_right _ h))) (by decide +kernel))
set_option maxRecDepth 20000 in
theorem gL_refuses_L_now : GoodIn wsL_refuses (va_wsS RL 87 yL_now wsL_now) := goodIn_app (goodIn_of _ (by decide +kernel)) ggL_refuses_L_now
set_option maxRecDepth 20000 in
theorem ggL_refuses_X5_blocks : GoodIn wsL_refuses wsX5_blocks := goodIn_r _ [43, 44, 45, 46, 47, 48, 49, 50, 51, 353, 354, 355, 356, 357, 367, 368, 369] (by decide +kernel) (by decide +kernel)
set_option maxRecDepth 20000 in
theorem gL_refuses_X5_blocks : GoodIn wsL_refuses (wsV RL 71 RX5 yX5_blocks wsX5_blocks) := goodIn_app (goodIn_of _ (by decide +kernel)) ggL_refuses_X5_blocks
set_option maxRecDepth 20000 in
theorem ggL_refuses_L_start : GoodIn wsL_refuses wsL_start := goodIn_ca (goodIn_r _ [130, 131, 1, 132, 133, 134, 11, 135, 136, 137, 138, 139, 140, 141, 44, 13, 24, 142, 143, 144, 48, 145, 50, 51, 127, 146, 147, 148, 149, 150, 151, 152, 17, 153, 19, 39, 154, 70, 155, 156, 157, 158, 28, 159, 30, 86, 105, 160, 161, 162, 163, 100, 87, 88, 164, 120, 121, 122, 165, 166, 167, 168, 169, 170, 171, 172, 173, 174, 175, 176, 177, 178, 179, 180, 181, 106, 107, 182, 183, 184, 185, 186, 187, 188, 189, 190, 191, 102, 103, 104, 192, 193, 194, 195, 196, 197, 198, 199, 200, 201, 202, 203, 204, 205, 206, 353, 354, 355, 356, 357, 367, 368, 369, 358, 359, 360, 361, 362, 363, 364, 365, 366] (by decide +kernel) (by decide +kernel)) (goodIn_sub (fun _ h => List.mem_cons_of_mem _ (List.mem_append_right _ h)) (by decide +kernel))
set_option maxRecDepth 20000 in
theorem gL_refuses_L_start : GoodIn wsL_refuses (va_wsS RL 91 yL_start wsL_start) := goodIn_app (goodIn_of _ (by decide +kernel)) ggL_refuses_L_start
set_option maxRecDepth 20000 in
theorem ggL_refuses_L_weight : GoodIn wsL_refuses wsL_weight := goodIn_ca (goodIn_ca (goodIn_r _ [209, 131, 92, 1, 93, 210, 211, 212, 11, 213, 136, 137, 98, 99, 214, 215, 216, 217, 218, 219, 220, 221, 222, 223, 224, 225, 226, 227, 228, 353, 354, 355, 356, 357, 370] (by decide +kernel) (by decide +kernel)) (goodIn_sub (fun _ h => List.mem_cons_of_mem _ (List.mem_append_right _ h)) (by decide +kernel))) (goodIn_sub (fun _ h => List.mem_cons_of_mem _ (List.mem_append_left _ (List.mem_append_right _ h))) (by decide +kernel))
set_option maxRecDepth 20000 in
theorem gL_refuses_L_weight : GoodIn wsL_refuses (va_wsS RL 94 yL_weight wsL_weight) := goodIn_app (goodIn_of _ (by decide +kernel)) ggL_refuses_L_weight
set_option maxRecDepth 20000 in
theorem ggL_refuses_L_set : GoodIn wsL_refuses wsL_set := goodIn_ca (goodIn_r _ [231, 55, 2, 232, 233, 234, 11, 235, 60, 61, 44, 236, 237, 238, 48, 239, 50, 115, 116, 117, 118, 119, 120, 121, 122, 87, 88, 123, 124, 125, 126, 127, 106, 107, 100, 240, 241, 242, 243, 353, 354, 355, 356, 357, 367, 368, 369] (by decide +kernel) (by decide +kernel)) (goodIn_sub (fun _ h => List.mem_cons_of_mem _ (List.mem_append_left _ (List.mem_append_left _ (List.mem_append_right _ h)))) (by decide +kernel))
set_option maxRecDepth 20000 in
theorem gL_refuses_L_set : GoodIn wsL_refuses (va_wsS RL 97 yL_set wsL_set) := goodIn_app (goodIn_of _ (by decide +kernel)) ggL_refuses_L_set
set_option maxRecDepth 20000 in
theorem ggL_refuses_L_at : GoodIn wsL_refuses wsL_at := goodIn_ca (goodIn_r _ [110, 55, 2, 111, 112, 113, 11, 114, 60, 61, 44, 62, 63, 64, 65, 45, 46, 47, 48, 49, 50, 51, 115, 116, 117, 118, 119, 120, 121, 122, 87, 88, 123, 124, 125, 126, 127, 106, 107, 100, 353, 354, 355, 356, 357, 367, 368, 369] (by decide +kernel) (by decide +kernel)) (goodIn_sub (fun _ h => List.mem_cons_of_mem _ (List.mem_append_left _ (List.mem_append_left _ (List.mem_append_right _ h)))) (by decide +kernel))
set_option maxRecDepth 20000 in
theorem gL_refuses_L_at : GoodIn wsL_refuses (va_wsS RL 84 yL_at wsL_at) := goodIn_app (goodIn_of _ (by decide +kernel)) ggL_refuses_L_at
set_option maxRecDepth 20000 in
theorem ggL_refuses_X5_degree : GoodIn wsL_refuses wsX5_degree := goodIn_r _ [247, 248, 249, 250, 11, 251, 252, 214, 44, 45, 46, 47, 48, 49, 50, 51, 253, 254, 255, 256, 257, 258, 259, 260, 261, 262, 263, 264, 265, 266, 222, 223, 218, 224, 220, 267, 268, 269, 270, 271, 272, 273, 274, 275, 276, 277, 278, 279, 280, 281, 282, 283, 284, 87, 88, 285, 286, 287, 288, 353, 354, 355, 356, 357, 367, 368, 369, 371, 372, 373, 374, 370] (by decide +kernel) (by decide +kernel)
set_option maxRecDepth 20000 in
theorem gL_refuses_X5_degree : GoodIn wsL_refuses (wsV RL 100 RX5 yX5_degree wsX5_degree) := goodIn_app (goodIn_of _ (by decide +kernel)) ggL_refuses_X5_degree
set_option maxRecDepth 20000 in
theorem ggL_refuses_L_of : GoodIn wsL_refuses wsL_of := goodIn_ca (goodIn_r _ [291, 55, 2, 292, 293, 294, 11, 295, 60, 61, 248, 249, 250, 251, 252, 214, 44, 45, 46, 47, 48, 49, 50, 51, 253, 254, 255, 256, 257, 258, 259, 260, 261, 262, 263, 264, 265, 266, 222, 223, 218, 224, 220, 267, 268, 269, 270, 271, 272, 273, 274, 275, 276, 277, 278, 279, 280, 281, 282, 283, 284, 87, 88, 285, 286, 287, 288, 296, 297, 298, 299, 353, 354, 355, 356, 357, 367, 368, 369, 371, 372, 373, 374, 370] (by decide +kernel) (by decide +kernel)) (goodIn_sub (fun _ h => List.mem_cons_of_mem _ (List.mem_append_left _ (List.mem_append_left _ (List.mem_append_right _ h)))) (by decide +kernel))
set_option maxRecDepth 20000 in
theorem gL_refuses_L_of : GoodIn wsL_refuses (va_wsS RL 103 yL_of wsL_of) := goodIn_app (goodIn_of _ (by decide +kernel)) ggL_refuses_L_of
set_option maxRecDepth 20000 in
theorem ggL_refuses_L_all : GoodIn wsL_refuses wsL_all := goodIn_ca (goodIn_r _ [302, 131, 1, 303, 304, 305, 11, 306, 136, 137, 44, 248, 249, 250, 251, 252, 214, 45, 46, 47, 48, 49, 50, 51, 253, 254, 255, 256, 257, 258, 259, 260, 261, 262, 263, 264, 265, 266, 222, 223, 218, 224, 220, 267, 268, 269, 270, 271, 272, 273, 274, 275, 276, 277, 278, 279, 280, 281, 282, 283, 284, 87, 88, 307, 308, 309, 310, 311, 312, 313, 314, 123, 124, 125, 126, 127, 106, 107, 100, 315, 316, 116, 117, 118, 119, 120, 121, 122, 317, 318, 319, 320, 13, 24, 14, 15, 16, 17, 18, 19, 321, 322, 323, 324, 325, 326, 327, 28, 328, 178, 179, 180, 181, 86, 191, 102, 103, 104, 105, 329, 330, 331, 332, 165, 166, 167, 168, 169, 170, 171, 172, 173, 174, 175, 176, 177, 30, 182, 183, 184, 185, 186, 187, 188, 189, 190, 192, 193, 194, 195, 39, 196, 197, 198, 199, 154, 200, 201, 202, 203, 204, 205, 206, 70, 353, 354, 355, 356, 357, 367, 368, 369, 371, 372, 373, 374, 370, 358, 359, 360, 361, 362, 363, 364, 365, 366] (by decide +kernel) (by decide +kernel)) (goodIn_sub (fun _ h => List.mem_cons_of_mem _ (List.mem_append_right _ h)) (by decide +kernel))
set_option maxRecDepth 20000 in
theorem gL_refuses_L_all : GoodIn wsL_refuses (va_wsS RL 106 yL_all wsL_all) := goodIn_app (goodIn_of _ (by decide +kernel)) ggL_refuses_L_all
set_option maxRecDepth 20000 in
theorem ggL_refuses_X5_peeled : GoodIn wsL_refuses wsX5_peeled := goodIn_r _ [34, 13, 35, 36, 37, 17, 38, 39, 353, 354, 355, 356, 357, 358, 359, 360, 361, 362, 363] (by decide +kernel) (by decide +kernel)
set_option maxRecDepth 20000 in
theorem gL_refuses_X5_peeled : GoodIn wsL_refuses (wsV RL 68 RX5 yX5_peeled wsX5_peeled) := goodIn_app (goodIn_of _ (by decide +kernel)) ggL_refuses_X5_peeled
set_option maxRecDepth 20000 in
theorem ggL_refuses_L_peeledAt : GoodIn wsL_refuses wsL_peeledAt := goodIn_ca (goodIn_r _ [335, 55, 2, 336, 337, 338, 11, 339, 60, 61, 13, 35, 36, 37, 17, 38, 39, 340, 341, 342, 343, 206, 353, 354, 355, 356, 357, 358, 359, 360, 361, 362, 363] (by decide +kernel) (by decide +kernel)) (goodIn_sub (fun _ h => List.mem_cons_of_mem _ (List.mem_append_left _ (List.mem_append_left _ (List.mem_append_right _ h)))) (by decide +kernel))
set_option maxRecDepth 20000 in
theorem gL_refuses_L_peeledAt : GoodIn wsL_refuses (va_wsS RL 109 yL_peeledAt wsL_peeledAt) := goodIn_app (goodIn_of _ (by decide +kernel)) ggL_refuses_L_peeledAt
set_option maxRecDepth 20000 in
theorem ggL_refuses_L_peeledBy : GoodIn wsL_refuses wsL_peeledBy := goodIn_ca (goodIn_r _ [54, 55, 2, 56, 57, 58, 11, 59, 60, 61, 13, 62, 63, 64, 65, 44, 45, 46, 47, 48, 49, 50, 51, 66, 67, 68, 17, 69, 70, 353, 354, 355, 356, 357, 367, 368, 369, 358, 359, 360, 361, 362, 363] (by decide +kernel) (by decide +kernel)) (goodIn_sub (fun _ h => List.mem_cons_of_mem _ (List.mem_append_left _ (List.mem_append_left _ (List.mem_append_right _ h)))) (by decide +kernel))
set_option maxRecDepth 20000 in
theorem gL_refuses_L_peeledBy : GoodIn wsL_refuses (va_wsS RL 74 yL_peeledBy wsL_peeledBy) := goodIn_app (goodIn_of _ (by decide +kernel)) ggL_refuses_L_peeledBy
set_option maxRecDepth 20000 in
theorem ggL_refuses_L_known : GoodIn wsL_refuses wsL_known := goodIn_ca (goodIn_r _ [73, 55, 2, 74, 75, 76, 11, 77, 60, 61, 24, 62, 63, 64, 65, 44, 45, 46, 47, 48, 49, 50, 51, 78, 79, 80, 28, 81, 82, 83, 84, 85, 86, 87, 88, 353, 354, 355, 356, 357, 367, 368, 369, 364, 365, 366] (by decide +kernel) (by decide +kernel)) (goodIn_sub (fun _ h => List.mem_cons_of_mem _ (List.mem_append_left _ (List.mem_append_left _ (List.mem_append_right _ h)))) (by decide +kernel))
set_option maxRecDepth 20000 in
theorem gL_refuses_L_known : GoodIn wsL_refuses (va_wsS RL 79 yL_known wsL_known) := goodIn_app (goodIn_of _ (by decide +kernel)) ggL_refuses_L_known
set_option maxRecDepth 20000 in
theorem ggL_refuses_L_recovered : GoodIn wsL_refuses wsL_recovered := goodIn_ca (goodIn_ca (goodIn_r _ [91, 55, 92, 2, 93, 94, 95, 96, 11, 97, 60, 61, 98, 99, 24, 62, 63, 64, 65, 44, 45, 46, 47, 48, 49, 50, 51, 78, 79, 80, 28, 81, 82, 83, 84, 85, 86, 87, 88, 100, 101, 102, 103, 104, 105, 106, 107, 353, 354, 355, 356, 357, 367, 368, 369, 364, 365, 366] (by decide +kernel) (by decide +kernel)) (goodIn_sub (fun _ h => List.mem_cons_of_mem _ (List.mem_append_left _ (List.mem_append_left _ (List.mem_append_right _ h)))) (by decide +kernel))) (goodIn_sub (fun _ h => List.mem_cons_of_mem _ (List.mem_append_left _ (List.mem_append_right _ h))) (by decide +kernel))
set_option maxRecDepth 20000 in
theorem gL_refuses_L_recovered : GoodIn wsL_refuses (va_wsS RL 82 yL_recovered wsL_recovered) := goodIn_app (goodIn_of _ (by decide +kernel)) ggL_refuses_L_recovered
set_option maxRecDepth 20000 in
theorem ggL_refuses_X5_wouldDetermine : GoodIn wsL_refuses wsX5_wouldDetermine := goodIn_r _ [347, 24, 44, 248, 249, 250, 11, 251, 252, 214, 45, 46, 47, 48, 49, 50, 51, 253, 254, 255, 256, 257, 258, 259, 260, 261, 262, 263, 264, 265, 266, 222, 223, 218, 224, 220, 267, 268, 269, 270, 271, 272, 273, 274, 275, 276, 277, 278, 279, 280, 281, 282, 283, 284, 87, 88, 307, 308, 309, 310, 348, 179, 180, 28, 181, 86, 106, 107, 100, 349, 350, 351, 352, 82, 83, 84, 85, 353, 354, 355, 356, 357, 367, 368, 369, 371, 372, 373, 374, 370, 364, 365, 366] (by decide +kernel) (by decide +kernel)
set_option maxRecDepth 20000 in
theorem gL_refuses_X5_wouldDetermine : GoodIn wsL_refuses (wsV RL 111 RX5 yX5_wouldDetermine wsX5_wouldDetermine) := goodIn_app (goodIn_of _ (by decide +kernel)) ggL_refuses_X5_wouldDetermine
theorem dL_refuses_0 : decode cL_refuses 0 = .ok (.aload_n 0, 1) := by decide +kernel
theorem dL_refuses_1 : decode cL_refuses 1 = .ok (.invokestatic 87, 3) := by decide +kernel
theorem dL_refuses_4 : decode cL_refuses 4 = .ok (.lstore_n 2, 1) := by decide +kernel
theorem dL_refuses_5 : decode cL_refuses 5 = .ok (.aload_n 0, 1) := by decide +kernel
theorem dL_refuses_6 : decode cL_refuses 6 = .ok (.invokevirtual 71, 3) := by decide +kernel
theorem dL_refuses_9 : decode cL_refuses 9 = .ok (.istore 4, 2) := by decide +kernel
theorem dL_refuses_11 : decode cL_refuses 11 = .ok (.aload_n 0, 1) := by decide +kernel
theorem dL_refuses_12 : decode cL_refuses 12 = .ok (.iconst 0, 1) := by decide +kernel
theorem dL_refuses_13 : decode cL_refuses 13 = .ok (.iconst 0, 1) := by decide +kernel
theorem dL_refuses_14 : decode cL_refuses 14 = .ok (.invokestatic 91, 3) := by decide +kernel
theorem dL_refuses_17 : decode cL_refuses 17 = .ok (.ldc2_w 17, 3) := by decide +kernel
theorem dL_refuses_20 : decode cL_refuses 20 = .ok (.lcmp, 1) := by decide +kernel
theorem dL_refuses_21 : decode cL_refuses 21 = .ok (.ifCond .ne 208, 3) := by decide +kernel
theorem dL_refuses_24 : decode cL_refuses 24 = .ok (.aload_n 0, 1) := by decide +kernel
theorem dL_refuses_25 : decode cL_refuses 25 = .ok (.bipush 33, 2) := by decide +kernel
theorem dL_refuses_27 : decode cL_refuses 27 = .ok (.iconst 0, 1) := by decide +kernel
theorem dL_refuses_28 : decode cL_refuses 28 = .ok (.invokestatic 91, 3) := by decide +kernel
theorem dL_refuses_31 : decode cL_refuses 31 = .ok (.ldc2_w 17, 3) := by decide +kernel
theorem dL_refuses_34 : decode cL_refuses 34 = .ok (.lcmp, 1) := by decide +kernel
theorem dL_refuses_35 : decode cL_refuses 35 = .ok (.ifCond .ne 194, 3) := by decide +kernel
theorem dL_refuses_38 : decode cL_refuses 38 = .ok (.aload_n 0, 1) := by decide +kernel
theorem dL_refuses_39 : decode cL_refuses 39 = .ok (.iconst 1, 1) := by decide +kernel
theorem dL_refuses_40 : decode cL_refuses 40 = .ok (.bipush 7, 2) := by decide +kernel
theorem dL_refuses_42 : decode cL_refuses 42 = .ok (.invokestatic 91, 3) := by decide +kernel
theorem dL_refuses_45 : decode cL_refuses 45 = .ok (.ldc2_w 17, 3) := by decide +kernel
theorem dL_refuses_48 : decode cL_refuses 48 = .ok (.lcmp, 1) := by decide +kernel
theorem dL_refuses_49 : decode cL_refuses 49 = .ok (.ifCond .ne 180, 3) := by decide +kernel
theorem dL_refuses_52 : decode cL_refuses 52 = .ok (.aload_n 0, 1) := by decide +kernel
theorem dL_refuses_53 : decode cL_refuses 53 = .ok (.iconst 0, 1) := by decide +kernel
theorem dL_refuses_54 : decode cL_refuses 54 = .ok (.iconst 1, 1) := by decide +kernel
theorem dL_refuses_55 : decode cL_refuses 55 = .ok (.invokestatic 94, 3) := by decide +kernel
theorem dL_refuses_58 : decode cL_refuses 58 = .ok (.ldc2_w 17, 3) := by decide +kernel
theorem dL_refuses_61 : decode cL_refuses 61 = .ok (.lcmp, 1) := by decide +kernel
theorem dL_refuses_62 : decode cL_refuses 62 = .ok (.ifCond .ne 167, 3) := by decide +kernel
theorem dL_refuses_65 : decode cL_refuses 65 = .ok (.aload_n 0, 1) := by decide +kernel
theorem dL_refuses_66 : decode cL_refuses 66 = .ok (.bipush 13, 2) := by decide +kernel
theorem dL_refuses_68 : decode cL_refuses 68 = .ok (.iconst 1, 1) := by decide +kernel
theorem dL_refuses_69 : decode cL_refuses 69 = .ok (.invokestatic 94, 3) := by decide +kernel
theorem dL_refuses_72 : decode cL_refuses 72 = .ok (.ldc2_w 17, 3) := by decide +kernel
theorem dL_refuses_75 : decode cL_refuses 75 = .ok (.lcmp, 1) := by decide +kernel
theorem dL_refuses_76 : decode cL_refuses 76 = .ok (.ifCond .ne 153, 3) := by decide +kernel
theorem dL_refuses_79 : decode cL_refuses 79 = .ok (.aload_n 0, 1) := by decide +kernel
theorem dL_refuses_80 : decode cL_refuses 80 = .ok (.iconst 1, 1) := by decide +kernel
theorem dL_refuses_81 : decode cL_refuses 81 = .ok (.sipush 1001, 3) := by decide +kernel
theorem dL_refuses_84 : decode cL_refuses 84 = .ok (.invokestatic 94, 3) := by decide +kernel
theorem dL_refuses_87 : decode cL_refuses 87 = .ok (.ldc2_w 17, 3) := by decide +kernel
theorem dL_refuses_90 : decode cL_refuses 90 = .ok (.lcmp, 1) := by decide +kernel
theorem dL_refuses_91 : decode cL_refuses 91 = .ok (.ifCond .ne 138, 3) := by decide +kernel
theorem dL_refuses_94 : decode cL_refuses 94 = .ok (.aload_n 0, 1) := by decide +kernel
theorem dL_refuses_95 : decode cL_refuses 95 = .ok (.iconst (-1), 1) := by decide +kernel
theorem dL_refuses_96 : decode cL_refuses 96 = .ok (.iconst 1, 1) := by decide +kernel
theorem dL_refuses_97 : decode cL_refuses 97 = .ok (.invokestatic 97, 3) := by decide +kernel
theorem dL_refuses_100 : decode cL_refuses 100 = .ok (.ldc2_w 31, 3) := by decide +kernel
theorem dL_refuses_103 : decode cL_refuses 103 = .ok (.lcmp, 1) := by decide +kernel
theorem dL_refuses_104 : decode cL_refuses 104 = .ok (.ifCond .ne 125, 3) := by decide +kernel
theorem dL_refuses_107 : decode cL_refuses 107 = .ok (.aload_n 0, 1) := by decide +kernel
theorem dL_refuses_108 : decode cL_refuses 108 = .ok (.iload 4, 2) := by decide +kernel
theorem dL_refuses_110 : decode cL_refuses 110 = .ok (.iconst 1, 1) := by decide +kernel
theorem dL_refuses_111 : decode cL_refuses 111 = .ok (.invokestatic 97, 3) := by decide +kernel
theorem dL_refuses_114 : decode cL_refuses 114 = .ok (.ldc2_w 31, 3) := by decide +kernel
theorem dL_refuses_117 : decode cL_refuses 117 = .ok (.lcmp, 1) := by decide +kernel
theorem dL_refuses_118 : decode cL_refuses 118 = .ok (.ifCond .ne 111, 3) := by decide +kernel
theorem dL_refuses_121 : decode cL_refuses 121 = .ok (.aload_n 0, 1) := by decide +kernel
theorem dL_refuses_122 : decode cL_refuses 122 = .ok (.iload 4, 2) := by decide +kernel
theorem dL_refuses_124 : decode cL_refuses 124 = .ok (.invokestatic 84, 3) := by decide +kernel
theorem dL_refuses_127 : decode cL_refuses 127 = .ok (.ldc2_w 31, 3) := by decide +kernel
theorem dL_refuses_130 : decode cL_refuses 130 = .ok (.lcmp, 1) := by decide +kernel
theorem dL_refuses_131 : decode cL_refuses 131 = .ok (.ifCond .ne 98, 3) := by decide +kernel
theorem dL_refuses_134 : decode cL_refuses 134 = .ok (.aload_n 0, 1) := by decide +kernel
theorem dL_refuses_135 : decode cL_refuses 135 = .ok (.iload_n 1, 1) := by decide +kernel
theorem dL_refuses_136 : decode cL_refuses 136 = .ok (.aload_n 0, 1) := by decide +kernel
theorem dL_refuses_137 : decode cL_refuses 137 = .ok (.iload_n 1, 1) := by decide +kernel
theorem dL_refuses_138 : decode cL_refuses 138 = .ok (.invokevirtual 100, 3) := by decide +kernel
theorem dL_refuses_141 : decode cL_refuses 141 = .ok (.invokestatic 103, 3) := by decide +kernel
theorem dL_refuses_144 : decode cL_refuses 144 = .ok (.ldc2_w 31, 3) := by decide +kernel
theorem dL_refuses_147 : decode cL_refuses 147 = .ok (.lcmp, 1) := by decide +kernel
theorem dL_refuses_148 : decode cL_refuses 148 = .ok (.ifCond .ne 81, 3) := by decide +kernel
theorem dL_refuses_151 : decode cL_refuses 151 = .ok (.aload_n 0, 1) := by decide +kernel
theorem dL_refuses_152 : decode cL_refuses 152 = .ok (.iload_n 1, 1) := by decide +kernel
theorem dL_refuses_153 : decode cL_refuses 153 = .ok (.iconst 0, 1) := by decide +kernel
theorem dL_refuses_154 : decode cL_refuses 154 = .ok (.invokestatic 106, 3) := by decide +kernel
theorem dL_refuses_157 : decode cL_refuses 157 = .ok (.ldc2_w 17, 3) := by decide +kernel
theorem dL_refuses_160 : decode cL_refuses 160 = .ok (.lcmp, 1) := by decide +kernel
theorem dL_refuses_161 : decode cL_refuses 161 = .ok (.ifCond .ne 68, 3) := by decide +kernel
theorem dL_refuses_164 : decode cL_refuses 164 = .ok (.aload_n 0, 1) := by decide +kernel
theorem dL_refuses_165 : decode cL_refuses 165 = .ok (.aload_n 0, 1) := by decide +kernel
theorem dL_refuses_166 : decode cL_refuses 166 = .ok (.invokevirtual 68, 3) := by decide +kernel
theorem dL_refuses_169 : decode cL_refuses 169 = .ok (.invokestatic 109, 3) := by decide +kernel
theorem dL_refuses_172 : decode cL_refuses 172 = .ok (.ldc2_w 31, 3) := by decide +kernel
theorem dL_refuses_175 : decode cL_refuses 175 = .ok (.lcmp, 1) := by decide +kernel
theorem dL_refuses_176 : decode cL_refuses 176 = .ok (.ifCond .ne 53, 3) := by decide +kernel
theorem dL_refuses_179 : decode cL_refuses 179 = .ok (.aload_n 0, 1) := by decide +kernel
theorem dL_refuses_180 : decode cL_refuses 180 = .ok (.iload 4, 2) := by decide +kernel
theorem dL_refuses_182 : decode cL_refuses 182 = .ok (.invokestatic 74, 3) := by decide +kernel
theorem dL_refuses_185 : decode cL_refuses 185 = .ok (.ldc2_w 31, 3) := by decide +kernel
theorem dL_refuses_188 : decode cL_refuses 188 = .ok (.lcmp, 1) := by decide +kernel
theorem dL_refuses_189 : decode cL_refuses 189 = .ok (.ifCond .ne 40, 3) := by decide +kernel
theorem dL_refuses_192 : decode cL_refuses 192 = .ok (.aload_n 0, 1) := by decide +kernel
theorem dL_refuses_193 : decode cL_refuses 193 = .ok (.iconst (-1), 1) := by decide +kernel
theorem dL_refuses_194 : decode cL_refuses 194 = .ok (.invokestatic 79, 3) := by decide +kernel
theorem dL_refuses_197 : decode cL_refuses 197 = .ok (.ldc2_w 31, 3) := by decide +kernel
theorem dL_refuses_200 : decode cL_refuses 200 = .ok (.lcmp, 1) := by decide +kernel
theorem dL_refuses_201 : decode cL_refuses 201 = .ok (.ifCond .ne 28, 3) := by decide +kernel
theorem dL_refuses_204 : decode cL_refuses 204 = .ok (.aload_n 0, 1) := by decide +kernel
theorem dL_refuses_205 : decode cL_refuses 205 = .ok (.iload 4, 2) := by decide +kernel
theorem dL_refuses_207 : decode cL_refuses 207 = .ok (.invokestatic 82, 3) := by decide +kernel
theorem dL_refuses_210 : decode cL_refuses 210 = .ok (.ldc2_w 31, 3) := by decide +kernel
theorem dL_refuses_213 : decode cL_refuses 213 = .ok (.lcmp, 1) := by decide +kernel
theorem dL_refuses_214 : decode cL_refuses 214 = .ok (.ifCond .ne 15, 3) := by decide +kernel
theorem dL_refuses_217 : decode cL_refuses 217 = .ok (.aload_n 0, 1) := by decide +kernel
theorem dL_refuses_218 : decode cL_refuses 218 = .ok (.iload_n 1, 1) := by decide +kernel
theorem dL_refuses_219 : decode cL_refuses 219 = .ok (.invokevirtual 111, 3) := by decide +kernel
theorem dL_refuses_222 : decode cL_refuses 222 = .ok (.ifCond .lt 7, 3) := by decide +kernel
theorem dL_refuses_225 : decode cL_refuses 225 = .ok (.iconst 1, 1) := by decide +kernel
theorem dL_refuses_226 : decode cL_refuses 226 = .ok (.goto 4, 3) := by decide +kernel
theorem dL_refuses_229 : decode cL_refuses 229 = .ok (.iconst 0, 1) := by decide +kernel
theorem dL_refuses_230 : decode cL_refuses 230 = .ok (.istore 5, 2) := by decide +kernel
theorem dL_refuses_232 : decode cL_refuses 232 = .ok (.iload 5, 2) := by decide +kernel
theorem dL_refuses_234 : decode cL_refuses 234 = .ok (.ifCond .eq 16, 3) := by decide +kernel
theorem dL_refuses_237 : decode cL_refuses 237 = .ok (.aload_n 0, 1) := by decide +kernel
theorem dL_refuses_238 : decode cL_refuses 238 = .ok (.invokestatic 87, 3) := by decide +kernel
theorem dL_refuses_241 : decode cL_refuses 241 = .ok (.lload_n 2, 1) := by decide +kernel
theorem dL_refuses_242 : decode cL_refuses 242 = .ok (.lcmp, 1) := by decide +kernel
theorem dL_refuses_243 : decode cL_refuses 243 = .ok (.ifCond .ne 7, 3) := by decide +kernel
theorem dL_refuses_246 : decode cL_refuses 246 = .ok (.iconst 1, 1) := by decide +kernel
theorem dL_refuses_247 : decode cL_refuses 247 = .ok (.goto 4, 3) := by decide +kernel
theorem dL_refuses_250 : decode cL_refuses 250 = .ok (.iconst 0, 1) := by decide +kernel
theorem dL_refuses_251 : decode cL_refuses 251 = .ok (.ireturn, 1) := by decide +kernel
set_option maxRecDepth 20000 in
theorem ggL_holds_X5_missing : GoodIn wsL_holds wsX5_missing := goodIn_r _ [6, 7, 8, 9, 10, 11, 12, 13, 14, 15, 16, 17, 18, 19, 20, 21, 147, 148, 149, 150, 151, 152, 153, 154, 155, 156, 157] (by decide +kernel) (by decide +kernel)
set_option maxRecDepth 20000 in
theorem gL_holds_X5_missing : GoodIn wsL_holds (wsV RL 114 RX5 yX5_missing wsX5_missing) := goodIn_app (goodIn_of _ (by decide +kernel)) ggL_holds_X5_missing
set_option maxRecDepth 20000 in
theorem ggL_holds_X5_blocks : GoodIn wsL_holds wsX5_blocks := goodIn_r _ [25, 7, 9, 10, 11, 12, 13, 14, 15, 147, 148, 149, 150, 151, 152, 153, 154] (by decide +kernel) (by decide +kernel)
set_option maxRecDepth 20000 in
theorem gL_holds_X5_blocks : GoodIn wsL_holds (wsV RL 71 RX5 yX5_blocks wsX5_blocks) := goodIn_app (goodIn_of _ (by decide +kernel)) ggL_holds_X5_blocks
set_option maxRecDepth 20000 in
theorem ggL_holds_X5_rank : GoodIn wsL_holds wsX5_rank := goodIn_r _ [29, 8, 16, 17, 18, 19, 20, 21, 147, 148, 149, 150, 151, 155, 156, 157] (by decide +kernel) (by decide +kernel)
set_option maxRecDepth 20000 in
theorem gL_holds_X5_rank : GoodIn wsL_holds (wsV RL 65 RX5 yX5_rank wsX5_rank) := goodIn_app (goodIn_of _ (by decide +kernel)) ggL_holds_X5_rank
set_option maxRecDepth 20000 in
theorem ggL_holds_X5_equations : GoodIn wsL_holds wsX5_equations := goodIn_r _ [33, 34, 35, 36, 37, 38, 39, 40, 147, 148, 149, 150, 151, 158, 159, 160, 161, 162, 163] (by decide +kernel) (by decide +kernel)
set_option maxRecDepth 20000 in
theorem gL_holds_X5_equations : GoodIn wsL_holds (wsV RL 61 RX5 yX5_equations wsX5_equations) := goodIn_app (goodIn_of _ (by decide +kernel)) ggL_holds_X5_equations
set_option maxRecDepth 20000 in
theorem ggL_holds_X5_peeled : GoodIn wsL_holds wsX5_peeled := goodIn_r _ [44, 34, 45, 46, 47, 38, 48, 49, 147, 148, 149, 150, 151, 158, 159, 160, 161, 162, 163] (by decide +kernel) (by decide +kernel)
set_option maxRecDepth 20000 in
theorem gL_holds_X5_peeled : GoodIn wsL_holds (wsV RL 68 RX5 yX5_peeled wsX5_peeled) := goodIn_app (goodIn_of _ (by decide +kernel)) ggL_holds_X5_peeled
set_option maxRecDepth 20000 in
theorem ggL_holds_X5_determined : GoodIn wsL_holds wsX5_determined := goodIn_r _ [53, 8, 7, 9, 10, 11, 12, 13, 14, 15, 54, 55, 56, 19, 57, 58, 59, 60, 61, 62, 63, 5, 64, 147, 148, 149, 150, 151, 152, 153, 154, 155, 156, 157] (by decide +kernel) (by decide +kernel)
set_option maxRecDepth 20000 in
theorem gL_holds_X5_determined : GoodIn wsL_holds (wsV RL 117 RX5 yX5_determined wsX5_determined) := goodIn_app (goodIn_of _ (by decide +kernel)) ggL_holds_X5_determined
set_option maxRecDepth 20000 in
theorem ggL_holds_L_peeledAt : GoodIn wsL_holds wsL_peeledAt := goodIn_ca (goodIn_r _ [68, 69, 70, 71, 72, 73, 5, 74, 75, 76, 34, 45, 46, 47, 38, 48, 49, 77, 78, 79, 80, 81, 147, 148, 149, 150, 151, 158, 159, 160, 161, 162, 163] (by decide +kernel) (by decide +kernel)) (goodIn_sub (fun _ h => List.mem_cons_of_mem _ (List.mem_append_left _ (List.mem_append_right _ h))) (by decide +kernel))
set_option maxRecDepth 20000 in
theorem gL_holds_L_peeledAt : GoodIn wsL_holds (va_wsS RL 109 yL_peeledAt wsL_peeledAt) := goodIn_app (goodIn_of _ (by decide +kernel)) ggL_holds_L_peeledAt
set_option maxRecDepth 20000 in
theorem ggL_holds_L_known : GoodIn wsL_holds wsL_known := goodIn_ca (goodIn_r _ [84, 69, 70, 85, 86, 87, 5, 88, 75, 76, 8, 89, 90, 91, 92, 7, 9, 10, 11, 12, 13, 14, 15, 93, 94, 95, 19, 96, 58, 59, 60, 61, 62, 63, 64, 147, 148, 149, 150, 151, 152, 153, 154, 155, 156, 157] (by decide +kernel) (by decide +kernel)) (goodIn_sub (fun _ h => List.mem_cons_of_mem _ (List.mem_append_left _ (List.mem_append_right _ h))) (by decide +kernel))
set_option maxRecDepth 20000 in
theorem gL_holds_L_known : GoodIn wsL_holds (va_wsS RL 79 yL_known wsL_known) := goodIn_app (goodIn_of _ (by decide +kernel)) ggL_holds_L_known
set_option maxRecDepth 20000 in
theorem ggL_holds_L_peeledBy : GoodIn wsL_holds wsL_peeledBy := goodIn_ca (goodIn_r _ [99, 69, 70, 100, 101, 102, 5, 103, 75, 76, 34, 89, 90, 91, 92, 7, 9, 10, 11, 12, 13, 14, 15, 104, 105, 106, 38, 107, 108, 147, 148, 149, 150, 151, 152, 153, 154, 158, 159, 160, 161, 162, 163] (by decide +kernel) (by decide +kernel)) (goodIn_sub (fun _ h => List.mem_cons_of_mem _ (List.mem_append_left _ (List.mem_append_right _ h))) (by decide +kernel))
set_option maxRecDepth 20000 in
theorem gL_holds_L_peeledBy : GoodIn wsL_holds (va_wsS RL 74 yL_peeledBy wsL_peeledBy) := goodIn_app (goodIn_of _ (by decide +kernel)) ggL_holds_L_peeledBy
set_option maxRecDepth 20000 in
theorem ggL_holds_L_recovered : GoodIn wsL_holds wsL_recovered := goodIn_ca (goodIn_ca (goodIn_r _ [111, 69, 112, 70, 1, 113, 114, 115, 5, 116, 75, 76, 117, 118, 8, 89, 90, 91, 92, 7, 9, 10, 11, 12, 13, 14, 15, 93, 94, 95, 19, 96, 58, 59, 60, 61, 62, 63, 64, 119, 120, 121, 122, 123, 124, 125, 126, 147, 148, 149, 150, 151, 152, 153, 154, 155, 156, 157] (by decide +kernel) (by decide +kernel)) (goodIn_sub (fun _ h => List.mem_cons_of_mem _ (List.mem_append_left _ (List.mem_append_right _ h))) (by decide +kernel))) (goodIn_sub (fun _ h => List.mem_cons_of_mem _ (List.mem_append_right _ h)) (by decide +kernel))
set_option maxRecDepth 20000 in
theorem gL_holds_L_recovered : GoodIn wsL_holds (va_wsS RL 82 yL_recovered wsL_recovered) := goodIn_app (goodIn_of _ (by decide +kernel)) ggL_holds_L_recovered
set_option maxRecDepth 20000 in
theorem ggL_holds_L_at : GoodIn wsL_holds wsL_at := goodIn_ca (goodIn_r _ [129, 69, 70, 130, 131, 132, 5, 133, 75, 76, 7, 89, 90, 91, 92, 9, 10, 11, 12, 13, 14, 15, 134, 135, 136, 137, 138, 139, 140, 141, 63, 64, 142, 143, 144, 145, 146, 125, 126, 119, 147, 148, 149, 150, 151, 152, 153, 154] (by decide +kernel) (by decide +kernel)) (goodIn_sub (fun _ h => List.mem_cons_of_mem _ (List.mem_append_left _ (List.mem_append_right _ h))) (by decide +kernel))
set_option maxRecDepth 20000 in
theorem gL_holds_L_at : GoodIn wsL_holds (va_wsS RL 84 yL_at wsL_at) := goodIn_app (goodIn_of _ (by decide +kernel)) ggL_holds_L_at
theorem dL_holds_0 : decode cL_holds 0 = .ok (.iconst 0, 1) := by decide +kernel
theorem dL_holds_1 : decode cL_holds 1 = .ok (.istore_n 2, 1) := by decide +kernel
theorem dL_holds_2 : decode cL_holds 2 = .ok (.aload_n 0, 1) := by decide +kernel
theorem dL_holds_3 : decode cL_holds 3 = .ok (.invokevirtual 114, 3) := by decide +kernel
theorem dL_holds_6 : decode cL_holds 6 = .ok (.aload_n 0, 1) := by decide +kernel
theorem dL_holds_7 : decode cL_holds 7 = .ok (.invokevirtual 71, 3) := by decide +kernel
theorem dL_holds_10 : decode cL_holds 10 = .ok (.aload_n 0, 1) := by decide +kernel
theorem dL_holds_11 : decode cL_holds 11 = .ok (.invokevirtual 65, 3) := by decide +kernel
theorem dL_holds_14 : decode cL_holds 14 = .ok (.isub, 1) := by decide +kernel
theorem dL_holds_15 : decode cL_holds 15 = .ok (.if_icmp .ne 40, 3) := by decide +kernel
theorem dL_holds_18 : decode cL_holds 18 = .ok (.aload_n 0, 1) := by decide +kernel
theorem dL_holds_19 : decode cL_holds 19 = .ok (.invokevirtual 65, 3) := by decide +kernel
theorem dL_holds_22 : decode cL_holds 22 = .ok (.aload_n 0, 1) := by decide +kernel
theorem dL_holds_23 : decode cL_holds 23 = .ok (.invokevirtual 61, 3) := by decide +kernel
theorem dL_holds_26 : decode cL_holds 26 = .ok (.if_icmp .gt 29, 3) := by decide +kernel
theorem dL_holds_29 : decode cL_holds 29 = .ok (.aload_n 0, 1) := by decide +kernel
theorem dL_holds_30 : decode cL_holds 30 = .ok (.invokevirtual 68, 3) := by decide +kernel
theorem dL_holds_33 : decode cL_holds 33 = .ok (.aload_n 0, 1) := by decide +kernel
theorem dL_holds_34 : decode cL_holds 34 = .ok (.invokevirtual 117, 3) := by decide +kernel
theorem dL_holds_37 : decode cL_holds 37 = .ok (.if_icmp .gt 18, 3) := by decide +kernel
theorem dL_holds_40 : decode cL_holds 40 = .ok (.aload_n 0, 1) := by decide +kernel
theorem dL_holds_41 : decode cL_holds 41 = .ok (.invokevirtual 117, 3) := by decide +kernel
theorem dL_holds_44 : decode cL_holds 44 = .ok (.aload_n 0, 1) := by decide +kernel
theorem dL_holds_45 : decode cL_holds 45 = .ok (.invokevirtual 65, 3) := by decide +kernel
theorem dL_holds_48 : decode cL_holds 48 = .ok (.if_icmp .gt 7, 3) := by decide +kernel
theorem dL_holds_51 : decode cL_holds 51 = .ok (.iconst 1, 1) := by decide +kernel
theorem dL_holds_52 : decode cL_holds 52 = .ok (.goto 4, 3) := by decide +kernel
theorem dL_holds_55 : decode cL_holds 55 = .ok (.iconst 0, 1) := by decide +kernel
theorem dL_holds_56 : decode cL_holds 56 = .ok (.istore_n 3, 1) := by decide +kernel
theorem dL_holds_57 : decode cL_holds 57 = .ok (.lconst 0, 1) := by decide +kernel
theorem dL_holds_58 : decode cL_holds 58 = .ok (.lstore 4, 2) := by decide +kernel
theorem dL_holds_60 : decode cL_holds 60 = .ok (.iconst 0, 1) := by decide +kernel
theorem dL_holds_61 : decode cL_holds 61 = .ok (.istore 6, 2) := by decide +kernel
theorem dL_holds_63 : decode cL_holds 63 = .ok (.iload 6, 2) := by decide +kernel
theorem dL_holds_65 : decode cL_holds 65 = .ok (.aload_n 0, 1) := by decide +kernel
theorem dL_holds_66 : decode cL_holds 66 = .ok (.invokevirtual 68, 3) := by decide +kernel
theorem dL_holds_69 : decode cL_holds 69 = .ok (.if_icmp .ge 74, 3) := by decide +kernel
theorem dL_holds_72 : decode cL_holds 72 = .ok (.iload_n 3, 1) := by decide +kernel
theorem dL_holds_73 : decode cL_holds 73 = .ok (.ifCond .eq 70, 3) := by decide +kernel
theorem dL_holds_76 : decode cL_holds 76 = .ok (.aload_n 0, 1) := by decide +kernel
theorem dL_holds_77 : decode cL_holds 77 = .ok (.iload 6, 2) := by decide +kernel
theorem dL_holds_79 : decode cL_holds 79 = .ok (.invokestatic 109, 3) := by decide +kernel
theorem dL_holds_82 : decode cL_holds 82 = .ok (.lstore 7, 2) := by decide +kernel
theorem dL_holds_84 : decode cL_holds 84 = .ok (.aload_n 0, 1) := by decide +kernel
theorem dL_holds_85 : decode cL_holds 85 = .ok (.lload 7, 2) := by decide +kernel
theorem dL_holds_87 : decode cL_holds 87 = .ok (.l2i, 1) := by decide +kernel
theorem dL_holds_88 : decode cL_holds 88 = .ok (.invokestatic 79, 3) := by decide +kernel
theorem dL_holds_91 : decode cL_holds 91 = .ok (.lconst 1, 1) := by decide +kernel
theorem dL_holds_92 : decode cL_holds 92 = .ok (.lcmp, 1) := by decide +kernel
theorem dL_holds_93 : decode cL_holds 93 = .ok (.ifCond .ne 32, 3) := by decide +kernel
theorem dL_holds_96 : decode cL_holds 96 = .ok (.aload_n 0, 1) := by decide +kernel
theorem dL_holds_97 : decode cL_holds 97 = .ok (.lload 7, 2) := by decide +kernel
theorem dL_holds_99 : decode cL_holds 99 = .ok (.l2i, 1) := by decide +kernel
theorem dL_holds_100 : decode cL_holds 100 = .ok (.invokestatic 74, 3) := by decide +kernel
theorem dL_holds_103 : decode cL_holds 103 = .ok (.lconst 0, 1) := by decide +kernel
theorem dL_holds_104 : decode cL_holds 104 = .ok (.lcmp, 1) := by decide +kernel
theorem dL_holds_105 : decode cL_holds 105 = .ok (.ifCond .lt 20, 3) := by decide +kernel
theorem dL_holds_108 : decode cL_holds 108 = .ok (.lload 4, 2) := by decide +kernel
theorem dL_holds_110 : decode cL_holds 110 = .ok (.lload 7, 2) := by decide +kernel
theorem dL_holds_112 : decode cL_holds 112 = .ok (.l2i, 1) := by decide +kernel
theorem dL_holds_113 : decode cL_holds 113 = .ok (.lshr, 1) := by decide +kernel
theorem dL_holds_114 : decode cL_holds 114 = .ok (.lconst 1, 1) := by decide +kernel
theorem dL_holds_115 : decode cL_holds 115 = .ok (.land, 1) := by decide +kernel
theorem dL_holds_116 : decode cL_holds 116 = .ok (.lconst 0, 1) := by decide +kernel
theorem dL_holds_117 : decode cL_holds 117 = .ok (.lcmp, 1) := by decide +kernel
theorem dL_holds_118 : decode cL_holds 118 = .ok (.ifCond .ne 7, 3) := by decide +kernel
theorem dL_holds_121 : decode cL_holds 121 = .ok (.iconst 1, 1) := by decide +kernel
theorem dL_holds_122 : decode cL_holds 122 = .ok (.goto 4, 3) := by decide +kernel
theorem dL_holds_125 : decode cL_holds 125 = .ok (.iconst 0, 1) := by decide +kernel
theorem dL_holds_126 : decode cL_holds 126 = .ok (.istore_n 3, 1) := by decide +kernel
theorem dL_holds_127 : decode cL_holds 127 = .ok (.lload 4, 2) := by decide +kernel
theorem dL_holds_129 : decode cL_holds 129 = .ok (.lconst 1, 1) := by decide +kernel
theorem dL_holds_130 : decode cL_holds 130 = .ok (.lload 7, 2) := by decide +kernel
theorem dL_holds_132 : decode cL_holds 132 = .ok (.l2i, 1) := by decide +kernel
theorem dL_holds_133 : decode cL_holds 133 = .ok (.lshl, 1) := by decide +kernel
theorem dL_holds_134 : decode cL_holds 134 = .ok (.lor, 1) := by decide +kernel
theorem dL_holds_135 : decode cL_holds 135 = .ok (.lstore 4, 2) := by decide +kernel
theorem dL_holds_137 : decode cL_holds 137 = .ok (.iinc 6 1, 3) := by decide +kernel
theorem dL_holds_140 : decode cL_holds 140 = .ok (.goto (-77), 3) := by decide +kernel
theorem dL_holds_143 : decode cL_holds 143 = .ok (.iconst 0, 1) := by decide +kernel
theorem dL_holds_144 : decode cL_holds 144 = .ok (.istore 6, 2) := by decide +kernel
theorem dL_holds_146 : decode cL_holds 146 = .ok (.iload 6, 2) := by decide +kernel
theorem dL_holds_148 : decode cL_holds 148 = .ok (.aload_n 0, 1) := by decide +kernel
theorem dL_holds_149 : decode cL_holds 149 = .ok (.invokevirtual 71, 3) := by decide +kernel
theorem dL_holds_152 : decode cL_holds 152 = .ok (.if_icmp .ge 148, 3) := by decide +kernel
theorem dL_holds_155 : decode cL_holds 155 = .ok (.iload_n 3, 1) := by decide +kernel
theorem dL_holds_156 : decode cL_holds 156 = .ok (.ifCond .eq 144, 3) := by decide +kernel
theorem dL_holds_159 : decode cL_holds 159 = .ok (.iload_n 2, 1) := by decide +kernel
theorem dL_holds_160 : decode cL_holds 160 = .ok (.aload_n 0, 1) := by decide +kernel
theorem dL_holds_161 : decode cL_holds 161 = .ok (.iload 6, 2) := by decide +kernel
theorem dL_holds_163 : decode cL_holds 163 = .ok (.invokestatic 79, 3) := by decide +kernel
theorem dL_holds_166 : decode cL_holds 166 = .ok (.l2i, 1) := by decide +kernel
theorem dL_holds_167 : decode cL_holds 167 = .ok (.iadd, 1) := by decide +kernel
theorem dL_holds_168 : decode cL_holds 168 = .ok (.istore_n 2, 1) := by decide +kernel
theorem dL_holds_169 : decode cL_holds 169 = .ok (.aload_n 0, 1) := by decide +kernel
theorem dL_holds_170 : decode cL_holds 170 = .ok (.iload 6, 2) := by decide +kernel
theorem dL_holds_172 : decode cL_holds 172 = .ok (.invokestatic 79, 3) := by decide +kernel
theorem dL_holds_175 : decode cL_holds 175 = .ok (.lconst 1, 1) := by decide +kernel
theorem dL_holds_176 : decode cL_holds 176 = .ok (.lcmp, 1) := by decide +kernel
theorem dL_holds_177 : decode cL_holds 177 = .ok (.ifCond .ne 7, 3) := by decide +kernel
theorem dL_holds_180 : decode cL_holds 180 = .ok (.iconst 1, 1) := by decide +kernel
theorem dL_holds_181 : decode cL_holds 181 = .ok (.goto 4, 3) := by decide +kernel
theorem dL_holds_184 : decode cL_holds 184 = .ok (.iconst 0, 1) := by decide +kernel
theorem dL_holds_185 : decode cL_holds 185 = .ok (.aload_n 0, 1) := by decide +kernel
theorem dL_holds_186 : decode cL_holds 186 = .ok (.iload 6, 2) := by decide +kernel
theorem dL_holds_188 : decode cL_holds 188 = .ok (.invokestatic 82, 3) := by decide +kernel
theorem dL_holds_191 : decode cL_holds 191 = .ok (.ldc2_w 24, 3) := by decide +kernel
theorem dL_holds_194 : decode cL_holds 194 = .ok (.lcmp, 1) := by decide +kernel
theorem dL_holds_195 : decode cL_holds 195 = .ok (.ifCond .eq 7, 3) := by decide +kernel
theorem dL_holds_198 : decode cL_holds 198 = .ok (.iconst 1, 1) := by decide +kernel
theorem dL_holds_199 : decode cL_holds 199 = .ok (.goto 4, 3) := by decide +kernel
theorem dL_holds_202 : decode cL_holds 202 = .ok (.iconst 0, 1) := by decide +kernel
theorem dL_holds_203 : decode cL_holds 203 = .ok (.if_icmp .ne 89, 3) := by decide +kernel
theorem dL_holds_206 : decode cL_holds 206 = .ok (.iload_n 1, 1) := by decide +kernel
theorem dL_holds_207 : decode cL_holds 207 = .ok (.ifCond .eq 30, 3) := by decide +kernel
theorem dL_holds_210 : decode cL_holds 210 = .ok (.aload_n 0, 1) := by decide +kernel
theorem dL_holds_211 : decode cL_holds 211 = .ok (.iload 6, 2) := by decide +kernel
theorem dL_holds_213 : decode cL_holds 213 = .ok (.invokestatic 79, 3) := by decide +kernel
theorem dL_holds_216 : decode cL_holds 216 = .ok (.lconst 0, 1) := by decide +kernel
theorem dL_holds_217 : decode cL_holds 217 = .ok (.lcmp, 1) := by decide +kernel
theorem dL_holds_218 : decode cL_holds 218 = .ok (.ifCond .eq 19, 3) := by decide +kernel
theorem dL_holds_221 : decode cL_holds 221 = .ok (.aload_n 0, 1) := by decide +kernel
theorem dL_holds_222 : decode cL_holds 222 = .ok (.iload 6, 2) := by decide +kernel
theorem dL_holds_224 : decode cL_holds 224 = .ok (.invokestatic 82, 3) := by decide +kernel
theorem dL_holds_227 : decode cL_holds 227 = .ok (.aload_n 0, 1) := by decide +kernel
theorem dL_holds_228 : decode cL_holds 228 = .ok (.iload 6, 2) := by decide +kernel
theorem dL_holds_230 : decode cL_holds 230 = .ok (.invokestatic 84, 3) := by decide +kernel
theorem dL_holds_233 : decode cL_holds 233 = .ok (.lcmp, 1) := by decide +kernel
theorem dL_holds_234 : decode cL_holds 234 = .ok (.ifCond .ne 58, 3) := by decide +kernel
theorem dL_holds_237 : decode cL_holds 237 = .ok (.aload_n 0, 1) := by decide +kernel
theorem dL_holds_238 : decode cL_holds 238 = .ok (.iload 6, 2) := by decide +kernel
theorem dL_holds_240 : decode cL_holds 240 = .ok (.invokestatic 74, 3) := by decide +kernel
theorem dL_holds_243 : decode cL_holds 243 = .ok (.lconst 0, 1) := by decide +kernel
theorem dL_holds_244 : decode cL_holds 244 = .ok (.lcmp, 1) := by decide +kernel
theorem dL_holds_245 : decode cL_holds 245 = .ok (.ifCond .lt 7, 3) := by decide +kernel
theorem dL_holds_248 : decode cL_holds 248 = .ok (.iconst 1, 1) := by decide +kernel
theorem dL_holds_249 : decode cL_holds 249 = .ok (.goto 4, 3) := by decide +kernel
theorem dL_holds_252 : decode cL_holds 252 = .ok (.iconst 0, 1) := by decide +kernel
theorem dL_holds_253 : decode cL_holds 253 = .ok (.lload 4, 2) := by decide +kernel
theorem dL_holds_255 : decode cL_holds 255 = .ok (.iload 6, 2) := by decide +kernel
theorem dL_holds_257 : decode cL_holds 257 = .ok (.lshr, 1) := by decide +kernel
theorem dL_holds_258 : decode cL_holds 258 = .ok (.lconst 1, 1) := by decide +kernel
theorem dL_holds_259 : decode cL_holds 259 = .ok (.land, 1) := by decide +kernel
theorem dL_holds_260 : decode cL_holds 260 = .ok (.lconst 1, 1) := by decide +kernel
theorem dL_holds_261 : decode cL_holds 261 = .ok (.lcmp, 1) := by decide +kernel
theorem dL_holds_262 : decode cL_holds 262 = .ok (.ifCond .ne 7, 3) := by decide +kernel
theorem dL_holds_265 : decode cL_holds 265 = .ok (.iconst 1, 1) := by decide +kernel
theorem dL_holds_266 : decode cL_holds 266 = .ok (.goto 4, 3) := by decide +kernel
theorem dL_holds_269 : decode cL_holds 269 = .ok (.iconst 0, 1) := by decide +kernel
theorem dL_holds_270 : decode cL_holds 270 = .ok (.if_icmp .ne 22, 3) := by decide +kernel
theorem dL_holds_273 : decode cL_holds 273 = .ok (.aload_n 0, 1) := by decide +kernel
theorem dL_holds_274 : decode cL_holds 274 = .ok (.iload 6, 2) := by decide +kernel
theorem dL_holds_276 : decode cL_holds 276 = .ok (.invokestatic 74, 3) := by decide +kernel
theorem dL_holds_279 : decode cL_holds 279 = .ok (.aload_n 0, 1) := by decide +kernel
theorem dL_holds_280 : decode cL_holds 280 = .ok (.invokevirtual 61, 3) := by decide +kernel
theorem dL_holds_283 : decode cL_holds 283 = .ok (.i2l, 1) := by decide +kernel
theorem dL_holds_284 : decode cL_holds 284 = .ok (.lcmp, 1) := by decide +kernel
theorem dL_holds_285 : decode cL_holds 285 = .ok (.ifCond .ge 7, 3) := by decide +kernel
theorem dL_holds_288 : decode cL_holds 288 = .ok (.iconst 1, 1) := by decide +kernel
theorem dL_holds_289 : decode cL_holds 289 = .ok (.goto 4, 3) := by decide +kernel
theorem dL_holds_292 : decode cL_holds 292 = .ok (.iconst 0, 1) := by decide +kernel
theorem dL_holds_293 : decode cL_holds 293 = .ok (.istore_n 3, 1) := by decide +kernel
theorem dL_holds_294 : decode cL_holds 294 = .ok (.iinc 6 1, 3) := by decide +kernel
theorem dL_holds_297 : decode cL_holds 297 = .ok (.goto (-151), 3) := by decide +kernel
theorem dL_holds_300 : decode cL_holds 300 = .ok (.iload_n 3, 1) := by decide +kernel
theorem dL_holds_301 : decode cL_holds 301 = .ok (.ifCond .eq 15, 3) := by decide +kernel
theorem dL_holds_304 : decode cL_holds 304 = .ok (.iload_n 2, 1) := by decide +kernel
theorem dL_holds_305 : decode cL_holds 305 = .ok (.aload_n 0, 1) := by decide +kernel
theorem dL_holds_306 : decode cL_holds 306 = .ok (.invokevirtual 117, 3) := by decide +kernel
theorem dL_holds_309 : decode cL_holds 309 = .ok (.if_icmp .ne 7, 3) := by decide +kernel
theorem dL_holds_312 : decode cL_holds 312 = .ok (.iconst 1, 1) := by decide +kernel
theorem dL_holds_313 : decode cL_holds 313 = .ok (.goto 4, 3) := by decide +kernel
theorem dL_holds_316 : decode cL_holds 316 = .ok (.iconst 0, 1) := by decide +kernel
theorem dL_holds_317 : decode cL_holds 317 = .ok (.ireturn, 1) := by decide +kernel
set_option maxRecDepth 20000 in
theorem ggL_drops_X5_degree : GoodIn wsL_drops wsX5_degree := goodIn_r _ [5, 6, 7, 8, 4, 9, 10, 11, 12, 13, 14, 15, 16, 17, 18, 19, 20, 21, 22, 23, 24, 25, 26, 27, 28, 29, 30, 31, 32, 33, 34, 35, 36, 37, 38, 39, 40, 41, 42, 43, 44, 45, 46, 47, 48, 49, 50, 51, 52, 53, 54, 55, 56, 57, 58, 59, 60, 61, 62, 124, 125, 126, 127, 128, 129, 130, 131, 132, 133, 134, 135, 136] (by decide +kernel) (by decide +kernel)
set_option maxRecDepth 20000 in
theorem gL_drops_X5_degree : GoodIn wsL_drops (wsV RL 100 RX5 yX5_degree wsX5_degree) := goodIn_app (goodIn_of _ (by decide +kernel)) ggL_drops_X5_degree
set_option maxRecDepth 20000 in
theorem ggL_drops_X5_blocks : GoodIn wsL_drops wsX5_blocks := goodIn_r _ [66, 12, 13, 14, 15, 16, 17, 18, 19, 124, 125, 126, 127, 128, 129, 130, 131] (by decide +kernel) (by decide +kernel)
set_option maxRecDepth 20000 in
theorem gL_drops_X5_blocks : GoodIn wsL_drops (wsV RL 71 RX5 yX5_blocks wsX5_blocks) := goodIn_app (goodIn_of _ (by decide +kernel)) ggL_drops_X5_blocks
set_option maxRecDepth 20000 in
theorem ggL_drops_L_of : GoodIn wsL_drops wsL_of := goodIn_ca (goodIn_r _ [70, 71, 72, 73, 74, 75, 4, 76, 77, 78, 6, 7, 8, 9, 10, 11, 12, 13, 14, 15, 16, 17, 18, 19, 20, 21, 22, 23, 24, 25, 26, 27, 28, 29, 30, 31, 32, 33, 34, 35, 36, 37, 38, 39, 40, 41, 42, 43, 44, 45, 46, 47, 48, 49, 50, 51, 52, 53, 54, 55, 56, 57, 58, 59, 60, 61, 62, 79, 80, 81, 82, 124, 125, 126, 127, 128, 129, 130, 131, 132, 133, 134, 135, 136] (by decide +kernel) (by decide +kernel)) (goodIn_sub (fun _ h => List.mem_cons_of_mem _ (List.mem_append_right _ h)) (by decide +kernel))
set_option maxRecDepth 20000 in
theorem gL_drops_L_of : GoodIn wsL_drops (va_wsS RL 103 yL_of wsL_of) := goodIn_app (goodIn_of _ (by decide +kernel)) ggL_drops_L_of
set_option maxRecDepth 20000 in
theorem ggL_drops_L_at : GoodIn wsL_drops wsL_at := goodIn_ca (goodIn_r _ [85, 71, 72, 86, 87, 88, 4, 89, 77, 78, 12, 90, 91, 92, 93, 13, 14, 15, 16, 17, 18, 19, 94, 95, 96, 97, 98, 99, 100, 101, 57, 58, 102, 103, 104, 105, 106, 107, 108, 109, 124, 125, 126, 127, 128, 129, 130, 131] (by decide +kernel) (by decide +kernel)) (goodIn_sub (fun _ h => List.mem_cons_of_mem _ (List.mem_append_right _ h)) (by decide +kernel))
set_option maxRecDepth 20000 in
theorem gL_drops_L_at : GoodIn wsL_drops (va_wsS RL 84 yL_at wsL_at) := goodIn_app (goodIn_of _ (by decide +kernel)) ggL_drops_L_at
set_option maxRecDepth 20000 in
theorem ggL_drops_X5_valueOf : GoodIn wsL_drops wsX5_valueOf := goodIn_r _ [113, 12, 6, 7, 8, 4, 9, 10, 11, 13, 14, 15, 16, 17, 18, 19, 20, 21, 22, 23, 24, 25, 26, 27, 28, 29, 30, 31, 32, 33, 34, 35, 36, 37, 38, 39, 40, 41, 42, 43, 44, 45, 46, 47, 48, 49, 50, 51, 52, 53, 54, 55, 56, 57, 58, 114, 115, 116, 117, 118, 119, 120, 121, 102, 103, 104, 105, 106, 107, 108, 109, 122, 123, 95, 96, 97, 98, 99, 100, 101, 124, 125, 126, 127, 128, 129, 130, 131, 132, 133, 134, 135, 136] (by decide +kernel) (by decide +kernel)
set_option maxRecDepth 20000 in
theorem gL_drops_X5_valueOf : GoodIn wsL_drops (wsV RL 120 RX5 yX5_valueOf wsX5_valueOf) := goodIn_app (goodIn_of _ (by decide +kernel)) ggL_drops_X5_valueOf
theorem dL_drops_0 : decode cL_drops 0 = .ok (.lconst 0, 1) := by decide +kernel
theorem dL_drops_1 : decode cL_drops 1 = .ok (.lstore_n 2, 1) := by decide +kernel
theorem dL_drops_2 : decode cL_drops 2 = .ok (.iconst 0, 1) := by decide +kernel
theorem dL_drops_3 : decode cL_drops 3 = .ok (.istore 4, 2) := by decide +kernel
theorem dL_drops_5 : decode cL_drops 5 = .ok (.aload_n 0, 1) := by decide +kernel
theorem dL_drops_6 : decode cL_drops 6 = .ok (.iload_n 1, 1) := by decide +kernel
theorem dL_drops_7 : decode cL_drops 7 = .ok (.invokevirtual 100, 3) := by decide +kernel
theorem dL_drops_10 : decode cL_drops 10 = .ok (.iconst 1, 1) := by decide +kernel
theorem dL_drops_11 : decode cL_drops 11 = .ok (.if_icmp .lt 29, 3) := by decide +kernel
theorem dL_drops_14 : decode cL_drops 14 = .ok (.aload_n 0, 1) := by decide +kernel
theorem dL_drops_15 : decode cL_drops 15 = .ok (.iload_n 1, 1) := by decide +kernel
theorem dL_drops_16 : decode cL_drops 16 = .ok (.invokevirtual 100, 3) := by decide +kernel
theorem dL_drops_19 : decode cL_drops 19 = .ok (.bipush 12, 2) := by decide +kernel
theorem dL_drops_21 : decode cL_drops 21 = .ok (.if_icmp .gt 19, 3) := by decide +kernel
theorem dL_drops_24 : decode cL_drops 24 = .ok (.aload_n 0, 1) := by decide +kernel
theorem dL_drops_25 : decode cL_drops 25 = .ok (.iload_n 1, 1) := by decide +kernel
theorem dL_drops_26 : decode cL_drops 26 = .ok (.invokevirtual 100, 3) := by decide +kernel
theorem dL_drops_29 : decode cL_drops 29 = .ok (.aload_n 0, 1) := by decide +kernel
theorem dL_drops_30 : decode cL_drops 30 = .ok (.invokevirtual 71, 3) := by decide +kernel
theorem dL_drops_33 : decode cL_drops 33 = .ok (.if_icmp .gt 7, 3) := by decide +kernel
theorem dL_drops_36 : decode cL_drops 36 = .ok (.iconst 1, 1) := by decide +kernel
theorem dL_drops_37 : decode cL_drops 37 = .ok (.goto 4, 3) := by decide +kernel
theorem dL_drops_40 : decode cL_drops 40 = .ok (.iconst 0, 1) := by decide +kernel
theorem dL_drops_41 : decode cL_drops 41 = .ok (.istore 5, 2) := by decide +kernel
theorem dL_drops_43 : decode cL_drops 43 = .ok (.iconst 0, 1) := by decide +kernel
theorem dL_drops_44 : decode cL_drops 44 = .ok (.istore 6, 2) := by decide +kernel
theorem dL_drops_46 : decode cL_drops 46 = .ok (.iload 6, 2) := by decide +kernel
theorem dL_drops_48 : decode cL_drops 48 = .ok (.aload_n 0, 1) := by decide +kernel
theorem dL_drops_49 : decode cL_drops 49 = .ok (.iload_n 1, 1) := by decide +kernel
theorem dL_drops_50 : decode cL_drops 50 = .ok (.invokevirtual 100, 3) := by decide +kernel
theorem dL_drops_53 : decode cL_drops 53 = .ok (.if_icmp .ge 81, 3) := by decide +kernel
theorem dL_drops_56 : decode cL_drops 56 = .ok (.iload 5, 2) := by decide +kernel
theorem dL_drops_58 : decode cL_drops 58 = .ok (.ifCond .eq 76, 3) := by decide +kernel
theorem dL_drops_61 : decode cL_drops 61 = .ok (.aload_n 0, 1) := by decide +kernel
theorem dL_drops_62 : decode cL_drops 62 = .ok (.iload_n 1, 1) := by decide +kernel
theorem dL_drops_63 : decode cL_drops 63 = .ok (.iload 6, 2) := by decide +kernel
theorem dL_drops_65 : decode cL_drops 65 = .ok (.invokestatic 103, 3) := by decide +kernel
theorem dL_drops_68 : decode cL_drops 68 = .ok (.lstore 7, 2) := by decide +kernel
theorem dL_drops_70 : decode cL_drops 70 = .ok (.lload 7, 2) := by decide +kernel
theorem dL_drops_72 : decode cL_drops 72 = .ok (.lconst 0, 1) := by decide +kernel
theorem dL_drops_73 : decode cL_drops 73 = .ok (.lcmp, 1) := by decide +kernel
theorem dL_drops_74 : decode cL_drops 74 = .ok (.ifCond .lt 30, 3) := by decide +kernel
theorem dL_drops_77 : decode cL_drops 77 = .ok (.lload 7, 2) := by decide +kernel
theorem dL_drops_79 : decode cL_drops 79 = .ok (.aload_n 0, 1) := by decide +kernel
theorem dL_drops_80 : decode cL_drops 80 = .ok (.invokevirtual 71, 3) := by decide +kernel
theorem dL_drops_83 : decode cL_drops 83 = .ok (.i2l, 1) := by decide +kernel
theorem dL_drops_84 : decode cL_drops 84 = .ok (.lcmp, 1) := by decide +kernel
theorem dL_drops_85 : decode cL_drops 85 = .ok (.ifCond .ge 19, 3) := by decide +kernel
theorem dL_drops_88 : decode cL_drops 88 = .ok (.lload_n 2, 1) := by decide +kernel
theorem dL_drops_89 : decode cL_drops 89 = .ok (.lload 7, 2) := by decide +kernel
theorem dL_drops_91 : decode cL_drops 91 = .ok (.l2i, 1) := by decide +kernel
theorem dL_drops_92 : decode cL_drops 92 = .ok (.lshr, 1) := by decide +kernel
theorem dL_drops_93 : decode cL_drops 93 = .ok (.lconst 1, 1) := by decide +kernel
theorem dL_drops_94 : decode cL_drops 94 = .ok (.land, 1) := by decide +kernel
theorem dL_drops_95 : decode cL_drops 95 = .ok (.lconst 0, 1) := by decide +kernel
theorem dL_drops_96 : decode cL_drops 96 = .ok (.lcmp, 1) := by decide +kernel
theorem dL_drops_97 : decode cL_drops 97 = .ok (.ifCond .ne 7, 3) := by decide +kernel
theorem dL_drops_100 : decode cL_drops 100 = .ok (.iconst 1, 1) := by decide +kernel
theorem dL_drops_101 : decode cL_drops 101 = .ok (.goto 4, 3) := by decide +kernel
theorem dL_drops_104 : decode cL_drops 104 = .ok (.iconst 0, 1) := by decide +kernel
theorem dL_drops_105 : decode cL_drops 105 = .ok (.istore 5, 2) := by decide +kernel
theorem dL_drops_107 : decode cL_drops 107 = .ok (.lload_n 2, 1) := by decide +kernel
theorem dL_drops_108 : decode cL_drops 108 = .ok (.lconst 1, 1) := by decide +kernel
theorem dL_drops_109 : decode cL_drops 109 = .ok (.lload 7, 2) := by decide +kernel
theorem dL_drops_111 : decode cL_drops 111 = .ok (.l2i, 1) := by decide +kernel
theorem dL_drops_112 : decode cL_drops 112 = .ok (.lshl, 1) := by decide +kernel
theorem dL_drops_113 : decode cL_drops 113 = .ok (.lor, 1) := by decide +kernel
theorem dL_drops_114 : decode cL_drops 114 = .ok (.lstore_n 2, 1) := by decide +kernel
theorem dL_drops_115 : decode cL_drops 115 = .ok (.iload 4, 2) := by decide +kernel
theorem dL_drops_117 : decode cL_drops 117 = .ok (.aload_n 0, 1) := by decide +kernel
theorem dL_drops_118 : decode cL_drops 118 = .ok (.lload 7, 2) := by decide +kernel
theorem dL_drops_120 : decode cL_drops 120 = .ok (.l2i, 1) := by decide +kernel
theorem dL_drops_121 : decode cL_drops 121 = .ok (.invokestatic 84, 3) := by decide +kernel
theorem dL_drops_124 : decode cL_drops 124 = .ok (.l2i, 1) := by decide +kernel
theorem dL_drops_125 : decode cL_drops 125 = .ok (.ixor, 1) := by decide +kernel
theorem dL_drops_126 : decode cL_drops 126 = .ok (.istore 4, 2) := by decide +kernel
theorem dL_drops_128 : decode cL_drops 128 = .ok (.iinc 6 1, 3) := by decide +kernel
theorem dL_drops_131 : decode cL_drops 131 = .ok (.goto (-85), 3) := by decide +kernel
theorem dL_drops_134 : decode cL_drops 134 = .ok (.iload 5, 2) := by decide +kernel
theorem dL_drops_136 : decode cL_drops 136 = .ok (.ifCond .eq 17, 3) := by decide +kernel
theorem dL_drops_139 : decode cL_drops 139 = .ok (.iload 4, 2) := by decide +kernel
theorem dL_drops_141 : decode cL_drops 141 = .ok (.aload_n 0, 1) := by decide +kernel
theorem dL_drops_142 : decode cL_drops 142 = .ok (.iload_n 1, 1) := by decide +kernel
theorem dL_drops_143 : decode cL_drops 143 = .ok (.invokevirtual 120, 3) := by decide +kernel
theorem dL_drops_146 : decode cL_drops 146 = .ok (.if_icmp .ne 7, 3) := by decide +kernel
theorem dL_drops_149 : decode cL_drops 149 = .ok (.iconst 1, 1) := by decide +kernel
theorem dL_drops_150 : decode cL_drops 150 = .ok (.goto 4, 3) := by decide +kernel
theorem dL_drops_153 : decode cL_drops 153 = .ok (.iconst 0, 1) := by decide +kernel
theorem dL_drops_154 : decode cL_drops 154 = .ok (.ireturn, 1) := by decide +kernel
set_option maxRecDepth 20000 in
theorem ggL_takes_X5_wouldHelp : GoodIn wsL_takes wsX5_wouldHelp := goodIn_r _ [6, 7, 8, 9, 10, 5, 11, 12, 13, 14, 15, 16, 17, 18, 19, 20, 21, 22, 23, 24, 25, 26, 27, 28, 29, 30, 31, 32, 33, 34, 35, 36, 37, 38, 39, 40, 41, 42, 43, 44, 45, 46, 47, 48, 49, 50, 51, 52, 53, 54, 55, 56, 57, 58, 59, 60, 61, 62, 63, 64, 65, 66, 67, 68, 69, 70, 71, 72, 73, 213, 214, 215, 216, 217, 218, 219, 220, 221, 222, 223, 224, 225, 226, 227, 228] (by decide +kernel) (by decide +kernel)
set_option maxRecDepth 20000 in
theorem gL_takes_X5_wouldHelp : GoodIn wsL_takes (wsV RL 123 RX5 yX5_wouldHelp wsX5_wouldHelp) := goodIn_app (goodIn_of _ (by decide +kernel)) ggL_takes_X5_wouldHelp
set_option maxRecDepth 20000 in
theorem ggL_takes_X5_wouldDetermine : GoodIn wsL_takes wsX5_wouldDetermine := goodIn_r _ [77, 7, 14, 8, 9, 10, 5, 11, 12, 13, 15, 16, 17, 18, 19, 20, 21, 22, 23, 24, 25, 26, 27, 28, 29, 30, 31, 32, 33, 34, 35, 36, 37, 38, 39, 40, 41, 42, 43, 44, 45, 46, 47, 48, 49, 50, 51, 52, 53, 54, 55, 56, 57, 58, 59, 60, 61, 62, 63, 64, 65, 66, 67, 68, 69, 70, 71, 72, 73, 78, 79, 80, 81, 82, 83, 84, 85, 213, 214, 215, 216, 217, 218, 219, 220, 221, 222, 223, 224, 225, 226, 227, 228] (by decide +kernel) (by decide +kernel)
set_option maxRecDepth 20000 in
theorem gL_takes_X5_wouldDetermine : GoodIn wsL_takes (wsV RL 111 RX5 yX5_wouldDetermine wsX5_wouldDetermine) := goodIn_app (goodIn_of _ (by decide +kernel)) ggL_takes_X5_wouldDetermine
set_option maxRecDepth 20000 in
theorem ggL_takes_X5_determined : GoodIn wsL_takes wsX5_determined := goodIn_r _ [89, 7, 14, 15, 16, 17, 18, 19, 20, 21, 78, 79, 80, 68, 81, 82, 83, 84, 85, 70, 59, 5, 60, 213, 214, 215, 216, 217, 218, 219, 220, 226, 227, 228] (by decide +kernel) (by decide +kernel)
set_option maxRecDepth 20000 in
theorem gL_takes_X5_determined : GoodIn wsL_takes (wsV RL 117 RX5 yX5_determined wsX5_determined) := goodIn_app (goodIn_of _ (by decide +kernel)) ggL_takes_X5_determined
set_option maxRecDepth 20000 in
theorem ggL_takes_X5_rank : GoodIn wsL_takes wsX5_rank := goodIn_r _ [93, 7, 94, 95, 96, 68, 97, 98, 213, 214, 215, 216, 217, 226, 227, 228] (by decide +kernel) (by decide +kernel)
set_option maxRecDepth 20000 in
theorem gL_takes_X5_rank : GoodIn wsL_takes (wsV RL 65 RX5 yX5_rank wsX5_rank) := goodIn_app (goodIn_of _ (by decide +kernel)) ggL_takes_X5_rank
set_option maxRecDepth 20000 in
theorem ggL_takes_X5_peeled : GoodIn wsL_takes wsX5_peeled := goodIn_r _ [102, 103, 104, 105, 106, 107, 108, 109, 213, 214, 215, 216, 217, 229, 230, 231, 232, 233, 234] (by decide +kernel) (by decide +kernel)
set_option maxRecDepth 20000 in
theorem gL_takes_X5_peeled : GoodIn wsL_takes (wsV RL 68 RX5 yX5_peeled wsX5_peeled) := goodIn_app (goodIn_of _ (by decide +kernel)) ggL_takes_X5_peeled
set_option maxRecDepth 20000 in
theorem ggL_takes_X5_equations : GoodIn wsL_takes wsX5_equations := goodIn_r _ [113, 103, 114, 115, 116, 107, 117, 118, 213, 214, 215, 216, 217, 229, 230, 231, 232, 233, 234] (by decide +kernel) (by decide +kernel)
set_option maxRecDepth 20000 in
theorem gL_takes_X5_equations : GoodIn wsL_takes (wsV RL 61 RX5 yX5_equations wsX5_equations) := goodIn_app (goodIn_of _ (by decide +kernel)) ggL_takes_X5_equations
set_option maxRecDepth 20000 in
theorem ggL_takes_X5_valueOf : GoodIn wsL_takes wsX5_valueOf := goodIn_r _ [122, 14, 8, 9, 10, 5, 11, 12, 13, 15, 16, 17, 18, 19, 20, 21, 22, 23, 24, 25, 26, 27, 28, 29, 30, 31, 32, 33, 34, 35, 36, 37, 38, 39, 40, 41, 42, 43, 44, 45, 46, 47, 48, 49, 50, 51, 52, 53, 54, 55, 56, 57, 58, 59, 60, 61, 62, 63, 64, 123, 124, 125, 126, 127, 128, 129, 130, 131, 71, 72, 73, 132, 133, 134, 135, 136, 137, 138, 139, 140, 213, 214, 215, 216, 217, 218, 219, 220, 221, 222, 223, 224, 225] (by decide +kernel) (by decide +kernel)
set_option maxRecDepth 20000 in
theorem gL_takes_X5_valueOf : GoodIn wsL_takes (wsV RL 120 RX5 yX5_valueOf wsX5_valueOf) := goodIn_app (goodIn_of _ (by decide +kernel)) ggL_takes_X5_valueOf
set_option maxRecDepth 20000 in
theorem ggL_takes_L_receive : GoodIn wsL_takes wsL_receive := goodIn_ca (goodIn_r _ [144, 145, 1, 146, 147, 148, 5, 149, 150, 151, 8, 9, 10, 11, 12, 13, 14, 15, 16, 17, 18, 19, 20, 21, 22, 23, 24, 25, 26, 27, 28, 29, 30, 31, 32, 33, 34, 35, 36, 37, 38, 39, 40, 41, 42, 43, 44, 45, 46, 47, 48, 49, 50, 51, 52, 53, 54, 55, 56, 57, 58, 59, 60, 61, 62, 63, 64, 152, 153, 154, 155, 103, 7, 114, 115, 116, 107, 117, 118, 156, 157, 158, 159, 160, 161, 162, 68, 163, 164, 66, 67, 69, 70, 71, 72, 73, 165, 166, 167, 168, 169, 170, 171, 172, 173, 174, 175, 176, 177, 178, 179, 180, 181, 182, 183, 184, 185, 186, 98, 187, 188, 189, 190, 191, 192, 193, 194, 195, 196, 197, 198, 199, 109, 200, 201, 202, 203, 204, 205, 206, 207, 208, 209, 210, 211, 212, 213, 214, 215, 216, 217, 218, 219, 220, 221, 222, 223, 224, 225, 229, 230, 231, 232, 233, 234, 226, 227, 228] (by decide +kernel) (by decide +kernel)) (goodIn_sub (fun _ h => List.mem_cons_of_mem _ (List.mem_append_right _ h)) (by decide +kernel))
set_option maxRecDepth 20000 in
theorem gL_takes_L_receive : GoodIn wsL_takes (va_wsS RL 126 yL_receive wsL_receive) := goodIn_app (goodIn_of _ (by decide +kernel)) ggL_takes_L_receive
theorem dL_takes_0 : decode cL_takes 0 = .ok (.aload_n 0, 1) := by decide +kernel
theorem dL_takes_1 : decode cL_takes 1 = .ok (.iload_n 1, 1) := by decide +kernel
theorem dL_takes_2 : decode cL_takes 2 = .ok (.invokevirtual 123, 3) := by decide +kernel
theorem dL_takes_5 : decode cL_takes 5 = .ok (.istore 4, 2) := by decide +kernel
theorem dL_takes_7 : decode cL_takes 7 = .ok (.aload_n 0, 1) := by decide +kernel
theorem dL_takes_8 : decode cL_takes 8 = .ok (.iload_n 1, 1) := by decide +kernel
theorem dL_takes_9 : decode cL_takes 9 = .ok (.invokevirtual 111, 3) := by decide +kernel
theorem dL_takes_12 : decode cL_takes 12 = .ok (.istore 5, 2) := by decide +kernel
theorem dL_takes_14 : decode cL_takes 14 = .ok (.aload_n 0, 1) := by decide +kernel
theorem dL_takes_15 : decode cL_takes 15 = .ok (.invokevirtual 117, 3) := by decide +kernel
theorem dL_takes_18 : decode cL_takes 18 = .ok (.istore 6, 2) := by decide +kernel
theorem dL_takes_20 : decode cL_takes 20 = .ok (.aload_n 0, 1) := by decide +kernel
theorem dL_takes_21 : decode cL_takes 21 = .ok (.invokevirtual 65, 3) := by decide +kernel
theorem dL_takes_24 : decode cL_takes 24 = .ok (.istore 7, 2) := by decide +kernel
theorem dL_takes_26 : decode cL_takes 26 = .ok (.aload_n 0, 1) := by decide +kernel
theorem dL_takes_27 : decode cL_takes 27 = .ok (.invokevirtual 68, 3) := by decide +kernel
theorem dL_takes_30 : decode cL_takes 30 = .ok (.istore 8, 2) := by decide +kernel
theorem dL_takes_32 : decode cL_takes 32 = .ok (.aload_n 0, 1) := by decide +kernel
theorem dL_takes_33 : decode cL_takes 33 = .ok (.invokevirtual 61, 3) := by decide +kernel
theorem dL_takes_36 : decode cL_takes 36 = .ok (.istore 9, 2) := by decide +kernel
theorem dL_takes_38 : decode cL_takes 38 = .ok (.aload_n 0, 1) := by decide +kernel
theorem dL_takes_39 : decode cL_takes 39 = .ok (.iload_n 1, 1) := by decide +kernel
theorem dL_takes_40 : decode cL_takes 40 = .ok (.aload_n 0, 1) := by decide +kernel
theorem dL_takes_41 : decode cL_takes 41 = .ok (.iload_n 1, 1) := by decide +kernel
theorem dL_takes_42 : decode cL_takes 42 = .ok (.invokevirtual 120, 3) := by decide +kernel
theorem dL_takes_45 : decode cL_takes 45 = .ok (.invokestatic 126, 3) := by decide +kernel
theorem dL_takes_48 : decode cL_takes 48 = .ok (.lstore 10, 2) := by decide +kernel
theorem dL_takes_50 : decode cL_takes 50 = .ok (.lload 10, 2) := by decide +kernel
theorem dL_takes_52 : decode cL_takes 52 = .ok (.ldc2_w 24, 3) := by decide +kernel
theorem dL_takes_55 : decode cL_takes 55 = .ok (.lcmp, 1) := by decide +kernel
theorem dL_takes_56 : decode cL_takes 56 = .ok (.ifCond .ne 45, 3) := by decide +kernel
theorem dL_takes_59 : decode cL_takes 59 = .ok (.iload 9, 2) := by decide +kernel
theorem dL_takes_61 : decode cL_takes 61 = .ok (.iload_n 3, 1) := by decide +kernel
theorem dL_takes_62 : decode cL_takes 62 = .ok (.bipush 120, 2) := by decide +kernel
theorem dL_takes_64 : decode cL_takes 64 = .ok (.iadd, 1) := by decide +kernel
theorem dL_takes_65 : decode cL_takes 65 = .ok (.if_icmp .eq 12, 3) := by decide +kernel
theorem dL_takes_68 : decode cL_takes 68 = .ok (.iload 4, 2) := by decide +kernel
theorem dL_takes_70 : decode cL_takes 70 = .ok (.ifCond .ne 29, 3) := by decide +kernel
theorem dL_takes_73 : decode cL_takes 73 = .ok (.iload_n 2, 1) := by decide +kernel
theorem dL_takes_74 : decode cL_takes 74 = .ok (.ifCond .ne 25, 3) := by decide +kernel
theorem dL_takes_77 : decode cL_takes 77 = .ok (.aload_n 0, 1) := by decide +kernel
theorem dL_takes_78 : decode cL_takes 78 = .ok (.invokevirtual 65, 3) := by decide +kernel
theorem dL_takes_81 : decode cL_takes 81 = .ok (.iload 7, 2) := by decide +kernel
theorem dL_takes_83 : decode cL_takes 83 = .ok (.if_icmp .ne 16, 3) := by decide +kernel
theorem dL_takes_86 : decode cL_takes 86 = .ok (.aload_n 0, 1) := by decide +kernel
theorem dL_takes_87 : decode cL_takes 87 = .ok (.invokevirtual 61, 3) := by decide +kernel
theorem dL_takes_90 : decode cL_takes 90 = .ok (.iload 9, 2) := by decide +kernel
theorem dL_takes_92 : decode cL_takes 92 = .ok (.if_icmp .ne 7, 3) := by decide +kernel
theorem dL_takes_95 : decode cL_takes 95 = .ok (.iconst 1, 1) := by decide +kernel
theorem dL_takes_96 : decode cL_takes 96 = .ok (.goto 4, 3) := by decide +kernel
theorem dL_takes_99 : decode cL_takes 99 = .ok (.iconst 0, 1) := by decide +kernel
theorem dL_takes_100 : decode cL_takes 100 = .ok (.ireturn, 1) := by decide +kernel
theorem dL_takes_101 : decode cL_takes 101 = .ok (.iload 9, 2) := by decide +kernel
theorem dL_takes_103 : decode cL_takes 103 = .ok (.iload_n 3, 1) := by decide +kernel
theorem dL_takes_104 : decode cL_takes 104 = .ok (.bipush 120, 2) := by decide +kernel
theorem dL_takes_106 : decode cL_takes 106 = .ok (.iadd, 1) := by decide +kernel
theorem dL_takes_107 : decode cL_takes 107 = .ok (.if_icmp .ge 90, 3) := by decide +kernel
theorem dL_takes_110 : decode cL_takes 110 = .ok (.lload 10, 2) := by decide +kernel
theorem dL_takes_112 : decode cL_takes 112 = .ok (.lconst 0, 1) := by decide +kernel
theorem dL_takes_113 : decode cL_takes 113 = .ok (.lcmp, 1) := by decide +kernel
theorem dL_takes_114 : decode cL_takes 114 = .ok (.ifCond .lt 83, 3) := by decide +kernel
theorem dL_takes_117 : decode cL_takes 117 = .ok (.aload_n 0, 1) := by decide +kernel
theorem dL_takes_118 : decode cL_takes 118 = .ok (.invokevirtual 68, 3) := by decide +kernel
theorem dL_takes_121 : decode cL_takes 121 = .ok (.i2l, 1) := by decide +kernel
theorem dL_takes_122 : decode cL_takes 122 = .ok (.iload 8, 2) := by decide +kernel
theorem dL_takes_124 : decode cL_takes 124 = .ok (.i2l, 1) := by decide +kernel
theorem dL_takes_125 : decode cL_takes 125 = .ok (.lload 10, 2) := by decide +kernel
theorem dL_takes_127 : decode cL_takes 127 = .ok (.ladd, 1) := by decide +kernel
theorem dL_takes_128 : decode cL_takes 128 = .ok (.lcmp, 1) := by decide +kernel
theorem dL_takes_129 : decode cL_takes 129 = .ok (.ifCond .ne 68, 3) := by decide +kernel
theorem dL_takes_132 : decode cL_takes 132 = .ok (.aload_n 0, 1) := by decide +kernel
theorem dL_takes_133 : decode cL_takes 133 = .ok (.invokevirtual 61, 3) := by decide +kernel
theorem dL_takes_136 : decode cL_takes 136 = .ok (.iload 9, 2) := by decide +kernel
theorem dL_takes_138 : decode cL_takes 138 = .ok (.iconst 1, 1) := by decide +kernel
theorem dL_takes_139 : decode cL_takes 139 = .ok (.iadd, 1) := by decide +kernel
theorem dL_takes_140 : decode cL_takes 140 = .ok (.if_icmp .ne 57, 3) := by decide +kernel
theorem dL_takes_143 : decode cL_takes 143 = .ok (.aload_n 0, 1) := by decide +kernel
theorem dL_takes_144 : decode cL_takes 144 = .ok (.invokevirtual 65, 3) := by decide +kernel
theorem dL_takes_147 : decode cL_takes 147 = .ok (.iload 7, 2) := by decide +kernel
theorem dL_takes_149 : decode cL_takes 149 = .ok (.iload 4, 2) := by decide +kernel
theorem dL_takes_151 : decode cL_takes 151 = .ok (.ifCond .eq 7, 3) := by decide +kernel
theorem dL_takes_154 : decode cL_takes 154 = .ok (.iconst 1, 1) := by decide +kernel
theorem dL_takes_155 : decode cL_takes 155 = .ok (.goto 4, 3) := by decide +kernel
theorem dL_takes_158 : decode cL_takes 158 = .ok (.iconst 0, 1) := by decide +kernel
theorem dL_takes_159 : decode cL_takes 159 = .ok (.iadd, 1) := by decide +kernel
theorem dL_takes_160 : decode cL_takes 160 = .ok (.if_icmp .ne 37, 3) := by decide +kernel
theorem dL_takes_163 : decode cL_takes 163 = .ok (.aload_n 0, 1) := by decide +kernel
theorem dL_takes_164 : decode cL_takes 164 = .ok (.invokevirtual 117, 3) := by decide +kernel
theorem dL_takes_167 : decode cL_takes 167 = .ok (.iload 6, 2) := by decide +kernel
theorem dL_takes_169 : decode cL_takes 169 = .ok (.iload 5, 2) := by decide +kernel
theorem dL_takes_171 : decode cL_takes 171 = .ok (.iadd, 1) := by decide +kernel
theorem dL_takes_172 : decode cL_takes 172 = .ok (.if_icmp .ne 25, 3) := by decide +kernel
theorem dL_takes_175 : decode cL_takes 175 = .ok (.iload 4, 2) := by decide +kernel
theorem dL_takes_177 : decode cL_takes 177 = .ok (.ifCond .ne 8, 3) := by decide +kernel
theorem dL_takes_180 : decode cL_takes 180 = .ok (.iload 5, 2) := by decide +kernel
theorem dL_takes_182 : decode cL_takes 182 = .ok (.ifCond .ne 15, 3) := by decide +kernel
theorem dL_takes_185 : decode cL_takes 185 = .ok (.aload_n 0, 1) := by decide +kernel
theorem dL_takes_186 : decode cL_takes 186 = .ok (.iload_n 1, 1) := by decide +kernel
theorem dL_takes_187 : decode cL_takes 187 = .ok (.invokevirtual 123, 3) := by decide +kernel
theorem dL_takes_190 : decode cL_takes 190 = .ok (.ifCond .ne 7, 3) := by decide +kernel
theorem dL_takes_193 : decode cL_takes 193 = .ok (.iconst 1, 1) := by decide +kernel
theorem dL_takes_194 : decode cL_takes 194 = .ok (.goto 4, 3) := by decide +kernel
theorem dL_takes_197 : decode cL_takes 197 = .ok (.iconst 0, 1) := by decide +kernel
theorem dL_takes_198 : decode cL_takes 198 = .ok (.ireturn, 1) := by decide +kernel

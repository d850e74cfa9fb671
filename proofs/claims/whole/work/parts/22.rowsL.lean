theorem dL_start_0 : decode cL_start 0 = .ok (.aload_n 3, 1) := by decide +kernel
theorem dL_start_1 : decode cL_start 1 = .ok (.iconst 0, 1) := by decide +kernel
theorem dL_start_2 : decode cL_start 2 = .ok (.aload_n 0, 1) := by decide +kernel
theorem dL_start_3 : decode cL_start 3 = .ok (.iload_n 1, 1) := by decide +kernel
theorem dL_start_4 : decode cL_start 4 = .ok (.iload_n 2, 1) := by decide +kernel
theorem dL_start_5 : decode cL_start 5 = .ok (.invokevirtual 7, 3) := by decide +kernel
theorem dL_start_8 : decode cL_start 8 = .ok (.i2l, 1) := by decide +kernel
theorem dL_start_9 : decode cL_start 9 = .ok (.lastore, 1) := by decide +kernel
theorem dL_start_10 : decode cL_start 10 = .ok (.goto 7, 3) := by decide +kernel
theorem dL_start_13 : decode cL_start 13 = .ok (.astore 4, 2) := by decide +kernel
theorem dL_start_15 : decode cL_start 15 = .ok (.iconst 1, 1) := by decide +kernel
theorem dL_start_16 : decode cL_start 16 = .ok (.ireturn, 1) := by decide +kernel
theorem dL_start_17 : decode cL_start 17 = .ok (.iconst 0, 1) := by decide +kernel
theorem dL_start_18 : decode cL_start 18 = .ok (.ireturn, 1) := by decide +kernel
set_option maxRecDepth 20000 in
theorem ggL_setWeight_X5_setWeight : GoodIn wsL_setWeight wsX5_setWeight := goodIn_ca (goodIn_ca (goodIn_r _ [7, 8, 9, 10, 11, 12, 13, 14, 15, 16, 17, 18, 19, 20, 21, 22, 23, 24, 25, 26, 27, 28, 29, 30, 31, 32] (by decide +kernel) (by decide +kernel)) (goodIn_sub (fun _ h => List.mem_cons_of_mem _ (List.mem_append_left _ (List.mem_append_right _ h))) (by decide +kernel))) (goodIn_sub (fun _ h => List.mem_cons_of_mem _ (List.mem_append_right _ h)) (by decide +kernel))
set_option maxRecDepth 20000 in
theorem gL_setWeight_X5_setWeight : GoodIn wsL_setWeight (wsV RL 15 RX5 yX5_setWeight wsX5_setWeight) := goodIn_app (goodIn_of _ (by decide +kernel)) ggL_setWeight_X5_setWeight
theorem dL_setWeight_0 : decode cL_setWeight 0 = .ok (.aload_n 3, 1) := by decide +kernel
theorem dL_setWeight_1 : decode cL_setWeight 1 = .ok (.iconst 0, 1) := by decide +kernel
theorem dL_setWeight_2 : decode cL_setWeight 2 = .ok (.aload_n 0, 1) := by decide +kernel
theorem dL_setWeight_3 : decode cL_setWeight 3 = .ok (.iload_n 1, 1) := by decide +kernel
theorem dL_setWeight_4 : decode cL_setWeight 4 = .ok (.iload_n 2, 1) := by decide +kernel
theorem dL_setWeight_5 : decode cL_setWeight 5 = .ok (.invokevirtual 15, 3) := by decide +kernel
theorem dL_setWeight_8 : decode cL_setWeight 8 = .ok (.i2l, 1) := by decide +kernel
theorem dL_setWeight_9 : decode cL_setWeight 9 = .ok (.lastore, 1) := by decide +kernel
theorem dL_setWeight_10 : decode cL_setWeight 10 = .ok (.goto 11, 3) := by decide +kernel
theorem dL_setWeight_13 : decode cL_setWeight 13 = .ok (.astore 4, 2) := by decide +kernel
theorem dL_setWeight_15 : decode cL_setWeight 15 = .ok (.iconst 1, 1) := by decide +kernel
theorem dL_setWeight_16 : decode cL_setWeight 16 = .ok (.ireturn, 1) := by decide +kernel
theorem dL_setWeight_17 : decode cL_setWeight 17 = .ok (.astore 4, 2) := by decide +kernel
theorem dL_setWeight_19 : decode cL_setWeight 19 = .ok (.iconst 2, 1) := by decide +kernel
theorem dL_setWeight_20 : decode cL_setWeight 20 = .ok (.ireturn, 1) := by decide +kernel
theorem dL_setWeight_21 : decode cL_setWeight 21 = .ok (.iconst 0, 1) := by decide +kernel
theorem dL_setWeight_22 : decode cL_setWeight 22 = .ok (.ireturn, 1) := by decide +kernel
set_option maxRecDepth 20000 in
theorem ggL_setBlock_X5_setBlock : GoodIn wsL_setBlock wsX5_setBlock := goodIn_ca (goodIn_r _ [6, 7, 8, 9, 10, 11, 12, 13, 14, 15, 16, 17, 18, 19, 20, 21, 22, 23, 24, 5, 25, 26, 27, 28, 29, 30, 31, 32, 33, 34, 35, 36, 37, 38, 39, 40, 41, 42, 43, 44, 45] (by decide +kernel) (by decide +kernel)) (goodIn_sub (fun _ h => List.mem_cons_of_mem _ (List.mem_append_right _ h)) (by decide +kernel))
set_option maxRecDepth 20000 in
theorem gL_setBlock_X5_setBlock : GoodIn wsL_setBlock (wsV RL 20 RX5 yX5_setBlock wsX5_setBlock) := goodIn_app (goodIn_of _ (by decide +kernel)) ggL_setBlock_X5_setBlock
theorem dL_setBlock_0 : decode cL_setBlock 0 = .ok (.aload_n 3, 1) := by decide +kernel
theorem dL_setBlock_1 : decode cL_setBlock 1 = .ok (.iconst 0, 1) := by decide +kernel
theorem dL_setBlock_2 : decode cL_setBlock 2 = .ok (.aload_n 0, 1) := by decide +kernel
theorem dL_setBlock_3 : decode cL_setBlock 3 = .ok (.iload_n 1, 1) := by decide +kernel
theorem dL_setBlock_4 : decode cL_setBlock 4 = .ok (.iload_n 2, 1) := by decide +kernel
theorem dL_setBlock_5 : decode cL_setBlock 5 = .ok (.invokevirtual 20, 3) := by decide +kernel
theorem dL_setBlock_8 : decode cL_setBlock 8 = .ok (.i2l, 1) := by decide +kernel
theorem dL_setBlock_9 : decode cL_setBlock 9 = .ok (.lastore, 1) := by decide +kernel
theorem dL_setBlock_10 : decode cL_setBlock 10 = .ok (.goto 7, 3) := by decide +kernel
theorem dL_setBlock_13 : decode cL_setBlock 13 = .ok (.astore 4, 2) := by decide +kernel
theorem dL_setBlock_15 : decode cL_setBlock 15 = .ok (.iconst 1, 1) := by decide +kernel
theorem dL_setBlock_16 : decode cL_setBlock 16 = .ok (.ireturn, 1) := by decide +kernel
theorem dL_setBlock_17 : decode cL_setBlock 17 = .ok (.iconst 0, 1) := by decide +kernel
theorem dL_setBlock_18 : decode cL_setBlock 18 = .ok (.ireturn, 1) := by decide +kernel
set_option maxRecDepth 20000 in
theorem ggL_blockAt_X5_blockAt : GoodIn wsL_blockAt wsX5_blockAt := goodIn_ca (goodIn_r _ [6, 7, 8, 9, 10, 11, 12, 5, 13, 14, 15, 16, 17, 18, 19, 20, 21, 22, 23, 24, 25, 26, 27, 28, 29, 30, 31, 32, 33, 34, 35, 36, 37, 38, 39, 40, 41, 42, 43, 44, 45, 46] (by decide +kernel) (by decide +kernel)) (goodIn_sub (fun _ h => List.mem_cons_of_mem _ (List.mem_append_right _ h)) (by decide +kernel))
set_option maxRecDepth 20000 in
theorem gL_blockAt_X5_blockAt : GoodIn wsL_blockAt (wsV RL 25 RX5 yX5_blockAt wsX5_blockAt) := goodIn_app (goodIn_of _ (by decide +kernel)) ggL_blockAt_X5_blockAt
theorem dL_blockAt_0 : decode cL_blockAt 0 = .ok (.aload_n 2, 1) := by decide +kernel
theorem dL_blockAt_1 : decode cL_blockAt 1 = .ok (.iconst 0, 1) := by decide +kernel
theorem dL_blockAt_2 : decode cL_blockAt 2 = .ok (.aload_n 0, 1) := by decide +kernel
theorem dL_blockAt_3 : decode cL_blockAt 3 = .ok (.iload_n 1, 1) := by decide +kernel
theorem dL_blockAt_4 : decode cL_blockAt 4 = .ok (.invokevirtual 25, 3) := by decide +kernel
theorem dL_blockAt_7 : decode cL_blockAt 7 = .ok (.i2l, 1) := by decide +kernel
theorem dL_blockAt_8 : decode cL_blockAt 8 = .ok (.lastore, 1) := by decide +kernel
theorem dL_blockAt_9 : decode cL_blockAt 9 = .ok (.goto 6, 3) := by decide +kernel
theorem dL_blockAt_12 : decode cL_blockAt 12 = .ok (.astore_n 3, 1) := by decide +kernel
theorem dL_blockAt_13 : decode cL_blockAt 13 = .ok (.iconst 1, 1) := by decide +kernel
theorem dL_blockAt_14 : decode cL_blockAt 14 = .ok (.ireturn, 1) := by decide +kernel
theorem dL_blockAt_15 : decode cL_blockAt 15 = .ok (.iconst 0, 1) := by decide +kernel
theorem dL_blockAt_16 : decode cL_blockAt 16 = .ok (.ireturn, 1) := by decide +kernel
set_option maxRecDepth 20000 in
theorem ggL_blockOf_X5_blockOf : GoodIn wsL_blockOf wsX5_blockOf := goodIn_ca (goodIn_r _ [6, 7, 8, 9, 10, 11, 5, 12, 13, 14, 15, 16, 17, 18, 19, 20, 21, 22, 23, 24, 25, 26, 27, 28, 29, 30, 31, 32, 33, 34, 35, 36, 37, 38, 39, 40, 41, 42, 43, 44, 45, 46, 47, 48, 49, 50, 51, 52, 53, 54, 55, 56, 57, 58, 59, 60, 61, 62, 63, 64, 65, 66, 67, 68, 69, 70, 71, 72, 73, 74, 75, 76, 77, 78, 79, 80, 81, 82] (by decide +kernel) (by decide +kernel)) (goodIn_sub (fun _ h => List.mem_cons_of_mem _ (List.mem_append_right _ h)) (by decide +kernel))
set_option maxRecDepth 20000 in
theorem gL_blockOf_X5_blockOf : GoodIn wsL_blockOf (wsV RL 29 RX5 yX5_blockOf wsX5_blockOf) := goodIn_app (goodIn_of _ (by decide +kernel)) ggL_blockOf_X5_blockOf
theorem dL_blockOf_0 : decode cL_blockOf 0 = .ok (.aload_n 3, 1) := by decide +kernel
theorem dL_blockOf_1 : decode cL_blockOf 1 = .ok (.iconst 0, 1) := by decide +kernel
theorem dL_blockOf_2 : decode cL_blockOf 2 = .ok (.aload_n 0, 1) := by decide +kernel
theorem dL_blockOf_3 : decode cL_blockOf 3 = .ok (.iload_n 1, 1) := by decide +kernel
theorem dL_blockOf_4 : decode cL_blockOf 4 = .ok (.iload_n 2, 1) := by decide +kernel
theorem dL_blockOf_5 : decode cL_blockOf 5 = .ok (.invokevirtual 29, 3) := by decide +kernel
theorem dL_blockOf_8 : decode cL_blockOf 8 = .ok (.i2l, 1) := by decide +kernel
theorem dL_blockOf_9 : decode cL_blockOf 9 = .ok (.lastore, 1) := by decide +kernel
theorem dL_blockOf_10 : decode cL_blockOf 10 = .ok (.goto 7, 3) := by decide +kernel
theorem dL_blockOf_13 : decode cL_blockOf 13 = .ok (.astore 4, 2) := by decide +kernel
theorem dL_blockOf_15 : decode cL_blockOf 15 = .ok (.iconst 1, 1) := by decide +kernel
theorem dL_blockOf_16 : decode cL_blockOf 16 = .ok (.ireturn, 1) := by decide +kernel
theorem dL_blockOf_17 : decode cL_blockOf 17 = .ok (.iconst 0, 1) := by decide +kernel
theorem dL_blockOf_18 : decode cL_blockOf 18 = .ok (.ireturn, 1) := by decide +kernel
set_option maxRecDepth 20000 in
theorem ggL_receive_X5_receive : GoodIn wsL_receive wsX5_receive := goodIn_ca (goodIn_r _ [6, 7, 8, 9, 10, 11, 5, 12, 13, 14, 15, 16, 17, 18, 19, 20, 21, 22, 23, 24, 25, 26, 27, 28, 29, 30, 31, 32, 33, 34, 35, 36, 37, 38, 39, 40, 41, 42, 43, 44, 45, 46, 47, 48, 49, 50, 51, 52, 53, 54, 55, 56, 57, 58, 59, 60, 61, 62, 63, 64, 65, 66, 67, 68, 69, 70, 71, 72, 73, 74, 75, 76, 77, 78, 79, 80, 81, 82, 83, 84, 85, 86, 87, 88, 89, 90, 91, 92, 93, 94, 95, 96, 97, 98, 99, 100, 101, 102, 103, 104, 105, 106, 107, 108, 109, 110, 111, 112, 113, 114, 115, 116, 117, 118, 119, 120, 121, 122, 123, 124, 125, 126, 127, 128, 129, 130, 131, 132, 133, 134, 135, 136, 137, 138, 139, 140, 141, 142, 143, 144, 145, 146, 147, 148, 149, 150, 151, 152, 153, 154, 155, 156, 157, 158, 159, 160, 161, 162, 163, 164, 165, 166] (by decide +kernel) (by decide +kernel)) (goodIn_sub (fun _ h => List.mem_cons_of_mem _ (List.mem_append_right _ h)) (by decide +kernel))
set_option maxRecDepth 20000 in
theorem gL_receive_X5_receive : GoodIn wsL_receive (wsV RL 32 RX5 yX5_receive wsX5_receive) := goodIn_app (goodIn_of _ (by decide +kernel)) ggL_receive_X5_receive
theorem dL_receive_0 : decode cL_receive 0 = .ok (.aload_n 3, 1) := by decide +kernel
theorem dL_receive_1 : decode cL_receive 1 = .ok (.iconst 0, 1) := by decide +kernel
theorem dL_receive_2 : decode cL_receive 2 = .ok (.aload_n 0, 1) := by decide +kernel
theorem dL_receive_3 : decode cL_receive 3 = .ok (.iload_n 1, 1) := by decide +kernel
theorem dL_receive_4 : decode cL_receive 4 = .ok (.iload_n 2, 1) := by decide +kernel
theorem dL_receive_5 : decode cL_receive 5 = .ok (.invokevirtual 32, 3) := by decide +kernel
theorem dL_receive_8 : decode cL_receive 8 = .ok (.i2l, 1) := by decide +kernel
theorem dL_receive_9 : decode cL_receive 9 = .ok (.lastore, 1) := by decide +kernel
theorem dL_receive_10 : decode cL_receive 10 = .ok (.goto 7, 3) := by decide +kernel
theorem dL_receive_13 : decode cL_receive 13 = .ok (.astore 4, 2) := by decide +kernel
theorem dL_receive_15 : decode cL_receive 15 = .ok (.iconst 1, 1) := by decide +kernel
theorem dL_receive_16 : decode cL_receive 16 = .ok (.ireturn, 1) := by decide +kernel
theorem dL_receive_17 : decode cL_receive 17 = .ok (.iconst 0, 1) := by decide +kernel
theorem dL_receive_18 : decode cL_receive 18 = .ok (.ireturn, 1) := by decide +kernel
set_option maxRecDepth 20000 in
theorem ggL_receiveAll_X5_receiveAll : GoodIn wsL_receiveAll wsX5_receiveAll := goodIn_ca (goodIn_r _ [6, 7, 8, 9, 10, 11, 12, 5, 13, 14, 15, 16, 17, 18, 19, 20, 21, 22, 23, 24, 25, 26, 27, 28, 29, 30, 31, 32, 33, 34, 35, 36, 37, 38, 39, 40, 41, 42, 43, 44, 45, 46, 47, 48, 49, 50, 51, 52, 53, 54, 55, 56, 57, 58, 59, 60, 61, 62, 63, 64, 65, 66, 67, 68, 69, 70, 71, 72, 73, 74, 75, 76, 77, 78, 79, 80, 81, 82, 83, 84, 85, 86, 87, 88, 89, 90, 91, 92, 93, 94, 95, 96, 97, 98, 99, 100, 101, 102, 103, 104, 105, 106, 107, 108, 109, 110, 111, 112, 113, 114, 115, 116, 117, 118, 119, 120, 121, 122, 123, 124, 125, 126, 127, 128, 129, 130, 131, 132, 133, 134, 135, 136, 137, 138, 139, 140, 141, 142, 143, 144, 145, 146, 147, 148, 149, 150, 151, 152, 153, 154, 155, 156, 157, 158, 159, 160, 161, 162, 163, 164, 165, 166, 167, 168, 169, 170, 171, 172, 173, 174, 175, 176, 177, 178, 179, 180, 181, 182, 183, 184] (by decide +kernel) (by decide +kernel)) (goodIn_sub (fun _ h => List.mem_cons_of_mem _ (List.mem_append_right _ h)) (by decide +kernel))
set_option maxRecDepth 20000 in
theorem gL_receiveAll_X5_receiveAll : GoodIn wsL_receiveAll (wsV RL 35 RX5 yX5_receiveAll wsX5_receiveAll) := goodIn_app (goodIn_of _ (by decide +kernel)) ggL_receiveAll_X5_receiveAll
theorem dL_receiveAll_0 : decode cL_receiveAll 0 = .ok (.aload_n 3, 1) := by decide +kernel
theorem dL_receiveAll_1 : decode cL_receiveAll 1 = .ok (.iconst 0, 1) := by decide +kernel
theorem dL_receiveAll_2 : decode cL_receiveAll 2 = .ok (.aload_n 0, 1) := by decide +kernel
theorem dL_receiveAll_3 : decode cL_receiveAll 3 = .ok (.iload_n 1, 1) := by decide +kernel
theorem dL_receiveAll_4 : decode cL_receiveAll 4 = .ok (.iload_n 2, 1) := by decide +kernel
theorem dL_receiveAll_5 : decode cL_receiveAll 5 = .ok (.invokevirtual 35, 3) := by decide +kernel
theorem dL_receiveAll_8 : decode cL_receiveAll 8 = .ok (.i2l, 1) := by decide +kernel
theorem dL_receiveAll_9 : decode cL_receiveAll 9 = .ok (.lastore, 1) := by decide +kernel
theorem dL_receiveAll_10 : decode cL_receiveAll 10 = .ok (.goto 7, 3) := by decide +kernel
theorem dL_receiveAll_13 : decode cL_receiveAll 13 = .ok (.astore 4, 2) := by decide +kernel
theorem dL_receiveAll_15 : decode cL_receiveAll 15 = .ok (.iconst 1, 1) := by decide +kernel
theorem dL_receiveAll_16 : decode cL_receiveAll 16 = .ok (.ireturn, 1) := by decide +kernel
theorem dL_receiveAll_17 : decode cL_receiveAll 17 = .ok (.iconst 0, 1) := by decide +kernel
theorem dL_receiveAll_18 : decode cL_receiveAll 18 = .ok (.ireturn, 1) := by decide +kernel
set_option maxRecDepth 20000 in
theorem ggL_peeledAt_X5_peeledAt : GoodIn wsL_peeledAt wsX5_peeledAt := goodIn_ca (goodIn_r _ [6, 7, 8, 9, 10, 11, 12, 13, 14, 15, 16, 17, 18, 19, 20, 21, 22, 23, 24, 25, 26, 27, 28, 29, 30, 31] (by decide +kernel) (by decide +kernel)) (goodIn_sub (fun _ h => List.mem_cons_of_mem _ (List.mem_append_right _ h)) (by decide +kernel))
set_option maxRecDepth 20000 in
theorem gL_peeledAt_X5_peeledAt : GoodIn wsL_peeledAt (wsV RL 38 RX5 yX5_peeledAt wsX5_peeledAt) := goodIn_app (goodIn_of _ (by decide +kernel)) ggL_peeledAt_X5_peeledAt
theorem dL_peeledAt_0 : decode cL_peeledAt 0 = .ok (.aload_n 2, 1) := by decide +kernel
theorem dL_peeledAt_1 : decode cL_peeledAt 1 = .ok (.iconst 0, 1) := by decide +kernel
theorem dL_peeledAt_2 : decode cL_peeledAt 2 = .ok (.aload_n 0, 1) := by decide +kernel
theorem dL_peeledAt_3 : decode cL_peeledAt 3 = .ok (.iload_n 1, 1) := by decide +kernel
theorem dL_peeledAt_4 : decode cL_peeledAt 4 = .ok (.invokevirtual 38, 3) := by decide +kernel
theorem dL_peeledAt_7 : decode cL_peeledAt 7 = .ok (.i2l, 1) := by decide +kernel
theorem dL_peeledAt_8 : decode cL_peeledAt 8 = .ok (.lastore, 1) := by decide +kernel
theorem dL_peeledAt_9 : decode cL_peeledAt 9 = .ok (.goto 6, 3) := by decide +kernel
theorem dL_peeledAt_12 : decode cL_peeledAt 12 = .ok (.astore_n 3, 1) := by decide +kernel
theorem dL_peeledAt_13 : decode cL_peeledAt 13 = .ok (.iconst 1, 1) := by decide +kernel
theorem dL_peeledAt_14 : decode cL_peeledAt 14 = .ok (.ireturn, 1) := by decide +kernel
theorem dL_peeledAt_15 : decode cL_peeledAt 15 = .ok (.iconst 0, 1) := by decide +kernel
theorem dL_peeledAt_16 : decode cL_peeledAt 16 = .ok (.ireturn, 1) := by decide +kernel
set_option maxRecDepth 20000 in
theorem ggL_peeledBy_X5_peeledBy : GoodIn wsL_peeledBy wsX5_peeledBy := goodIn_ca (goodIn_r _ [6, 7, 8, 9, 10, 11, 12, 5, 13, 14, 15, 16, 17, 18, 19, 20, 21, 22, 23, 24, 25, 26, 27, 28, 29, 30, 31, 32, 33, 34, 35, 36, 37, 38, 39, 40, 41] (by decide +kernel) (by decide +kernel)) (goodIn_sub (fun _ h => List.mem_cons_of_mem _ (List.mem_append_right _ h)) (by decide +kernel))
set_option maxRecDepth 20000 in
theorem gL_peeledBy_X5_peeledBy : GoodIn wsL_peeledBy (wsV RL 41 RX5 yX5_peeledBy wsX5_peeledBy) := goodIn_app (goodIn_of _ (by decide +kernel)) ggL_peeledBy_X5_peeledBy
theorem dL_peeledBy_0 : decode cL_peeledBy 0 = .ok (.aload_n 2, 1) := by decide +kernel
theorem dL_peeledBy_1 : decode cL_peeledBy 1 = .ok (.iconst 0, 1) := by decide +kernel
theorem dL_peeledBy_2 : decode cL_peeledBy 2 = .ok (.aload_n 0, 1) := by decide +kernel
theorem dL_peeledBy_3 : decode cL_peeledBy 3 = .ok (.iload_n 1, 1) := by decide +kernel
theorem dL_peeledBy_4 : decode cL_peeledBy 4 = .ok (.invokevirtual 41, 3) := by decide +kernel
theorem dL_peeledBy_7 : decode cL_peeledBy 7 = .ok (.i2l, 1) := by decide +kernel
theorem dL_peeledBy_8 : decode cL_peeledBy 8 = .ok (.lastore, 1) := by decide +kernel
theorem dL_peeledBy_9 : decode cL_peeledBy 9 = .ok (.goto 6, 3) := by decide +kernel
theorem dL_peeledBy_12 : decode cL_peeledBy 12 = .ok (.astore_n 3, 1) := by decide +kernel
theorem dL_peeledBy_13 : decode cL_peeledBy 13 = .ok (.iconst 1, 1) := by decide +kernel
theorem dL_peeledBy_14 : decode cL_peeledBy 14 = .ok (.ireturn, 1) := by decide +kernel
theorem dL_peeledBy_15 : decode cL_peeledBy 15 = .ok (.iconst 0, 1) := by decide +kernel
theorem dL_peeledBy_16 : decode cL_peeledBy 16 = .ok (.ireturn, 1) := by decide +kernel
set_option maxRecDepth 20000 in
theorem ggL_isDetermined_X5_isDetermined : GoodIn wsL_isDetermined wsX5_isDetermined := goodIn_ca (goodIn_r _ [6, 7, 8, 9, 10, 11, 12, 5, 13, 14, 15, 16, 17, 18, 19, 20, 21, 22, 23, 24, 25, 26, 27, 28, 29, 30, 31, 32, 33, 34, 35, 36, 37, 38, 39, 40, 41, 42, 43, 44] (by decide +kernel) (by decide +kernel)) (goodIn_sub (fun _ h => List.mem_cons_of_mem _ (List.mem_append_right _ h)) (by decide +kernel))
set_option maxRecDepth 20000 in
theorem gL_isDetermined_X5_isDetermined : GoodIn wsL_isDetermined (wsV RL 44 RX5 yX5_isDetermined wsX5_isDetermined) := goodIn_app (goodIn_of _ (by decide +kernel)) ggL_isDetermined_X5_isDetermined
theorem dL_isDetermined_0 : decode cL_isDetermined 0 = .ok (.aload_n 2, 1) := by decide +kernel
theorem dL_isDetermined_1 : decode cL_isDetermined 1 = .ok (.iconst 0, 1) := by decide +kernel
theorem dL_isDetermined_2 : decode cL_isDetermined 2 = .ok (.aload_n 0, 1) := by decide +kernel
theorem dL_isDetermined_3 : decode cL_isDetermined 3 = .ok (.iload_n 1, 1) := by decide +kernel
theorem dL_isDetermined_4 : decode cL_isDetermined 4 = .ok (.invokevirtual 44, 3) := by decide +kernel
theorem dL_isDetermined_7 : decode cL_isDetermined 7 = .ok (.ifCond .eq 7, 3) := by decide +kernel
theorem dL_isDetermined_10 : decode cL_isDetermined 10 = .ok (.lconst 1, 1) := by decide +kernel
theorem dL_isDetermined_11 : decode cL_isDetermined 11 = .ok (.goto 4, 3) := by decide +kernel
theorem dL_isDetermined_14 : decode cL_isDetermined 14 = .ok (.lconst 0, 1) := by decide +kernel
theorem dL_isDetermined_15 : decode cL_isDetermined 15 = .ok (.lastore, 1) := by decide +kernel
theorem dL_isDetermined_16 : decode cL_isDetermined 16 = .ok (.goto 6, 3) := by decide +kernel
theorem dL_isDetermined_19 : decode cL_isDetermined 19 = .ok (.astore_n 3, 1) := by decide +kernel
theorem dL_isDetermined_20 : decode cL_isDetermined 20 = .ok (.iconst 1, 1) := by decide +kernel
theorem dL_isDetermined_21 : decode cL_isDetermined 21 = .ok (.ireturn, 1) := by decide +kernel
theorem dL_isDetermined_22 : decode cL_isDetermined 22 = .ok (.iconst 0, 1) := by decide +kernel
theorem dL_isDetermined_23 : decode cL_isDetermined 23 = .ok (.ireturn, 1) := by decide +kernel
set_option maxRecDepth 20000 in
theorem ggL_recovered_X5_recovered : GoodIn wsL_recovered wsX5_recovered := goodIn_ca (goodIn_ca (goodIn_r _ [7, 8, 9, 10, 11, 12, 13, 14, 15, 6, 16, 17, 18, 19, 20, 21, 22, 23, 24, 25, 26, 27, 28, 29, 30, 31, 32, 33, 34, 35, 36, 37, 38, 39, 40, 41, 42, 43, 44, 45, 46, 47, 48, 49, 50, 51, 52, 53, 54, 55] (by decide +kernel) (by decide +kernel)) (goodIn_sub (fun _ h => List.mem_cons_of_mem _ (List.mem_append_left _ (List.mem_append_right _ h))) (by decide +kernel))) (goodIn_sub (fun _ h => List.mem_cons_of_mem _ (List.mem_append_right _ h)) (by decide +kernel))
set_option maxRecDepth 20000 in
theorem gL_recovered_X5_recovered : GoodIn wsL_recovered (wsV RL 48 RX5 yX5_recovered wsX5_recovered) := goodIn_app (goodIn_of _ (by decide +kernel)) ggL_recovered_X5_recovered
theorem dL_recovered_0 : decode cL_recovered 0 = .ok (.aload_n 2, 1) := by decide +kernel
theorem dL_recovered_1 : decode cL_recovered 1 = .ok (.iconst 0, 1) := by decide +kernel
theorem dL_recovered_2 : decode cL_recovered 2 = .ok (.aload_n 0, 1) := by decide +kernel
theorem dL_recovered_3 : decode cL_recovered 3 = .ok (.iload_n 1, 1) := by decide +kernel
theorem dL_recovered_4 : decode cL_recovered 4 = .ok (.invokevirtual 48, 3) := by decide +kernel
theorem dL_recovered_7 : decode cL_recovered 7 = .ok (.i2l, 1) := by decide +kernel
theorem dL_recovered_8 : decode cL_recovered 8 = .ok (.lastore, 1) := by decide +kernel
theorem dL_recovered_9 : decode cL_recovered 9 = .ok (.goto 9, 3) := by decide +kernel
theorem dL_recovered_12 : decode cL_recovered 12 = .ok (.astore_n 3, 1) := by decide +kernel
theorem dL_recovered_13 : decode cL_recovered 13 = .ok (.iconst 1, 1) := by decide +kernel
theorem dL_recovered_14 : decode cL_recovered 14 = .ok (.ireturn, 1) := by decide +kernel
theorem dL_recovered_15 : decode cL_recovered 15 = .ok (.astore_n 3, 1) := by decide +kernel
theorem dL_recovered_16 : decode cL_recovered 16 = .ok (.iconst 2, 1) := by decide +kernel
theorem dL_recovered_17 : decode cL_recovered 17 = .ok (.ireturn, 1) := by decide +kernel
theorem dL_recovered_18 : decode cL_recovered 18 = .ok (.iconst 0, 1) := by decide +kernel
theorem dL_recovered_19 : decode cL_recovered 19 = .ok (.ireturn, 1) := by decide +kernel

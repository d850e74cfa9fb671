theorem dX5_init_0 : decode cX5_init 0 = .ok (.aload_n 0, 1) := by decide +kernel
theorem dX5_init_1 : decode cX5_init 1 = .ok (.invokespecial 3, 3) := by decide +kernel
theorem dX5_init_4 : decode cX5_init 4 = .ok (.aload_n 0, 1) := by decide +kernel
theorem dX5_init_5 : decode cX5_init 5 = .ok (.new 9, 3) := by decide +kernel
theorem dX5_init_8 : decode cX5_init 8 = .ok (.dup, 1) := by decide +kernel
theorem dX5_init_9 : decode cX5_init 9 = .ok (.invokespecial 11, 3) := by decide +kernel
theorem dX5_init_12 : decode cX5_init 12 = .ok (.putfield 12, 3) := by decide +kernel
theorem dX5_init_15 : decode cX5_init 15 = .ok (.aload_n 0, 1) := by decide +kernel
theorem dX5_init_16 : decode cX5_init 16 = .ok (.new 16, 3) := by decide +kernel
theorem dX5_init_19 : decode cX5_init 19 = .ok (.dup, 1) := by decide +kernel
theorem dX5_init_20 : decode cX5_init 20 = .ok (.invokespecial 18, 3) := by decide +kernel
theorem dX5_init_23 : decode cX5_init 23 = .ok (.putfield 19, 3) := by decide +kernel
theorem dX5_init_26 : decode cX5_init 26 = .ok (.aload_n 0, 1) := by decide +kernel
theorem dX5_init_27 : decode cX5_init 27 = .ok (.new 23, 3) := by decide +kernel
theorem dX5_init_30 : decode cX5_init 30 = .ok (.dup, 1) := by decide +kernel
theorem dX5_init_31 : decode cX5_init 31 = .ok (.invokespecial 25, 3) := by decide +kernel
theorem dX5_init_34 : decode cX5_init 34 = .ok (.putfield 26, 3) := by decide +kernel
theorem dX5_init_37 : decode cX5_init 37 = .ok (.aload_n 0, 1) := by decide +kernel
theorem dX5_init_38 : decode cX5_init 38 = .ok (.new 30, 3) := by decide +kernel
theorem dX5_init_41 : decode cX5_init 41 = .ok (.dup, 1) := by decide +kernel
theorem dX5_init_42 : decode cX5_init 42 = .ok (.invokespecial 32, 3) := by decide +kernel
theorem dX5_init_45 : decode cX5_init 45 = .ok (.putfield 33, 3) := by decide +kernel
theorem dX5_init_48 : decode cX5_init 48 = .ok (.aload_n 0, 1) := by decide +kernel
theorem dX5_init_49 : decode cX5_init 49 = .ok (.new 37, 3) := by decide +kernel
theorem dX5_init_52 : decode cX5_init 52 = .ok (.dup, 1) := by decide +kernel
theorem dX5_init_53 : decode cX5_init 53 = .ok (.invokespecial 39, 3) := by decide +kernel
theorem dX5_init_56 : decode cX5_init 56 = .ok (.putfield 40, 3) := by decide +kernel
theorem dX5_init_59 : decode cX5_init 59 = .ok (.aload_n 0, 1) := by decide +kernel
theorem dX5_init_60 : decode cX5_init 60 = .ok (.iconst 1, 1) := by decide +kernel
theorem dX5_init_61 : decode cX5_init 61 = .ok (.iconst 0, 1) := by decide +kernel
theorem dX5_init_62 : decode cX5_init 62 = .ok (.invokevirtual 44, 3) := by decide +kernel
theorem dX5_init_65 : decode cX5_init 65 = .ok (.pop, 1) := by decide +kernel
theorem dX5_init_66 : decode cX5_init 66 = .ok (.return_, 1) := by decide +kernel
set_option maxRecDepth 20000 in
theorem ggX5_start_X5_beginTransfer : GoodIn wsX5_start wsX5_beginTransfer := goodIn_r _ [7, 8, 9, 10, 11, 12, 13, 14, 15, 16, 17, 18, 19, 20, 21, 22, 23, 24, 25, 26, 27, 28, 29, 30, 31, 32, 33, 34, 35, 36, 37, 38, 39, 40, 41, 42, 43, 44, 45, 46, 6, 47, 48, 49, 50, 51, 52, 53, 54, 55, 56, 57, 58, 59, 60, 61, 62, 63, 64, 65, 66, 67, 68, 69, 70, 71, 72, 73, 74, 75, 76, 77, 78, 79, 80, 81, 82, 83, 84, 85, 86, 87, 88, 89, 90, 91, 92, 93, 94, 95, 96, 97, 98, 99, 100, 101, 102, 103, 104, 105, 106, 107, 108, 109, 110, 111, 112, 113, 114, 115] (by decide +kernel) (by decide +kernel)
set_option maxRecDepth 20000 in
theorem gX5_start_X5_beginTransfer : GoodIn wsX5_start (wsV RX5 44 RX5 yX5_beginTransfer wsX5_beginTransfer) := goodIn_app (goodIn_of _ (by decide +kernel)) ggX5_start_X5_beginTransfer
theorem dX5_start_0 : decode cX5_start 0 = .ok (.iload_n 1, 1) := by decide +kernel
theorem dX5_start_1 : decode cX5_start 1 = .ok (.iconst 1, 1) := by decide +kernel
theorem dX5_start_2 : decode cX5_start 2 = .ok (.if_icmp .lt 19, 3) := by decide +kernel
theorem dX5_start_5 : decode cX5_start 5 = .ok (.iload_n 1, 1) := by decide +kernel
theorem dX5_start_6 : decode cX5_start 6 = .ok (.bipush 32, 2) := by decide +kernel
theorem dX5_start_8 : decode cX5_start 8 = .ok (.if_icmp .gt 13, 3) := by decide +kernel
theorem dX5_start_11 : decode cX5_start 11 = .ok (.iload_n 2, 1) := by decide +kernel
theorem dX5_start_12 : decode cX5_start 12 = .ok (.ifCond .lt 9, 3) := by decide +kernel
theorem dX5_start_15 : decode cX5_start 15 = .ok (.iload_n 2, 1) := by decide +kernel
theorem dX5_start_16 : decode cX5_start 16 = .ok (.bipush 6, 2) := by decide +kernel
theorem dX5_start_18 : decode cX5_start 18 = .ok (.if_icmp .le 13, 3) := by decide +kernel
theorem dX5_start_21 : decode cX5_start 21 = .ok (.new 48, 3) := by decide +kernel
theorem dX5_start_24 : decode cX5_start 24 = .ok (.dup, 1) := by decide +kernel
theorem dX5_start_25 : decode cX5_start 25 = .ok (.ldc 50, 2) := by decide +kernel
theorem dX5_start_27 : decode cX5_start 27 = .ok (.invokespecial 52, 3) := by decide +kernel
theorem dX5_start_30 : decode cX5_start 30 = .ok (.athrow, 1) := by decide +kernel
theorem dX5_start_31 : decode cX5_start 31 = .ok (.aload_n 0, 1) := by decide +kernel
theorem dX5_start_32 : decode cX5_start 32 = .ok (.iload_n 1, 1) := by decide +kernel
theorem dX5_start_33 : decode cX5_start 33 = .ok (.iload_n 2, 1) := by decide +kernel
theorem dX5_start_34 : decode cX5_start 34 = .ok (.invokevirtual 44, 3) := by decide +kernel
theorem dX5_start_37 : decode cX5_start 37 = .ok (.ireturn, 1) := by decide +kernel
set_option maxRecDepth 20000 in
theorem ggX5_setWeight_X4_weightOf : GoodIn wsX5_setWeight wsX4_weightOf := goodIn_r _ [10, 11, 25] (by decide +kernel) (by decide +kernel)
set_option maxRecDepth 20000 in
theorem gX5_setWeight_X4_weightOf : GoodIn wsX5_setWeight (wsV RX5 57 RX4 yX4_weightOf wsX4_weightOf) := goodIn_app (goodIn_of _ (by decide +kernel)) ggX5_setWeight_X4_weightOf
set_option maxRecDepth 20000 in
theorem ggX5_setWeight_X4_sum : GoodIn wsX5_setWeight wsX4_sum := goodIn_r _ [15, 11, 25] (by decide +kernel) (by decide +kernel)
set_option maxRecDepth 20000 in
theorem gX5_setWeight_X4_sum : GoodIn wsX5_setWeight (wsV RX5 61 RX4 yX4_sum wsX4_sum) := goodIn_app (goodIn_of _ (by decide +kernel)) ggX5_setWeight_X4_sum
set_option maxRecDepth 20000 in
theorem ggX5_setWeight_X4_change : GoodIn wsX5_setWeight wsX4_change := goodIn_r _ [19, 11, 25] (by decide +kernel) (by decide +kernel)
set_option maxRecDepth 20000 in
theorem gX5_setWeight_X4_change : GoodIn wsX5_setWeight (wsV RX5 70 RX4 yX4_change wsX4_change) := goodIn_app (goodIn_of _ (by decide +kernel)) ggX5_setWeight_X4_change
theorem dX5_setWeight_0 : decode cX5_setWeight 0 = .ok (.iload_n 1, 1) := by decide +kernel
theorem dX5_setWeight_1 : decode cX5_setWeight 1 = .ok (.iconst 1, 1) := by decide +kernel
theorem dX5_setWeight_2 : decode cX5_setWeight 2 = .ok (.if_icmp .lt 20, 3) := by decide +kernel
theorem dX5_setWeight_5 : decode cX5_setWeight 5 = .ok (.iload_n 1, 1) := by decide +kernel
theorem dX5_setWeight_6 : decode cX5_setWeight 6 = .ok (.bipush 12, 2) := by decide +kernel
theorem dX5_setWeight_8 : decode cX5_setWeight 8 = .ok (.if_icmp .gt 14, 3) := by decide +kernel
theorem dX5_setWeight_11 : decode cX5_setWeight 11 = .ok (.iload_n 2, 1) := by decide +kernel
theorem dX5_setWeight_12 : decode cX5_setWeight 12 = .ok (.ifCond .lt 10, 3) := by decide +kernel
theorem dX5_setWeight_15 : decode cX5_setWeight 15 = .ok (.iload_n 2, 1) := by decide +kernel
theorem dX5_setWeight_16 : decode cX5_setWeight 16 = .ok (.sipush 1000, 3) := by decide +kernel
theorem dX5_setWeight_19 : decode cX5_setWeight 19 = .ok (.if_icmp .le 13, 3) := by decide +kernel
theorem dX5_setWeight_22 : decode cX5_setWeight 22 = .ok (.new 48, 3) := by decide +kernel
theorem dX5_setWeight_25 : decode cX5_setWeight 25 = .ok (.dup, 1) := by decide +kernel
theorem dX5_setWeight_26 : decode cX5_setWeight 26 = .ok (.ldc 55, 2) := by decide +kernel
theorem dX5_setWeight_28 : decode cX5_setWeight 28 = .ok (.invokespecial 52, 3) := by decide +kernel
theorem dX5_setWeight_31 : decode cX5_setWeight 31 = .ok (.athrow, 1) := by decide +kernel
theorem dX5_setWeight_32 : decode cX5_setWeight 32 = .ok (.aload_n 0, 1) := by decide +kernel
theorem dX5_setWeight_33 : decode cX5_setWeight 33 = .ok (.getfield 12, 3) := by decide +kernel
theorem dX5_setWeight_36 : decode cX5_setWeight 36 = .ok (.iload_n 1, 1) := by decide +kernel
theorem dX5_setWeight_37 : decode cX5_setWeight 37 = .ok (.invokevirtual 57, 3) := by decide +kernel
theorem dX5_setWeight_40 : decode cX5_setWeight 40 = .ok (.istore_n 3, 1) := by decide +kernel
theorem dX5_setWeight_41 : decode cX5_setWeight 41 = .ok (.aload_n 0, 1) := by decide +kernel
theorem dX5_setWeight_42 : decode cX5_setWeight 42 = .ok (.getfield 12, 3) := by decide +kernel
theorem dX5_setWeight_45 : decode cX5_setWeight 45 = .ok (.invokevirtual 61, 3) := by decide +kernel
theorem dX5_setWeight_48 : decode cX5_setWeight 48 = .ok (.iload_n 3, 1) := by decide +kernel
theorem dX5_setWeight_49 : decode cX5_setWeight 49 = .ok (.isub, 1) := by decide +kernel
theorem dX5_setWeight_50 : decode cX5_setWeight 50 = .ok (.iload_n 2, 1) := by decide +kernel
theorem dX5_setWeight_51 : decode cX5_setWeight 51 = .ok (.iadd, 1) := by decide +kernel
theorem dX5_setWeight_52 : decode cX5_setWeight 52 = .ok (.ifCond .ne 13, 3) := by decide +kernel
theorem dX5_setWeight_55 : decode cX5_setWeight 55 = .ok (.new 65, 3) := by decide +kernel
theorem dX5_setWeight_58 : decode cX5_setWeight 58 = .ok (.dup, 1) := by decide +kernel
theorem dX5_setWeight_59 : decode cX5_setWeight 59 = .ok (.ldc 67, 2) := by decide +kernel
theorem dX5_setWeight_61 : decode cX5_setWeight 61 = .ok (.invokespecial 69, 3) := by decide +kernel
theorem dX5_setWeight_64 : decode cX5_setWeight 64 = .ok (.athrow, 1) := by decide +kernel
theorem dX5_setWeight_65 : decode cX5_setWeight 65 = .ok (.aload_n 0, 1) := by decide +kernel
theorem dX5_setWeight_66 : decode cX5_setWeight 66 = .ok (.getfield 12, 3) := by decide +kernel
theorem dX5_setWeight_69 : decode cX5_setWeight 69 = .ok (.iload_n 1, 1) := by decide +kernel
theorem dX5_setWeight_70 : decode cX5_setWeight 70 = .ok (.iload_n 2, 1) := by decide +kernel
theorem dX5_setWeight_71 : decode cX5_setWeight 71 = .ok (.invokevirtual 70, 3) := by decide +kernel
theorem dX5_setWeight_74 : decode cX5_setWeight 74 = .ok (.iload_n 3, 1) := by decide +kernel
theorem dX5_setWeight_75 : decode cX5_setWeight 75 = .ok (.ireturn, 1) := by decide +kernel
set_option maxRecDepth 20000 in
theorem ggX5_setBlock_X3_sourceCount : GoodIn wsX5_setBlock wsX3_sourceCount := goodIn_r _ [8, 9, 38, 39, 40] (by decide +kernel) (by decide +kernel)
set_option maxRecDepth 20000 in
theorem gX5_setBlock_X3_sourceCount : GoodIn wsX5_setBlock (wsV RX5 74 RX3 yX3_sourceCount wsX3_sourceCount) := goodIn_app (goodIn_of _ (by decide +kernel)) ggX5_setBlock_X3_sourceCount
set_option maxRecDepth 20000 in
theorem ggX5_setBlock_X3_valueOfBlock : GoodIn wsX5_setBlock wsX3_valueOfBlock := goodIn_r _ [13, 9, 14, 15, 16, 7, 17, 18, 19, 20, 21, 22, 23, 24, 25, 26, 27, 28, 38, 39, 40] (by decide +kernel) (by decide +kernel)
set_option maxRecDepth 20000 in
theorem gX5_setBlock_X3_valueOfBlock : GoodIn wsX5_setBlock (wsV RX5 82 RX3 yX3_valueOfBlock wsX3_valueOfBlock) := goodIn_app (goodIn_of _ (by decide +kernel)) ggX5_setBlock_X3_valueOfBlock
set_option maxRecDepth 20000 in
theorem ggX5_setBlock_X3_change : GoodIn wsX5_setBlock wsX3_change := goodIn_r _ [32, 25, 38, 39, 40] (by decide +kernel) (by decide +kernel)
set_option maxRecDepth 20000 in
theorem gX5_setBlock_X3_change : GoodIn wsX5_setBlock (wsV RX5 85 RX3 yX3_change wsX3_change) := goodIn_app (goodIn_of _ (by decide +kernel)) ggX5_setBlock_X3_change
theorem dX5_setBlock_0 : decode cX5_setBlock 0 = .ok (.iload_n 1, 1) := by decide +kernel
theorem dX5_setBlock_1 : decode cX5_setBlock 1 = .ok (.ifCond .lt 14, 3) := by decide +kernel
theorem dX5_setBlock_4 : decode cX5_setBlock 4 = .ok (.iload_n 1, 1) := by decide +kernel
theorem dX5_setBlock_5 : decode cX5_setBlock 5 = .ok (.aload_n 0, 1) := by decide +kernel
theorem dX5_setBlock_6 : decode cX5_setBlock 6 = .ok (.getfield 19, 3) := by decide +kernel
theorem dX5_setBlock_9 : decode cX5_setBlock 9 = .ok (.invokevirtual 74, 3) := by decide +kernel
theorem dX5_setBlock_12 : decode cX5_setBlock 12 = .ok (.if_icmp .lt 13, 3) := by decide +kernel
theorem dX5_setBlock_15 : decode cX5_setBlock 15 = .ok (.new 77, 3) := by decide +kernel
theorem dX5_setBlock_18 : decode cX5_setBlock 18 = .ok (.dup, 1) := by decide +kernel
theorem dX5_setBlock_19 : decode cX5_setBlock 19 = .ok (.ldc 79, 2) := by decide +kernel
theorem dX5_setBlock_21 : decode cX5_setBlock 21 = .ok (.invokespecial 81, 3) := by decide +kernel
theorem dX5_setBlock_24 : decode cX5_setBlock 24 = .ok (.athrow, 1) := by decide +kernel
theorem dX5_setBlock_25 : decode cX5_setBlock 25 = .ok (.aload_n 0, 1) := by decide +kernel
theorem dX5_setBlock_26 : decode cX5_setBlock 26 = .ok (.getfield 19, 3) := by decide +kernel
theorem dX5_setBlock_29 : decode cX5_setBlock 29 = .ok (.iload_n 1, 1) := by decide +kernel
theorem dX5_setBlock_30 : decode cX5_setBlock 30 = .ok (.invokevirtual 82, 3) := by decide +kernel
theorem dX5_setBlock_33 : decode cX5_setBlock 33 = .ok (.istore_n 3, 1) := by decide +kernel
theorem dX5_setBlock_34 : decode cX5_setBlock 34 = .ok (.aload_n 0, 1) := by decide +kernel
theorem dX5_setBlock_35 : decode cX5_setBlock 35 = .ok (.getfield 19, 3) := by decide +kernel
theorem dX5_setBlock_38 : decode cX5_setBlock 38 = .ok (.iload_n 1, 1) := by decide +kernel
theorem dX5_setBlock_39 : decode cX5_setBlock 39 = .ok (.iload_n 2, 1) := by decide +kernel
theorem dX5_setBlock_40 : decode cX5_setBlock 40 = .ok (.invokevirtual 85, 3) := by decide +kernel
theorem dX5_setBlock_43 : decode cX5_setBlock 43 = .ok (.iload_n 3, 1) := by decide +kernel
theorem dX5_setBlock_44 : decode cX5_setBlock 44 = .ok (.ireturn, 1) := by decide +kernel
set_option maxRecDepth 20000 in
theorem ggX5_blocks_X3_blockCount : GoodIn wsX5_blocks wsX3_blockCount := goodIn_r _ [6, 7, 8, 14, 15, 16] (by decide +kernel) (by decide +kernel)
set_option maxRecDepth 20000 in
theorem gX5_blocks_X3_blockCount : GoodIn wsX5_blocks (wsV RX5 86 RX3 yX3_blockCount wsX3_blockCount) := goodIn_app (goodIn_of _ (by decide +kernel)) ggX5_blocks_X3_blockCount
theorem dX5_blocks_0 : decode cX5_blocks 0 = .ok (.aload_n 0, 1) := by decide +kernel
theorem dX5_blocks_1 : decode cX5_blocks 1 = .ok (.getfield 19, 3) := by decide +kernel
theorem dX5_blocks_4 : decode cX5_blocks 4 = .ok (.invokevirtual 86, 3) := by decide +kernel
theorem dX5_blocks_7 : decode cX5_blocks 7 = .ok (.ireturn, 1) := by decide +kernel
set_option maxRecDepth 20000 in
theorem ggX5_blockAt_X5_isBlock : GoodIn wsX5_blockAt wsX5_isBlock := goodIn_r _ [8, 3, 9, 10, 11, 12, 13, 14, 15, 34, 35, 36, 37, 38, 39, 40, 41] (by decide +kernel) (by decide +kernel)
set_option maxRecDepth 20000 in
theorem gX5_blockAt_X5_isBlock : GoodIn wsX5_blockAt (wsV RX5 89 RX5 yX5_isBlock wsX5_isBlock) := goodIn_app (goodIn_of _ (by decide +kernel)) ggX5_blockAt_X5_isBlock
set_option maxRecDepth 20000 in
theorem ggX5_blockAt_X3_valueOfBlock : GoodIn wsX5_blockAt wsX3_valueOfBlock := goodIn_r _ [19, 14, 20, 21, 22, 12, 23, 24, 7, 25, 26, 27, 28, 29, 30, 31, 32, 33, 39, 40, 41] (by decide +kernel) (by decide +kernel)
set_option maxRecDepth 20000 in
theorem gX5_blockAt_X3_valueOfBlock : GoodIn wsX5_blockAt (wsV RX5 82 RX3 yX3_valueOfBlock wsX3_valueOfBlock) := goodIn_app (goodIn_of _ (by decide +kernel)) ggX5_blockAt_X3_valueOfBlock
theorem dX5_blockAt_0 : decode cX5_blockAt 0 = .ok (.aload_n 0, 1) := by decide +kernel
theorem dX5_blockAt_1 : decode cX5_blockAt 1 = .ok (.iload_n 1, 1) := by decide +kernel
theorem dX5_blockAt_2 : decode cX5_blockAt 2 = .ok (.invokevirtual 89, 3) := by decide +kernel
theorem dX5_blockAt_5 : decode cX5_blockAt 5 = .ok (.ifCond .ne 13, 3) := by decide +kernel
theorem dX5_blockAt_8 : decode cX5_blockAt 8 = .ok (.new 77, 3) := by decide +kernel
theorem dX5_blockAt_11 : decode cX5_blockAt 11 = .ok (.dup, 1) := by decide +kernel
theorem dX5_blockAt_12 : decode cX5_blockAt 12 = .ok (.ldc 93, 2) := by decide +kernel
theorem dX5_blockAt_14 : decode cX5_blockAt 14 = .ok (.invokespecial 81, 3) := by decide +kernel
theorem dX5_blockAt_17 : decode cX5_blockAt 17 = .ok (.athrow, 1) := by decide +kernel
theorem dX5_blockAt_18 : decode cX5_blockAt 18 = .ok (.aload_n 0, 1) := by decide +kernel
theorem dX5_blockAt_19 : decode cX5_blockAt 19 = .ok (.getfield 19, 3) := by decide +kernel
theorem dX5_blockAt_22 : decode cX5_blockAt 22 = .ok (.iload_n 1, 1) := by decide +kernel
theorem dX5_blockAt_23 : decode cX5_blockAt 23 = .ok (.invokevirtual 82, 3) := by decide +kernel
theorem dX5_blockAt_26 : decode cX5_blockAt 26 = .ok (.ireturn, 1) := by decide +kernel
set_option maxRecDepth 20000 in
theorem ggX5_degree_X5_drawn : GoodIn wsX5_degree wsX5_drawn := goodIn_r _ [5, 6, 7, 8, 9, 10, 11, 12, 13, 14, 15, 16, 17, 18, 19, 20, 21, 22, 23, 24, 25, 26, 27, 28, 29, 30, 31, 32, 33, 34, 35, 36, 37, 38, 39, 40, 41, 42, 43, 44, 45, 46, 47, 48, 49, 50, 51, 52, 53, 4, 54, 59, 60, 61, 62, 63, 64, 65, 66, 67, 68, 69, 70, 71] (by decide +kernel) (by decide +kernel)
set_option maxRecDepth 20000 in
theorem gX5_degree_X5_drawn : GoodIn wsX5_degree (wsV RX5 95 RX5 yX5_drawn wsX5_drawn) := goodIn_app (goodIn_of _ (by decide +kernel)) ggX5_degree_X5_drawn
set_option maxRecDepth 20000 in
theorem ggX5_degree_X0_size : GoodIn wsX5_degree wsX0_size := goodIn_r _ [58, 26, 67, 68, 69, 70] (by decide +kernel) (by decide +kernel)
set_option maxRecDepth 20000 in
theorem gX5_degree_X0_size : GoodIn wsX5_degree (wsV RX5 99 RX0 yX0_size wsX0_size) := goodIn_app (goodIn_of _ (by decide +kernel)) ggX5_degree_X0_size
theorem dX5_degree_0 : decode cX5_degree 0 = .ok (.aload_n 0, 1) := by decide +kernel
theorem dX5_degree_1 : decode cX5_degree 1 = .ok (.iload_n 1, 1) := by decide +kernel
theorem dX5_degree_2 : decode cX5_degree 2 = .ok (.invokevirtual 95, 3) := by decide +kernel
theorem dX5_degree_5 : decode cX5_degree 5 = .ok (.invokevirtual 99, 3) := by decide +kernel
theorem dX5_degree_8 : decode cX5_degree 8 = .ok (.ireturn, 1) := by decide +kernel
set_option maxRecDepth 20000 in
theorem ggX5_blockOf_X5_drawn : GoodIn wsX5_blockOf wsX5_drawn := goodIn_r _ [7, 8, 9, 10, 11, 12, 13, 14, 15, 16, 17, 18, 19, 20, 21, 22, 23, 24, 25, 26, 27, 28, 29, 30, 31, 32, 33, 34, 35, 36, 37, 38, 39, 40, 41, 42, 43, 44, 45, 46, 47, 48, 49, 50, 51, 52, 53, 54, 55, 6, 56, 65, 66, 67, 68, 69, 70, 71, 72, 73, 74, 75, 76, 77] (by decide +kernel) (by decide +kernel)
set_option maxRecDepth 20000 in
theorem gX5_blockOf_X5_drawn : GoodIn wsX5_blockOf (wsV RX5 95 RX5 yX5_drawn wsX5_drawn) := goodIn_app (goodIn_of _ (by decide +kernel)) ggX5_blockOf_X5_drawn
set_option maxRecDepth 20000 in
theorem ggX5_blockOf_X0_size : GoodIn wsX5_blockOf wsX0_size := goodIn_r _ [60, 28, 73, 74, 75, 76] (by decide +kernel) (by decide +kernel)
set_option maxRecDepth 20000 in
theorem gX5_blockOf_X0_size : GoodIn wsX5_blockOf (wsV RX5 99 RX0 yX0_size wsX0_size) := goodIn_app (goodIn_of _ (by decide +kernel)) ggX5_blockOf_X0_size
set_option maxRecDepth 20000 in
theorem ggX5_blockOf_X0_blockInPlace : GoodIn wsX5_blockOf wsX0_blockInPlace := goodIn_r _ [64, 30, 73, 74, 75, 76] (by decide +kernel) (by decide +kernel)
set_option maxRecDepth 20000 in
theorem gX5_blockOf_X0_blockInPlace : GoodIn wsX5_blockOf (wsV RX5 104 RX0 yX0_blockInPlace wsX0_blockInPlace) := goodIn_app (goodIn_of _ (by decide +kernel)) ggX5_blockOf_X0_blockInPlace
theorem dX5_blockOf_0 : decode cX5_blockOf 0 = .ok (.aload_n 0, 1) := by decide +kernel
theorem dX5_blockOf_1 : decode cX5_blockOf 1 = .ok (.iload_n 1, 1) := by decide +kernel
theorem dX5_blockOf_2 : decode cX5_blockOf 2 = .ok (.invokevirtual 95, 3) := by decide +kernel
theorem dX5_blockOf_5 : decode cX5_blockOf 5 = .ok (.astore_n 3, 1) := by decide +kernel
theorem dX5_blockOf_6 : decode cX5_blockOf 6 = .ok (.iload_n 2, 1) := by decide +kernel
theorem dX5_blockOf_7 : decode cX5_blockOf 7 = .ok (.ifCond .lt 11, 3) := by decide +kernel
theorem dX5_blockOf_10 : decode cX5_blockOf 10 = .ok (.iload_n 2, 1) := by decide +kernel
theorem dX5_blockOf_11 : decode cX5_blockOf 11 = .ok (.aload_n 3, 1) := by decide +kernel
theorem dX5_blockOf_12 : decode cX5_blockOf 12 = .ok (.invokevirtual 99, 3) := by decide +kernel
theorem dX5_blockOf_15 : decode cX5_blockOf 15 = .ok (.if_icmp .lt 13, 3) := by decide +kernel
theorem dX5_blockOf_18 : decode cX5_blockOf 18 = .ok (.new 77, 3) := by decide +kernel
theorem dX5_blockOf_21 : decode cX5_blockOf 21 = .ok (.dup, 1) := by decide +kernel
theorem dX5_blockOf_22 : decode cX5_blockOf 22 = .ok (.ldc 102, 2) := by decide +kernel
theorem dX5_blockOf_24 : decode cX5_blockOf 24 = .ok (.invokespecial 81, 3) := by decide +kernel
theorem dX5_blockOf_27 : decode cX5_blockOf 27 = .ok (.athrow, 1) := by decide +kernel
theorem dX5_blockOf_28 : decode cX5_blockOf 28 = .ok (.aload_n 3, 1) := by decide +kernel
theorem dX5_blockOf_29 : decode cX5_blockOf 29 = .ok (.iload_n 2, 1) := by decide +kernel
theorem dX5_blockOf_30 : decode cX5_blockOf 30 = .ok (.invokevirtual 104, 3) := by decide +kernel
theorem dX5_blockOf_33 : decode cX5_blockOf 33 = .ok (.ireturn, 1) := by decide +kernel
set_option maxRecDepth 20000 in
theorem ggX5_valueOf_X5_drawn : GoodIn wsX5_valueOf wsX5_drawn := goodIn_r _ [6, 7, 8, 1, 9, 10, 11, 12, 13, 14, 15, 16, 17, 18, 19, 20, 21, 22, 23, 24, 25, 26, 27, 28, 29, 30, 31, 32, 33, 34, 35, 36, 37, 38, 39, 40, 41, 42, 43, 44, 45, 46, 47, 48, 49, 50, 51, 52, 53, 5, 54, 80, 81, 82, 83, 84, 85, 86, 87, 88, 89, 90, 91, 92] (by decide +kernel) (by decide +kernel)
set_option maxRecDepth 20000 in
theorem gX5_valueOf_X5_drawn : GoodIn wsX5_valueOf (wsV RX5 95 RX5 yX5_drawn wsX5_drawn) := goodIn_app (goodIn_of _ (by decide +kernel)) ggX5_valueOf_X5_drawn
set_option maxRecDepth 20000 in
theorem ggX5_valueOf_X0_blockSet : GoodIn wsX5_valueOf wsX0_blockSet := goodIn_r _ [58, 27, 88, 89, 90, 91] (by decide +kernel) (by decide +kernel)
set_option maxRecDepth 20000 in
theorem gX5_valueOf_X0_blockSet : GoodIn wsX5_valueOf (wsV RX5 107 RX0 yX0_blockSet wsX0_blockSet) := goodIn_app (goodIn_of _ (by decide +kernel)) ggX5_valueOf_X0_blockSet
set_option maxRecDepth 20000 in
theorem ggX5_valueOf_X3_valueOfSet : GoodIn wsX5_valueOf wsX3_valueOfSet := goodIn_r _ [62, 14, 63, 64, 65, 12, 66, 67, 68, 5, 69, 70, 53, 54, 71, 10, 11, 13, 15, 72, 73, 74, 75, 76, 77, 78, 79, 85, 86, 87] (by decide +kernel) (by decide +kernel)
set_option maxRecDepth 20000 in
theorem gX5_valueOf_X3_valueOfSet : GoodIn wsX5_valueOf (wsV RX5 111 RX3 yX3_valueOfSet wsX3_valueOfSet) := goodIn_app (goodIn_of _ (by decide +kernel)) ggX5_valueOf_X3_valueOfSet
theorem dX5_valueOf_0 : decode cX5_valueOf 0 = .ok (.aload_n 0, 1) := by decide +kernel
theorem dX5_valueOf_1 : decode cX5_valueOf 1 = .ok (.getfield 19, 3) := by decide +kernel
theorem dX5_valueOf_4 : decode cX5_valueOf 4 = .ok (.aload_n 0, 1) := by decide +kernel
theorem dX5_valueOf_5 : decode cX5_valueOf 5 = .ok (.iload_n 1, 1) := by decide +kernel
theorem dX5_valueOf_6 : decode cX5_valueOf 6 = .ok (.invokevirtual 95, 3) := by decide +kernel
theorem dX5_valueOf_9 : decode cX5_valueOf 9 = .ok (.invokevirtual 107, 3) := by decide +kernel
theorem dX5_valueOf_12 : decode cX5_valueOf 12 = .ok (.invokevirtual 111, 3) := by decide +kernel
theorem dX5_valueOf_15 : decode cX5_valueOf 15 = .ok (.ireturn, 1) := by decide +kernel
set_option maxRecDepth 20000 in
theorem ggX5_receive_X5_drawn : GoodIn wsX5_receive wsX5_drawn := goodIn_r _ [7, 8, 9, 10, 11, 12, 13, 14, 15, 16, 17, 18, 19, 20, 21, 22, 23, 24, 25, 26, 27, 28, 29, 30, 31, 32, 33, 34, 35, 36, 37, 38, 39, 40, 41, 42, 43, 44, 45, 46, 47, 48, 49, 50, 51, 52, 53, 54, 55, 6, 56, 140, 141, 142, 143, 144, 145, 146, 147, 148, 149, 150, 151, 152] (by decide +kernel) (by decide +kernel)
set_option maxRecDepth 20000 in
theorem gX5_receive_X5_drawn : GoodIn wsX5_receive (wsV RX5 95 RX5 yX5_drawn wsX5_drawn) := goodIn_app (goodIn_of _ (by decide +kernel)) ggX5_receive_X5_drawn
set_option maxRecDepth 20000 in
theorem ggX5_receive_X0_blockSet : GoodIn wsX5_receive wsX0_blockSet := goodIn_r _ [60, 29, 148, 149, 150, 151] (by decide +kernel) (by decide +kernel)
set_option maxRecDepth 20000 in
theorem gX5_receive_X0_blockSet : GoodIn wsX5_receive (wsV RX5 107 RX0 yX0_blockSet wsX0_blockSet) := goodIn_app (goodIn_of _ (by decide +kernel)) ggX5_receive_X0_blockSet
set_option maxRecDepth 20000 in
theorem ggX5_receive_X5_canTake : GoodIn wsX5_receive wsX5_canTake := goodIn_r _ [64, 65, 10, 66, 67, 68, 69, 70, 71, 72, 73, 74, 75, 14, 76, 17, 77, 78, 79, 80, 81, 82, 83, 84, 85, 86, 87, 6, 88, 89, 55, 56, 90, 91, 92, 93, 94, 140, 141, 142, 143, 144, 153, 154, 155, 156, 157, 158, 145, 146, 147, 159, 160, 161] (by decide +kernel) (by decide +kernel)
set_option maxRecDepth 20000 in
theorem gX5_receive_X5_canTake : GoodIn wsX5_receive (wsV RX5 115 RX5 yX5_canTake wsX5_canTake) := goodIn_app (goodIn_of _ (by decide +kernel)) ggX5_receive_X5_canTake
set_option maxRecDepth 20000 in
theorem ggX5_receive_X5_take : GoodIn wsX5_receive wsX5_take := goodIn_r _ [98, 65, 99, 100, 101, 6, 102, 66, 103, 104, 105, 70, 106, 72, 107, 108, 109, 110, 80, 111, 86, 94, 112, 82, 83, 84, 85, 87, 88, 89, 55, 56, 113, 114, 115, 116, 117, 118, 119, 120, 121, 90, 91, 92, 93, 122, 123, 124, 125, 126, 127, 128, 129, 130, 131, 132, 133, 134, 135, 136, 137, 138, 139, 140, 141, 142, 143, 144, 153, 154, 155, 156, 157, 158, 159, 160, 161] (by decide +kernel) (by decide +kernel)
set_option maxRecDepth 20000 in
theorem gX5_receive_X5_take : GoodIn wsX5_receive (wsV RX5 121 RX5 yX5_take wsX5_take) := goodIn_app (goodIn_of _ (by decide +kernel)) ggX5_receive_X5_take
theorem dX5_receive_0 : decode cX5_receive 0 = .ok (.aload_n 0, 1) := by decide +kernel
theorem dX5_receive_1 : decode cX5_receive 1 = .ok (.iload_n 1, 1) := by decide +kernel
theorem dX5_receive_2 : decode cX5_receive 2 = .ok (.invokevirtual 95, 3) := by decide +kernel
theorem dX5_receive_5 : decode cX5_receive 5 = .ok (.invokevirtual 107, 3) := by decide +kernel
theorem dX5_receive_8 : decode cX5_receive 8 = .ok (.lstore_n 3, 1) := by decide +kernel
theorem dX5_receive_9 : decode cX5_receive 9 = .ok (.aload_n 0, 1) := by decide +kernel
theorem dX5_receive_10 : decode cX5_receive 10 = .ok (.lload_n 3, 1) := by decide +kernel
theorem dX5_receive_11 : decode cX5_receive 11 = .ok (.iload_n 2, 1) := by decide +kernel
theorem dX5_receive_12 : decode cX5_receive 12 = .ok (.invokevirtual 115, 3) := by decide +kernel
theorem dX5_receive_15 : decode cX5_receive 15 = .ok (.ifCond .ne 13, 3) := by decide +kernel
theorem dX5_receive_18 : decode cX5_receive 18 = .ok (.new 65, 3) := by decide +kernel
theorem dX5_receive_21 : decode cX5_receive 21 = .ok (.dup, 1) := by decide +kernel
theorem dX5_receive_22 : decode cX5_receive 22 = .ok (.ldc 119, 2) := by decide +kernel
theorem dX5_receive_24 : decode cX5_receive 24 = .ok (.invokespecial 69, 3) := by decide +kernel
theorem dX5_receive_27 : decode cX5_receive 27 = .ok (.athrow, 1) := by decide +kernel
theorem dX5_receive_28 : decode cX5_receive 28 = .ok (.aload_n 0, 1) := by decide +kernel
theorem dX5_receive_29 : decode cX5_receive 29 = .ok (.lload_n 3, 1) := by decide +kernel
theorem dX5_receive_30 : decode cX5_receive 30 = .ok (.iload_n 2, 1) := by decide +kernel
theorem dX5_receive_31 : decode cX5_receive 31 = .ok (.invokevirtual 121, 3) := by decide +kernel
theorem dX5_receive_34 : decode cX5_receive 34 = .ok (.ireturn, 1) := by decide +kernel
set_option maxRecDepth 20000 in
theorem ggX5_receiveAll_X5_drawn : GoodIn wsX5_receiveAll wsX5_drawn := goodIn_r _ [8, 9, 10, 3, 11, 12, 13, 14, 15, 16, 17, 18, 19, 20, 21, 22, 23, 24, 25, 26, 27, 28, 29, 30, 31, 32, 33, 34, 35, 36, 37, 38, 39, 40, 41, 42, 43, 44, 45, 46, 47, 48, 49, 50, 51, 52, 53, 54, 55, 7, 56, 158, 159, 160, 161, 162, 163, 164, 165, 166, 167, 168, 169, 170] (by decide +kernel) (by decide +kernel)
set_option maxRecDepth 20000 in
theorem gX5_receiveAll_X5_drawn : GoodIn wsX5_receiveAll (wsV RX5 95 RX5 yX5_drawn wsX5_drawn) := goodIn_app (goodIn_of _ (by decide +kernel)) ggX5_receiveAll_X5_drawn
set_option maxRecDepth 20000 in
theorem ggX5_receiveAll_X0_blockSet : GoodIn wsX5_receiveAll wsX0_blockSet := goodIn_r _ [60, 29, 166, 167, 168, 169] (by decide +kernel) (by decide +kernel)
set_option maxRecDepth 20000 in
theorem gX5_receiveAll_X0_blockSet : GoodIn wsX5_receiveAll (wsV RX5 107 RX0 yX0_blockSet wsX0_blockSet) := goodIn_app (goodIn_of _ (by decide +kernel)) ggX5_receiveAll_X0_blockSet
set_option maxRecDepth 20000 in
theorem ggX5_receiveAll_X3_valueOfSet : GoodIn wsX5_receiveAll wsX3_valueOfSet := goodIn_r _ [64, 16, 65, 66, 67, 14, 68, 69, 70, 7, 71, 72, 55, 56, 73, 12, 13, 15, 17, 74, 75, 76, 77, 78, 79, 80, 81, 163, 164, 165] (by decide +kernel) (by decide +kernel)
set_option maxRecDepth 20000 in
theorem gX5_receiveAll_X3_valueOfSet : GoodIn wsX5_receiveAll (wsV RX5 111 RX3 yX3_valueOfSet wsX3_valueOfSet) := goodIn_app (goodIn_of _ (by decide +kernel)) ggX5_receiveAll_X3_valueOfSet
set_option maxRecDepth 20000 in
theorem ggX5_receiveAll_X5_canTake : GoodIn wsX5_receiveAll wsX5_canTake := goodIn_r _ [85, 86, 3, 87, 88, 89, 90, 91, 92, 93, 94, 95, 96, 14, 97, 17, 98, 99, 100, 101, 102, 103, 104, 105, 106, 107, 70, 7, 71, 72, 55, 56, 108, 109, 110, 111, 112, 158, 159, 160, 161, 162, 171, 172, 173, 174, 175, 176, 163, 164, 165, 177, 178, 179] (by decide +kernel) (by decide +kernel)
set_option maxRecDepth 20000 in
theorem gX5_receiveAll_X5_canTake : GoodIn wsX5_receiveAll (wsV RX5 115 RX5 yX5_canTake wsX5_canTake) := goodIn_app (goodIn_of _ (by decide +kernel)) ggX5_receiveAll_X5_canTake
set_option maxRecDepth 20000 in
theorem ggX5_receiveAll_X5_take : GoodIn wsX5_receiveAll wsX5_take := goodIn_r _ [116, 86, 117, 118, 119, 7, 120, 87, 121, 122, 123, 91, 124, 93, 125, 126, 127, 128, 101, 129, 107, 112, 130, 103, 104, 105, 106, 70, 71, 72, 55, 56, 131, 132, 133, 134, 135, 136, 137, 138, 139, 108, 109, 110, 111, 140, 141, 142, 143, 144, 145, 146, 147, 148, 149, 150, 151, 152, 153, 154, 155, 156, 157, 158, 159, 160, 161, 162, 171, 172, 173, 174, 175, 176, 177, 178, 179] (by decide +kernel) (by decide +kernel)
set_option maxRecDepth 20000 in
theorem gX5_receiveAll_X5_take : GoodIn wsX5_receiveAll (wsV RX5 121 RX5 yX5_take wsX5_take) := goodIn_app (goodIn_of _ (by decide +kernel)) ggX5_receiveAll_X5_take
theorem dX5_receiveAll_0 : decode cX5_receiveAll 0 = .ok (.iload_n 2, 1) := by decide +kernel
theorem dX5_receiveAll_1 : decode cX5_receiveAll 1 = .ok (.iconst 1, 1) := by decide +kernel
theorem dX5_receiveAll_2 : decode cX5_receiveAll 2 = .ok (.if_icmp .lt 9, 3) := by decide +kernel
theorem dX5_receiveAll_5 : decode cX5_receiveAll 5 = .ok (.iload_n 2, 1) := by decide +kernel
theorem dX5_receiveAll_6 : decode cX5_receiveAll 6 = .ok (.bipush 40, 2) := by decide +kernel
theorem dX5_receiveAll_8 : decode cX5_receiveAll 8 = .ok (.if_icmp .le 13, 3) := by decide +kernel
theorem dX5_receiveAll_11 : decode cX5_receiveAll 11 = .ok (.new 48, 3) := by decide +kernel
theorem dX5_receiveAll_14 : decode cX5_receiveAll 14 = .ok (.dup, 1) := by decide +kernel
theorem dX5_receiveAll_15 : decode cX5_receiveAll 15 = .ok (.ldc 125, 2) := by decide +kernel
theorem dX5_receiveAll_17 : decode cX5_receiveAll 17 = .ok (.invokespecial 52, 3) := by decide +kernel
theorem dX5_receiveAll_20 : decode cX5_receiveAll 20 = .ok (.athrow, 1) := by decide +kernel
theorem dX5_receiveAll_21 : decode cX5_receiveAll 21 = .ok (.iconst 0, 1) := by decide +kernel
theorem dX5_receiveAll_22 : decode cX5_receiveAll 22 = .ok (.istore_n 3, 1) := by decide +kernel
theorem dX5_receiveAll_23 : decode cX5_receiveAll 23 = .ok (.iload_n 3, 1) := by decide +kernel
theorem dX5_receiveAll_24 : decode cX5_receiveAll 24 = .ok (.iload_n 2, 1) := by decide +kernel
theorem dX5_receiveAll_25 : decode cX5_receiveAll 25 = .ok (.if_icmp .ge 54, 3) := by decide +kernel
theorem dX5_receiveAll_28 : decode cX5_receiveAll 28 = .ok (.aload_n 0, 1) := by decide +kernel
theorem dX5_receiveAll_29 : decode cX5_receiveAll 29 = .ok (.iload_n 1, 1) := by decide +kernel
theorem dX5_receiveAll_30 : decode cX5_receiveAll 30 = .ok (.iload_n 3, 1) := by decide +kernel
theorem dX5_receiveAll_31 : decode cX5_receiveAll 31 = .ok (.iadd, 1) := by decide +kernel
theorem dX5_receiveAll_32 : decode cX5_receiveAll 32 = .ok (.invokevirtual 95, 3) := by decide +kernel
theorem dX5_receiveAll_35 : decode cX5_receiveAll 35 = .ok (.invokevirtual 107, 3) := by decide +kernel
theorem dX5_receiveAll_38 : decode cX5_receiveAll 38 = .ok (.lstore 4, 2) := by decide +kernel
theorem dX5_receiveAll_40 : decode cX5_receiveAll 40 = .ok (.aload_n 0, 1) := by decide +kernel
theorem dX5_receiveAll_41 : decode cX5_receiveAll 41 = .ok (.getfield 19, 3) := by decide +kernel
theorem dX5_receiveAll_44 : decode cX5_receiveAll 44 = .ok (.lload 4, 2) := by decide +kernel
theorem dX5_receiveAll_46 : decode cX5_receiveAll 46 = .ok (.invokevirtual 111, 3) := by decide +kernel
theorem dX5_receiveAll_49 : decode cX5_receiveAll 49 = .ok (.istore 6, 2) := by decide +kernel
theorem dX5_receiveAll_51 : decode cX5_receiveAll 51 = .ok (.aload_n 0, 1) := by decide +kernel
theorem dX5_receiveAll_52 : decode cX5_receiveAll 52 = .ok (.lload 4, 2) := by decide +kernel
theorem dX5_receiveAll_54 : decode cX5_receiveAll 54 = .ok (.iload 6, 2) := by decide +kernel
theorem dX5_receiveAll_56 : decode cX5_receiveAll 56 = .ok (.invokevirtual 115, 3) := by decide +kernel
theorem dX5_receiveAll_59 : decode cX5_receiveAll 59 = .ok (.ifCond .ne 5, 3) := by decide +kernel
theorem dX5_receiveAll_62 : decode cX5_receiveAll 62 = .ok (.iload_n 3, 1) := by decide +kernel
theorem dX5_receiveAll_63 : decode cX5_receiveAll 63 = .ok (.ireturn, 1) := by decide +kernel
theorem dX5_receiveAll_64 : decode cX5_receiveAll 64 = .ok (.aload_n 0, 1) := by decide +kernel
theorem dX5_receiveAll_65 : decode cX5_receiveAll 65 = .ok (.lload 4, 2) := by decide +kernel
theorem dX5_receiveAll_67 : decode cX5_receiveAll 67 = .ok (.iload 6, 2) := by decide +kernel
theorem dX5_receiveAll_69 : decode cX5_receiveAll 69 = .ok (.invokevirtual 121, 3) := by decide +kernel
theorem dX5_receiveAll_72 : decode cX5_receiveAll 72 = .ok (.pop, 1) := by decide +kernel
theorem dX5_receiveAll_73 : decode cX5_receiveAll 73 = .ok (.iinc 3 1, 3) := by decide +kernel
theorem dX5_receiveAll_76 : decode cX5_receiveAll 76 = .ok (.goto (-53), 3) := by decide +kernel
theorem dX5_receiveAll_79 : decode cX5_receiveAll 79 = .ok (.iload_n 2, 1) := by decide +kernel
theorem dX5_receiveAll_80 : decode cX5_receiveAll 80 = .ok (.ireturn, 1) := by decide +kernel
set_option maxRecDepth 20000 in
theorem ggX5_equations_X2_equationCount : GoodIn wsX5_equations wsX2_equationCount := goodIn_r _ [6, 7, 13, 14, 15, 16, 17, 18] (by decide +kernel) (by decide +kernel)
set_option maxRecDepth 20000 in
theorem gX5_equations_X2_equationCount : GoodIn wsX5_equations (wsV RX5 127 RX2 yX2_equationCount wsX2_equationCount) := goodIn_app (goodIn_of _ (by decide +kernel)) ggX5_equations_X2_equationCount
theorem dX5_equations_0 : decode cX5_equations 0 = .ok (.aload_n 0, 1) := by decide +kernel
theorem dX5_equations_1 : decode cX5_equations 1 = .ok (.getfield 26, 3) := by decide +kernel
theorem dX5_equations_4 : decode cX5_equations 4 = .ok (.invokevirtual 127, 3) := by decide +kernel
theorem dX5_equations_7 : decode cX5_equations 7 = .ok (.ireturn, 1) := by decide +kernel
set_option maxRecDepth 20000 in
theorem ggX5_rank_X1_rowCount : GoodIn wsX5_rank wsX1_rowCount := goodIn_r _ [6, 7, 13, 14, 15] (by decide +kernel) (by decide +kernel)
set_option maxRecDepth 20000 in
theorem gX5_rank_X1_rowCount : GoodIn wsX5_rank (wsV RX5 130 RX1 yX1_rowCount wsX1_rowCount) := goodIn_app (goodIn_of _ (by decide +kernel)) ggX5_rank_X1_rowCount
theorem dX5_rank_0 : decode cX5_rank 0 = .ok (.aload_n 0, 1) := by decide +kernel
theorem dX5_rank_1 : decode cX5_rank 1 = .ok (.getfield 33, 3) := by decide +kernel
theorem dX5_rank_4 : decode cX5_rank 4 = .ok (.invokevirtual 130, 3) := by decide +kernel
theorem dX5_rank_7 : decode cX5_rank 7 = .ok (.ireturn, 1) := by decide +kernel
set_option maxRecDepth 20000 in
theorem ggX5_peeled_X2_peeledCount : GoodIn wsX5_peeled wsX2_peeledCount := goodIn_r _ [6, 7, 13, 14, 15, 16, 17, 18] (by decide +kernel) (by decide +kernel)
set_option maxRecDepth 20000 in
theorem gX5_peeled_X2_peeledCount : GoodIn wsX5_peeled (wsV RX5 133 RX2 yX2_peeledCount wsX2_peeledCount) := goodIn_app (goodIn_of _ (by decide +kernel)) ggX5_peeled_X2_peeledCount
theorem dX5_peeled_0 : decode cX5_peeled 0 = .ok (.aload_n 0, 1) := by decide +kernel
theorem dX5_peeled_1 : decode cX5_peeled 1 = .ok (.getfield 26, 3) := by decide +kernel
theorem dX5_peeled_4 : decode cX5_peeled 4 = .ok (.invokevirtual 133, 3) := by decide +kernel
theorem dX5_peeled_7 : decode cX5_peeled 7 = .ok (.ireturn, 1) := by decide +kernel
set_option maxRecDepth 20000 in
theorem ggX5_peeledAt_X2_peeledCount : GoodIn wsX5_peeledAt wsX2_peeledCount := goodIn_r _ [8, 9, 20, 21, 22, 23, 24, 25] (by decide +kernel) (by decide +kernel)
set_option maxRecDepth 20000 in
theorem gX5_peeledAt_X2_peeledCount : GoodIn wsX5_peeledAt (wsV RX5 133 RX2 yX2_peeledCount wsX2_peeledCount) := goodIn_app (goodIn_of _ (by decide +kernel)) ggX5_peeledAt_X2_peeledCount
set_option maxRecDepth 20000 in
theorem ggX5_peeledAt_X2_peeledInPlace : GoodIn wsX5_peeledAt wsX2_peeledInPlace := goodIn_r _ [13, 14, 20, 21, 22, 23, 24, 25] (by decide +kernel) (by decide +kernel)
set_option maxRecDepth 20000 in
theorem gX5_peeledAt_X2_peeledInPlace : GoodIn wsX5_peeledAt (wsV RX5 136 RX2 yX2_peeledInPlace wsX2_peeledInPlace) := goodIn_app (goodIn_of _ (by decide +kernel)) ggX5_peeledAt_X2_peeledInPlace
theorem dX5_peeledAt_0 : decode cX5_peeledAt 0 = .ok (.iload_n 1, 1) := by decide +kernel
theorem dX5_peeledAt_1 : decode cX5_peeledAt 1 = .ok (.ifCond .lt 14, 3) := by decide +kernel
theorem dX5_peeledAt_4 : decode cX5_peeledAt 4 = .ok (.iload_n 1, 1) := by decide +kernel
theorem dX5_peeledAt_5 : decode cX5_peeledAt 5 = .ok (.aload_n 0, 1) := by decide +kernel
theorem dX5_peeledAt_6 : decode cX5_peeledAt 6 = .ok (.getfield 26, 3) := by decide +kernel
theorem dX5_peeledAt_9 : decode cX5_peeledAt 9 = .ok (.invokevirtual 133, 3) := by decide +kernel
theorem dX5_peeledAt_12 : decode cX5_peeledAt 12 = .ok (.if_icmp .lt 13, 3) := by decide +kernel
theorem dX5_peeledAt_15 : decode cX5_peeledAt 15 = .ok (.new 77, 3) := by decide +kernel
theorem dX5_peeledAt_18 : decode cX5_peeledAt 18 = .ok (.dup, 1) := by decide +kernel
theorem dX5_peeledAt_19 : decode cX5_peeledAt 19 = .ok (.ldc 102, 2) := by decide +kernel
theorem dX5_peeledAt_21 : decode cX5_peeledAt 21 = .ok (.invokespecial 81, 3) := by decide +kernel
theorem dX5_peeledAt_24 : decode cX5_peeledAt 24 = .ok (.athrow, 1) := by decide +kernel
theorem dX5_peeledAt_25 : decode cX5_peeledAt 25 = .ok (.aload_n 0, 1) := by decide +kernel
theorem dX5_peeledAt_26 : decode cX5_peeledAt 26 = .ok (.getfield 26, 3) := by decide +kernel
theorem dX5_peeledAt_29 : decode cX5_peeledAt 29 = .ok (.iload_n 1, 1) := by decide +kernel
theorem dX5_peeledAt_30 : decode cX5_peeledAt 30 = .ok (.invokevirtual 136, 3) := by decide +kernel
theorem dX5_peeledAt_33 : decode cX5_peeledAt 33 = .ok (.ireturn, 1) := by decide +kernel
set_option maxRecDepth 20000 in
theorem ggX5_peeledBy_X5_isBlock : GoodIn wsX5_peeledBy wsX5_isBlock := goodIn_r _ [8, 9, 10, 11, 12, 13, 14, 15, 16, 23, 24, 25, 26, 27, 28, 29, 30] (by decide +kernel) (by decide +kernel)
set_option maxRecDepth 20000 in
theorem gX5_peeledBy_X5_isBlock : GoodIn wsX5_peeledBy (wsV RX5 89 RX5 yX5_isBlock wsX5_isBlock) := goodIn_app (goodIn_of _ (by decide +kernel)) ggX5_peeledBy_X5_isBlock
set_option maxRecDepth 20000 in
theorem ggX5_peeledBy_X2_equationThatPeeled : GoodIn wsX5_peeledBy wsX2_equationThatPeeled := goodIn_r _ [21, 22, 31, 32, 33, 34, 35, 36] (by decide +kernel) (by decide +kernel)
set_option maxRecDepth 20000 in
theorem gX5_peeledBy_X2_equationThatPeeled : GoodIn wsX5_peeledBy (wsV RX5 139 RX2 yX2_equationThatPeeled wsX2_equationThatPeeled) := goodIn_app (goodIn_of _ (by decide +kernel)) ggX5_peeledBy_X2_equationThatPeeled
theorem dX5_peeledBy_0 : decode cX5_peeledBy 0 = .ok (.aload_n 0, 1) := by decide +kernel
theorem dX5_peeledBy_1 : decode cX5_peeledBy 1 = .ok (.iload_n 1, 1) := by decide +kernel
theorem dX5_peeledBy_2 : decode cX5_peeledBy 2 = .ok (.invokevirtual 89, 3) := by decide +kernel
theorem dX5_peeledBy_5 : decode cX5_peeledBy 5 = .ok (.ifCond .ne 13, 3) := by decide +kernel
theorem dX5_peeledBy_8 : decode cX5_peeledBy 8 = .ok (.new 77, 3) := by decide +kernel
theorem dX5_peeledBy_11 : decode cX5_peeledBy 11 = .ok (.dup, 1) := by decide +kernel
theorem dX5_peeledBy_12 : decode cX5_peeledBy 12 = .ok (.ldc 93, 2) := by decide +kernel
theorem dX5_peeledBy_14 : decode cX5_peeledBy 14 = .ok (.invokespecial 81, 3) := by decide +kernel
theorem dX5_peeledBy_17 : decode cX5_peeledBy 17 = .ok (.athrow, 1) := by decide +kernel
theorem dX5_peeledBy_18 : decode cX5_peeledBy 18 = .ok (.aload_n 0, 1) := by decide +kernel
theorem dX5_peeledBy_19 : decode cX5_peeledBy 19 = .ok (.getfield 26, 3) := by decide +kernel
theorem dX5_peeledBy_22 : decode cX5_peeledBy 22 = .ok (.iload_n 1, 1) := by decide +kernel
theorem dX5_peeledBy_23 : decode cX5_peeledBy 23 = .ok (.invokevirtual 139, 3) := by decide +kernel
theorem dX5_peeledBy_26 : decode cX5_peeledBy 26 = .ok (.ireturn, 1) := by decide +kernel
set_option maxRecDepth 20000 in
theorem ggX5_determined_X3_blockCount : GoodIn wsX5_determined wsX3_blockCount := goodIn_r _ [7, 8, 9, 28, 29, 30] (by decide +kernel) (by decide +kernel)
set_option maxRecDepth 20000 in
theorem gX5_determined_X3_blockCount : GoodIn wsX5_determined (wsV RX5 86 RX3 yX3_blockCount wsX3_blockCount) := goodIn_app (goodIn_of _ (by decide +kernel)) ggX5_determined_X3_blockCount
set_option maxRecDepth 20000 in
theorem ggX5_determined_X1_countLeaving : GoodIn wsX5_determined wsX1_countLeaving := goodIn_r _ [14, 15, 16, 17, 13, 18, 19, 20, 21, 22, 31, 32, 33] (by decide +kernel) (by decide +kernel)
set_option maxRecDepth 20000 in
theorem gX5_determined_X1_countLeaving : GoodIn wsX5_determined (wsV RX5 142 RX1 yX1_countLeaving wsX1_countLeaving) := goodIn_app (goodIn_of _ (by decide +kernel)) ggX5_determined_X1_countLeaving
theorem dX5_determined_0 : decode cX5_determined 0 = .ok (.aload_n 0, 1) := by decide +kernel
theorem dX5_determined_1 : decode cX5_determined 1 = .ok (.getfield 33, 3) := by decide +kernel
theorem dX5_determined_4 : decode cX5_determined 4 = .ok (.lconst 0, 1) := by decide +kernel
theorem dX5_determined_5 : decode cX5_determined 5 = .ok (.aload_n 0, 1) := by decide +kernel
theorem dX5_determined_6 : decode cX5_determined 6 = .ok (.getfield 19, 3) := by decide +kernel
theorem dX5_determined_9 : decode cX5_determined 9 = .ok (.invokevirtual 86, 3) := by decide +kernel
theorem dX5_determined_12 : decode cX5_determined 12 = .ok (.invokevirtual 142, 3) := by decide +kernel
theorem dX5_determined_15 : decode cX5_determined 15 = .ok (.ireturn, 1) := by decide +kernel
set_option maxRecDepth 20000 in
theorem ggX5_isDetermined_X5_isBlock : GoodIn wsX5_isDetermined wsX5_isBlock := goodIn_r _ [8, 9, 10, 11, 12, 13, 14, 15, 16, 29, 30, 31, 32, 33, 34, 35, 36] (by decide +kernel) (by decide +kernel)
set_option maxRecDepth 20000 in
theorem gX5_isDetermined_X5_isBlock : GoodIn wsX5_isDetermined (wsV RX5 89 RX5 yX5_isBlock wsX5_isBlock) := goodIn_app (goodIn_of _ (by decide +kernel)) ggX5_isDetermined_X5_isBlock
set_option maxRecDepth 20000 in
theorem ggX5_isDetermined_X1_fixes : GoodIn wsX5_isDetermined wsX1_fixes := goodIn_r _ [21, 22, 23, 24, 20, 25, 26, 27, 7, 28, 37, 38, 39] (by decide +kernel) (by decide +kernel)
set_option maxRecDepth 20000 in
theorem gX5_isDetermined_X1_fixes : GoodIn wsX5_isDetermined (wsV RX5 145 RX1 yX1_fixes wsX1_fixes) := goodIn_app (goodIn_of _ (by decide +kernel)) ggX5_isDetermined_X1_fixes
theorem dX5_isDetermined_0 : decode cX5_isDetermined 0 = .ok (.aload_n 0, 1) := by decide +kernel
theorem dX5_isDetermined_1 : decode cX5_isDetermined 1 = .ok (.iload_n 1, 1) := by decide +kernel
theorem dX5_isDetermined_2 : decode cX5_isDetermined 2 = .ok (.invokevirtual 89, 3) := by decide +kernel
theorem dX5_isDetermined_5 : decode cX5_isDetermined 5 = .ok (.ifCond .ne 13, 3) := by decide +kernel
theorem dX5_isDetermined_8 : decode cX5_isDetermined 8 = .ok (.new 77, 3) := by decide +kernel
theorem dX5_isDetermined_11 : decode cX5_isDetermined 11 = .ok (.dup, 1) := by decide +kernel
theorem dX5_isDetermined_12 : decode cX5_isDetermined 12 = .ok (.ldc 93, 2) := by decide +kernel
theorem dX5_isDetermined_14 : decode cX5_isDetermined 14 = .ok (.invokespecial 81, 3) := by decide +kernel
theorem dX5_isDetermined_17 : decode cX5_isDetermined 17 = .ok (.athrow, 1) := by decide +kernel
theorem dX5_isDetermined_18 : decode cX5_isDetermined 18 = .ok (.aload_n 0, 1) := by decide +kernel
theorem dX5_isDetermined_19 : decode cX5_isDetermined 19 = .ok (.getfield 33, 3) := by decide +kernel
theorem dX5_isDetermined_22 : decode cX5_isDetermined 22 = .ok (.iload_n 1, 1) := by decide +kernel
theorem dX5_isDetermined_23 : decode cX5_isDetermined 23 = .ok (.invokevirtual 145, 3) := by decide +kernel
theorem dX5_isDetermined_26 : decode cX5_isDetermined 26 = .ok (.ireturn, 1) := by decide +kernel
set_option maxRecDepth 20000 in
theorem ggX5_recovered_X5_isBlock : GoodIn wsX5_recovered wsX5_isBlock := goodIn_r _ [10, 11, 12, 13, 14, 15, 16, 17, 18, 39, 40, 41, 42, 43, 44, 45, 46] (by decide +kernel) (by decide +kernel)
set_option maxRecDepth 20000 in
theorem gX5_recovered_X5_isBlock : GoodIn wsX5_recovered (wsV RX5 89 RX5 yX5_isBlock wsX5_isBlock) := goodIn_app (goodIn_of _ (by decide +kernel)) ggX5_recovered_X5_isBlock
set_option maxRecDepth 20000 in
theorem ggX5_recovered_X1_fixes : GoodIn wsX5_recovered wsX1_fixes := goodIn_r _ [23, 24, 25, 26, 22, 27, 28, 29, 9, 30, 47, 48, 49] (by decide +kernel) (by decide +kernel)
set_option maxRecDepth 20000 in
theorem gX5_recovered_X1_fixes : GoodIn wsX5_recovered (wsV RX5 145 RX1 yX1_fixes wsX1_fixes) := goodIn_app (goodIn_of _ (by decide +kernel)) ggX5_recovered_X1_fixes
set_option maxRecDepth 20000 in
theorem ggX5_recovered_X5_setOf : GoodIn wsX5_recovered wsX5_setOf := goodIn_r _ [30] (by decide +kernel) (by decide +kernel)
set_option maxRecDepth 20000 in
theorem gX5_recovered_X5_setOf : GoodIn wsX5_recovered (va_wsS RX5 150 yX5_setOf wsX5_setOf) := goodIn_app (goodIn_of _ (by decide +kernel)) ggX5_recovered_X5_setOf
set_option maxRecDepth 20000 in
theorem ggX5_recovered_X1_knownValue : GoodIn wsX5_recovered wsX1_knownValue := goodIn_r _ [35, 36, 37, 9, 38, 31, 29, 30, 47, 48, 49] (by decide +kernel) (by decide +kernel)
set_option maxRecDepth 20000 in
theorem gX5_recovered_X1_knownValue : GoodIn wsX5_recovered (wsV RX5 154 RX1 yX1_knownValue wsX1_knownValue) := goodIn_app (goodIn_of _ (by decide +kernel)) ggX5_recovered_X1_knownValue
theorem dX5_recovered_0 : decode cX5_recovered 0 = .ok (.aload_n 0, 1) := by decide +kernel
theorem dX5_recovered_1 : decode cX5_recovered 1 = .ok (.iload_n 1, 1) := by decide +kernel
theorem dX5_recovered_2 : decode cX5_recovered 2 = .ok (.invokevirtual 89, 3) := by decide +kernel
theorem dX5_recovered_5 : decode cX5_recovered 5 = .ok (.ifCond .ne 13, 3) := by decide +kernel
theorem dX5_recovered_8 : decode cX5_recovered 8 = .ok (.new 77, 3) := by decide +kernel
theorem dX5_recovered_11 : decode cX5_recovered 11 = .ok (.dup, 1) := by decide +kernel
theorem dX5_recovered_12 : decode cX5_recovered 12 = .ok (.ldc 93, 2) := by decide +kernel
theorem dX5_recovered_14 : decode cX5_recovered 14 = .ok (.invokespecial 81, 3) := by decide +kernel
theorem dX5_recovered_17 : decode cX5_recovered 17 = .ok (.athrow, 1) := by decide +kernel
theorem dX5_recovered_18 : decode cX5_recovered 18 = .ok (.aload_n 0, 1) := by decide +kernel
theorem dX5_recovered_19 : decode cX5_recovered 19 = .ok (.getfield 33, 3) := by decide +kernel
theorem dX5_recovered_22 : decode cX5_recovered 22 = .ok (.iload_n 1, 1) := by decide +kernel
theorem dX5_recovered_23 : decode cX5_recovered 23 = .ok (.invokevirtual 145, 3) := by decide +kernel
theorem dX5_recovered_26 : decode cX5_recovered 26 = .ok (.ifCond .ne 13, 3) := by decide +kernel
theorem dX5_recovered_29 : decode cX5_recovered 29 = .ok (.new 65, 3) := by decide +kernel
theorem dX5_recovered_32 : decode cX5_recovered 32 = .ok (.dup, 1) := by decide +kernel
theorem dX5_recovered_33 : decode cX5_recovered 33 = .ok (.ldc 148, 2) := by decide +kernel
theorem dX5_recovered_35 : decode cX5_recovered 35 = .ok (.invokespecial 69, 3) := by decide +kernel
theorem dX5_recovered_38 : decode cX5_recovered 38 = .ok (.athrow, 1) := by decide +kernel
theorem dX5_recovered_39 : decode cX5_recovered 39 = .ok (.aload_n 0, 1) := by decide +kernel
theorem dX5_recovered_40 : decode cX5_recovered 40 = .ok (.getfield 33, 3) := by decide +kernel
theorem dX5_recovered_43 : decode cX5_recovered 43 = .ok (.iload_n 1, 1) := by decide +kernel
theorem dX5_recovered_44 : decode cX5_recovered 44 = .ok (.invokestatic 150, 3) := by decide +kernel
theorem dX5_recovered_47 : decode cX5_recovered 47 = .ok (.invokevirtual 154, 3) := by decide +kernel
theorem dX5_recovered_50 : decode cX5_recovered 50 = .ok (.ireturn, 1) := by decide +kernel
set_option maxRecDepth 20000 in
theorem ggX5_wouldHelp_X5_drawn : GoodIn wsX5_wouldHelp wsX5_drawn := goodIn_r _ [6, 7, 8, 9, 10, 11, 12, 13, 14, 15, 16, 17, 18, 19, 20, 21, 22, 23, 24, 25, 26, 27, 28, 29, 30, 31, 32, 33, 34, 35, 36, 37, 38, 39, 40, 41, 42, 43, 44, 45, 46, 47, 48, 49, 50, 51, 52, 53, 54, 5, 55, 69, 70, 71, 72, 73, 74, 75, 76, 77, 78, 79, 80, 81] (by decide +kernel) (by decide +kernel)
set_option maxRecDepth 20000 in
theorem gX5_wouldHelp_X5_drawn : GoodIn wsX5_wouldHelp (wsV RX5 95 RX5 yX5_drawn wsX5_drawn) := goodIn_app (goodIn_of _ (by decide +kernel)) ggX5_wouldHelp_X5_drawn
set_option maxRecDepth 20000 in
theorem ggX5_wouldHelp_X0_blockSet : GoodIn wsX5_wouldHelp wsX0_blockSet := goodIn_r _ [59, 28, 77, 78, 79, 80] (by decide +kernel) (by decide +kernel)
set_option maxRecDepth 20000 in
theorem gX5_wouldHelp_X0_blockSet : GoodIn wsX5_wouldHelp (wsV RX5 107 RX0 yX0_blockSet wsX0_blockSet) := goodIn_app (goodIn_of _ (by decide +kernel)) ggX5_wouldHelp_X0_blockSet
set_option maxRecDepth 20000 in
theorem ggX5_wouldHelp_X1_remainder : GoodIn wsX5_wouldHelp wsX1_remainder := goodIn_r _ [64, 65, 66, 5, 67, 68, 54, 55, 82, 83, 84] (by decide +kernel) (by decide +kernel)
set_option maxRecDepth 20000 in
theorem gX5_wouldHelp_X1_remainder : GoodIn wsX5_wouldHelp (wsV RX5 157 RX1 yX1_remainder wsX1_remainder) := goodIn_app (goodIn_of _ (by decide +kernel)) ggX5_wouldHelp_X1_remainder
theorem dX5_wouldHelp_0 : decode cX5_wouldHelp 0 = .ok (.aload_n 0, 1) := by decide +kernel
theorem dX5_wouldHelp_1 : decode cX5_wouldHelp 1 = .ok (.getfield 33, 3) := by decide +kernel
theorem dX5_wouldHelp_4 : decode cX5_wouldHelp 4 = .ok (.aload_n 0, 1) := by decide +kernel
theorem dX5_wouldHelp_5 : decode cX5_wouldHelp 5 = .ok (.iload_n 1, 1) := by decide +kernel
theorem dX5_wouldHelp_6 : decode cX5_wouldHelp 6 = .ok (.invokevirtual 95, 3) := by decide +kernel
theorem dX5_wouldHelp_9 : decode cX5_wouldHelp 9 = .ok (.invokevirtual 107, 3) := by decide +kernel
theorem dX5_wouldHelp_12 : decode cX5_wouldHelp 12 = .ok (.invokevirtual 157, 3) := by decide +kernel
theorem dX5_wouldHelp_15 : decode cX5_wouldHelp 15 = .ok (.lconst 0, 1) := by decide +kernel
theorem dX5_wouldHelp_16 : decode cX5_wouldHelp 16 = .ok (.lcmp, 1) := by decide +kernel
theorem dX5_wouldHelp_17 : decode cX5_wouldHelp 17 = .ok (.ifCond .eq 7, 3) := by decide +kernel
theorem dX5_wouldHelp_20 : decode cX5_wouldHelp 20 = .ok (.iconst 1, 1) := by decide +kernel
theorem dX5_wouldHelp_21 : decode cX5_wouldHelp 21 = .ok (.goto 4, 3) := by decide +kernel
theorem dX5_wouldHelp_24 : decode cX5_wouldHelp 24 = .ok (.iconst 0, 1) := by decide +kernel
theorem dX5_wouldHelp_25 : decode cX5_wouldHelp 25 = .ok (.ireturn, 1) := by decide +kernel
set_option maxRecDepth 20000 in
theorem ggX5_wouldDetermine_X5_drawn : GoodIn wsX5_wouldDetermine wsX5_drawn := goodIn_r _ [7, 8, 9, 2, 10, 11, 12, 13, 14, 15, 16, 17, 18, 19, 20, 21, 22, 23, 24, 25, 26, 27, 28, 29, 30, 31, 32, 33, 34, 35, 36, 37, 38, 39, 40, 41, 42, 43, 44, 45, 46, 47, 48, 49, 50, 51, 52, 53, 54, 6, 55, 77, 78, 79, 80, 81, 82, 83, 84, 85, 86, 87, 88, 89] (by decide +kernel) (by decide +kernel)
set_option maxRecDepth 20000 in
theorem gX5_wouldDetermine_X5_drawn : GoodIn wsX5_wouldDetermine (wsV RX5 95 RX5 yX5_drawn wsX5_drawn) := goodIn_app (goodIn_of _ (by decide +kernel)) ggX5_wouldDetermine_X5_drawn
set_option maxRecDepth 20000 in
theorem ggX5_wouldDetermine_X0_blockSet : GoodIn wsX5_wouldDetermine wsX0_blockSet := goodIn_r _ [59, 28, 85, 86, 87, 88] (by decide +kernel) (by decide +kernel)
set_option maxRecDepth 20000 in
theorem gX5_wouldDetermine_X0_blockSet : GoodIn wsX5_wouldDetermine (wsV RX5 107 RX0 yX0_blockSet wsX0_blockSet) := goodIn_app (goodIn_of _ (by decide +kernel)) ggX5_wouldDetermine_X0_blockSet
set_option maxRecDepth 20000 in
theorem ggX5_wouldDetermine_X1_remainder : GoodIn wsX5_wouldDetermine wsX1_remainder := goodIn_r _ [64, 65, 66, 6, 67, 68, 54, 55, 90, 91, 92] (by decide +kernel) (by decide +kernel)
set_option maxRecDepth 20000 in
theorem gX5_wouldDetermine_X1_remainder : GoodIn wsX5_wouldDetermine (wsV RX5 157 RX1 yX1_remainder wsX1_remainder) := goodIn_app (goodIn_of _ (by decide +kernel)) ggX5_wouldDetermine_X1_remainder
set_option maxRecDepth 20000 in
theorem ggX5_wouldDetermine_X3_blockCount : GoodIn wsX5_wouldDetermine wsX3_blockCount := goodIn_r _ [14, 15, 16, 82, 83, 84] (by decide +kernel) (by decide +kernel)
set_option maxRecDepth 20000 in
theorem gX5_wouldDetermine_X3_blockCount : GoodIn wsX5_wouldDetermine (wsV RX5 86 RX3 yX3_blockCount wsX3_blockCount) := goodIn_app (goodIn_of _ (by decide +kernel)) ggX5_wouldDetermine_X3_blockCount
set_option maxRecDepth 20000 in
theorem ggX5_wouldDetermine_X1_countLeaving : GoodIn wsX5_wouldDetermine wsX1_countLeaving := goodIn_r _ [72, 73, 74, 75, 63, 76, 65, 54, 6, 55, 90, 91, 92] (by decide +kernel) (by decide +kernel)
set_option maxRecDepth 20000 in
theorem gX5_wouldDetermine_X1_countLeaving : GoodIn wsX5_wouldDetermine (wsV RX5 142 RX1 yX1_countLeaving wsX1_countLeaving) := goodIn_app (goodIn_of _ (by decide +kernel)) ggX5_wouldDetermine_X1_countLeaving
theorem dX5_wouldDetermine_0 : decode cX5_wouldDetermine 0 = .ok (.aload_n 0, 1) := by decide +kernel
theorem dX5_wouldDetermine_1 : decode cX5_wouldDetermine 1 = .ok (.getfield 33, 3) := by decide +kernel
theorem dX5_wouldDetermine_4 : decode cX5_wouldDetermine 4 = .ok (.aload_n 0, 1) := by decide +kernel
theorem dX5_wouldDetermine_5 : decode cX5_wouldDetermine 5 = .ok (.iload_n 1, 1) := by decide +kernel
theorem dX5_wouldDetermine_6 : decode cX5_wouldDetermine 6 = .ok (.invokevirtual 95, 3) := by decide +kernel
theorem dX5_wouldDetermine_9 : decode cX5_wouldDetermine 9 = .ok (.invokevirtual 107, 3) := by decide +kernel
theorem dX5_wouldDetermine_12 : decode cX5_wouldDetermine 12 = .ok (.invokevirtual 157, 3) := by decide +kernel
theorem dX5_wouldDetermine_15 : decode cX5_wouldDetermine 15 = .ok (.lstore_n 2, 1) := by decide +kernel
theorem dX5_wouldDetermine_16 : decode cX5_wouldDetermine 16 = .ok (.lload_n 2, 1) := by decide +kernel
theorem dX5_wouldDetermine_17 : decode cX5_wouldDetermine 17 = .ok (.lconst 0, 1) := by decide +kernel
theorem dX5_wouldDetermine_18 : decode cX5_wouldDetermine 18 = .ok (.lcmp, 1) := by decide +kernel
theorem dX5_wouldDetermine_19 : decode cX5_wouldDetermine 19 = .ok (.ifCond .ne 5, 3) := by decide +kernel
theorem dX5_wouldDetermine_22 : decode cX5_wouldDetermine 22 = .ok (.iconst 0, 1) := by decide +kernel
theorem dX5_wouldDetermine_23 : decode cX5_wouldDetermine 23 = .ok (.ireturn, 1) := by decide +kernel
theorem dX5_wouldDetermine_24 : decode cX5_wouldDetermine 24 = .ok (.aload_n 0, 1) := by decide +kernel
theorem dX5_wouldDetermine_25 : decode cX5_wouldDetermine 25 = .ok (.getfield 33, 3) := by decide +kernel
theorem dX5_wouldDetermine_28 : decode cX5_wouldDetermine 28 = .ok (.lload_n 2, 1) := by decide +kernel
theorem dX5_wouldDetermine_29 : decode cX5_wouldDetermine 29 = .ok (.aload_n 0, 1) := by decide +kernel
theorem dX5_wouldDetermine_30 : decode cX5_wouldDetermine 30 = .ok (.getfield 19, 3) := by decide +kernel
theorem dX5_wouldDetermine_33 : decode cX5_wouldDetermine 33 = .ok (.invokevirtual 86, 3) := by decide +kernel
theorem dX5_wouldDetermine_36 : decode cX5_wouldDetermine 36 = .ok (.invokevirtual 142, 3) := by decide +kernel
theorem dX5_wouldDetermine_39 : decode cX5_wouldDetermine 39 = .ok (.ireturn, 1) := by decide +kernel
set_option maxRecDepth 20000 in
theorem ggX5_nextHelpful_X5_missing : GoodIn wsX5_nextHelpful wsX5_missing := goodIn_r _ [5, 6, 7, 8, 9, 10, 11, 12, 13, 14, 15, 16, 17, 18, 19, 20, 82, 83, 84, 85, 86, 87, 88, 89, 90, 91, 92] (by decide +kernel) (by decide +kernel)
set_option maxRecDepth 20000 in
theorem gX5_nextHelpful_X5_missing : GoodIn wsX5_nextHelpful (wsV RX5 161 RX5 yX5_missing wsX5_missing) := goodIn_app (goodIn_of _ (by decide +kernel)) ggX5_nextHelpful_X5_missing
set_option maxRecDepth 20000 in
theorem ggX5_nextHelpful_X5_wouldHelp : GoodIn wsX5_nextHelpful wsX5_wouldHelp := goodIn_r _ [24, 7, 25, 26, 27, 4, 28, 29, 30, 6, 8, 9, 10, 11, 12, 13, 14, 31, 32, 33, 34, 35, 36, 37, 38, 39, 40, 41, 42, 43, 44, 45, 46, 47, 48, 49, 50, 51, 52, 53, 54, 55, 56, 57, 58, 59, 60, 61, 62, 63, 64, 65, 66, 67, 68, 69, 70, 71, 72, 73, 74, 75, 76, 18, 77, 78, 79, 80, 81, 82, 83, 84, 85, 86, 87, 88, 89, 93, 94, 95, 96, 97, 90, 91, 92] (by decide +kernel) (by decide +kernel)
set_option maxRecDepth 20000 in
theorem gX5_nextHelpful_X5_wouldHelp : GoodIn wsX5_nextHelpful (wsV RX5 164 RX5 yX5_wouldHelp wsX5_wouldHelp) := goodIn_app (goodIn_of _ (by decide +kernel)) ggX5_nextHelpful_X5_wouldHelp
theorem dX5_nextHelpful_0 : decode cX5_nextHelpful 0 = .ok (.aload_n 0, 1) := by decide +kernel
theorem dX5_nextHelpful_1 : decode cX5_nextHelpful 1 = .ok (.invokevirtual 161, 3) := by decide +kernel
theorem dX5_nextHelpful_4 : decode cX5_nextHelpful 4 = .ok (.ifCond .ne 5, 3) := by decide +kernel
theorem dX5_nextHelpful_7 : decode cX5_nextHelpful 7 = .ok (.iconst (-1), 1) := by decide +kernel
theorem dX5_nextHelpful_8 : decode cX5_nextHelpful 8 = .ok (.ireturn, 1) := by decide +kernel
theorem dX5_nextHelpful_9 : decode cX5_nextHelpful 9 = .ok (.iconst 0, 1) := by decide +kernel
theorem dX5_nextHelpful_10 : decode cX5_nextHelpful 10 = .ok (.istore_n 2, 1) := by decide +kernel
theorem dX5_nextHelpful_11 : decode cX5_nextHelpful 11 = .ok (.iload_n 2, 1) := by decide +kernel
theorem dX5_nextHelpful_12 : decode cX5_nextHelpful 12 = .ok (.sipush 500, 3) := by decide +kernel
theorem dX5_nextHelpful_15 : decode cX5_nextHelpful 15 = .ok (.if_icmp .ge 21, 3) := by decide +kernel
theorem dX5_nextHelpful_18 : decode cX5_nextHelpful 18 = .ok (.aload_n 0, 1) := by decide +kernel
theorem dX5_nextHelpful_19 : decode cX5_nextHelpful 19 = .ok (.iload_n 1, 1) := by decide +kernel
theorem dX5_nextHelpful_20 : decode cX5_nextHelpful 20 = .ok (.iload_n 2, 1) := by decide +kernel
theorem dX5_nextHelpful_21 : decode cX5_nextHelpful 21 = .ok (.iadd, 1) := by decide +kernel
theorem dX5_nextHelpful_22 : decode cX5_nextHelpful 22 = .ok (.invokevirtual 164, 3) := by decide +kernel
theorem dX5_nextHelpful_25 : decode cX5_nextHelpful 25 = .ok (.ifCond .eq 5, 3) := by decide +kernel
theorem dX5_nextHelpful_28 : decode cX5_nextHelpful 28 = .ok (.iload_n 2, 1) := by decide +kernel
theorem dX5_nextHelpful_29 : decode cX5_nextHelpful 29 = .ok (.ireturn, 1) := by decide +kernel
theorem dX5_nextHelpful_30 : decode cX5_nextHelpful 30 = .ok (.iinc 2 1, 3) := by decide +kernel
theorem dX5_nextHelpful_33 : decode cX5_nextHelpful 33 = .ok (.goto (-22), 3) := by decide +kernel
theorem dX5_nextHelpful_36 : decode cX5_nextHelpful 36 = .ok (.iconst (-1), 1) := by decide +kernel
theorem dX5_nextHelpful_37 : decode cX5_nextHelpful 37 = .ok (.ireturn, 1) := by decide +kernel
set_option maxRecDepth 20000 in
theorem ggX5_missing_X3_blockCount : GoodIn wsX5_missing wsX3_blockCount := goodIn_r _ [7, 8, 9, 21, 22, 23] (by decide +kernel) (by decide +kernel)
set_option maxRecDepth 20000 in
theorem gX5_missing_X3_blockCount : GoodIn wsX5_missing (wsV RX5 86 RX3 yX3_blockCount wsX3_blockCount) := goodIn_app (goodIn_of _ (by decide +kernel)) ggX5_missing_X3_blockCount
set_option maxRecDepth 20000 in
theorem ggX5_missing_X1_rowCount : GoodIn wsX5_missing wsX1_rowCount := goodIn_r _ [14, 15, 24, 25, 26] (by decide +kernel) (by decide +kernel)
set_option maxRecDepth 20000 in
theorem gX5_missing_X1_rowCount : GoodIn wsX5_missing (wsV RX5 130 RX1 yX1_rowCount wsX1_rowCount) := goodIn_app (goodIn_of _ (by decide +kernel)) ggX5_missing_X1_rowCount
theorem dX5_missing_0 : decode cX5_missing 0 = .ok (.aload_n 0, 1) := by decide +kernel
theorem dX5_missing_1 : decode cX5_missing 1 = .ok (.getfield 19, 3) := by decide +kernel
theorem dX5_missing_4 : decode cX5_missing 4 = .ok (.invokevirtual 86, 3) := by decide +kernel
theorem dX5_missing_7 : decode cX5_missing 7 = .ok (.aload_n 0, 1) := by decide +kernel
theorem dX5_missing_8 : decode cX5_missing 8 = .ok (.getfield 33, 3) := by decide +kernel
theorem dX5_missing_11 : decode cX5_missing 11 = .ok (.invokevirtual 130, 3) := by decide +kernel
theorem dX5_missing_14 : decode cX5_missing 14 = .ok (.isub, 1) := by decide +kernel
theorem dX5_missing_15 : decode cX5_missing 15 = .ok (.ireturn, 1) := by decide +kernel
set_option maxRecDepth 20000 in
theorem ggX5_beginTransfer_X3_begin : GoodIn wsX5_beginTransfer wsX3_begin := goodIn_r _ [8, 9, 10, 11, 12, 13, 14, 15, 98, 99, 100] (by decide +kernel) (by decide +kernel)
set_option maxRecDepth 20000 in
theorem gX5_beginTransfer_X3_begin : GoodIn wsX5_beginTransfer (wsV RX5 167 RX3 yX3_begin wsX3_begin) := goodIn_app (goodIn_of _ (by decide +kernel)) ggX5_beginTransfer_X3_begin
set_option maxRecDepth 20000 in
theorem ggX5_beginTransfer_X2_clear : GoodIn wsX5_beginTransfer wsX2_clear := goodIn_r _ [20, 21, 22, 23, 24, 25, 13, 14, 15, 101, 102, 103, 104, 105, 106] (by decide +kernel) (by decide +kernel)
set_option maxRecDepth 20000 in
theorem gX5_beginTransfer_X2_clear : GoodIn wsX5_beginTransfer (wsV RX5 170 RX2 yX2_clear wsX2_clear) := goodIn_app (goodIn_of _ (by decide +kernel)) ggX5_beginTransfer_X2_clear
set_option maxRecDepth 20000 in
theorem ggX5_beginTransfer_X1_clear : GoodIn wsX5_beginTransfer wsX1_clear := goodIn_r _ [30, 31, 32, 33, 34, 35, 14, 36, 37, 13, 15, 107, 108, 109] (by decide +kernel) (by decide +kernel)
set_option maxRecDepth 20000 in
theorem gX5_beginTransfer_X1_clear : GoodIn wsX5_beginTransfer (wsV RX5 173 RX1 yX1_clear wsX1_clear) := goodIn_app (goodIn_of _ (by decide +kernel)) ggX5_beginTransfer_X1_clear
set_option maxRecDepth 20000 in
theorem ggX5_beginTransfer_X5_setOf : GoodIn wsX5_beginTransfer wsX5_setOf := goodIn_r _ [41] (by decide +kernel) (by decide +kernel)
set_option maxRecDepth 20000 in
theorem gX5_beginTransfer_X5_setOf : GoodIn wsX5_beginTransfer (va_wsS RX5 150 yX5_setOf wsX5_setOf) := goodIn_app (goodIn_of _ (by decide +kernel)) ggX5_beginTransfer_X5_setOf
set_option maxRecDepth 20000 in
theorem ggX5_beginTransfer_X3_coveredBy : GoodIn wsX5_beginTransfer wsX3_coveredBy := goodIn_r _ [45, 9, 39, 40, 41, 98, 99, 100] (by decide +kernel) (by decide +kernel)
set_option maxRecDepth 20000 in
theorem gX5_beginTransfer_X3_coveredBy : GoodIn wsX5_beginTransfer (wsV RX5 174 RX3 yX3_coveredBy wsX3_coveredBy) := goodIn_app (goodIn_of _ (by decide +kernel)) ggX5_beginTransfer_X3_coveredBy
set_option maxRecDepth 20000 in
theorem ggX5_beginTransfer_X5_addEquation : GoodIn wsX5_beginTransfer wsX5_addEquation := goodIn_r _ [49, 2, 3, 50, 51, 52, 19, 53, 21, 54, 55, 56, 57, 29, 58, 32, 33, 31, 59, 60, 61, 62, 63, 40, 64, 38, 39, 41, 65, 66, 67, 68, 69, 70, 71, 72, 73, 74, 75, 76, 77, 93, 94, 95, 96, 97, 101, 102, 103, 104, 105, 106, 107, 108, 109] (by decide +kernel) (by decide +kernel)
set_option maxRecDepth 20000 in
theorem gX5_beginTransfer_X5_addEquation : GoodIn wsX5_beginTransfer (wsV RX5 177 RX5 yX5_addEquation wsX5_addEquation) := goodIn_app (goodIn_of _ (by decide +kernel)) ggX5_beginTransfer_X5_addEquation
set_option maxRecDepth 20000 in
theorem ggX5_beginTransfer_X2_peelOn : GoodIn wsX5_beginTransfer wsX2_peelOn := goodIn_r _ [81, 22, 82, 83, 84, 19, 85, 21, 54, 23, 86, 87, 68, 69, 70, 71, 72, 73, 88, 89, 90, 91, 92, 24, 65, 40, 66, 67, 39, 41, 101, 102, 103, 104, 105, 106] (by decide +kernel) (by decide +kernel)
set_option maxRecDepth 20000 in
theorem gX5_beginTransfer_X2_peelOn : GoodIn wsX5_beginTransfer (wsV RX5 181 RX2 yX2_peelOn wsX2_peelOn) := goodIn_app (goodIn_of _ (by decide +kernel)) ggX5_beginTransfer_X2_peelOn
theorem dX5_beginTransfer_0 : decode cX5_beginTransfer 0 = .ok (.aload_n 0, 1) := by decide +kernel
theorem dX5_beginTransfer_1 : decode cX5_beginTransfer 1 = .ok (.getfield 19, 3) := by decide +kernel
theorem dX5_beginTransfer_4 : decode cX5_beginTransfer 4 = .ok (.iload_n 1, 1) := by decide +kernel
theorem dX5_beginTransfer_5 : decode cX5_beginTransfer 5 = .ok (.iload_n 2, 1) := by decide +kernel
theorem dX5_beginTransfer_6 : decode cX5_beginTransfer 6 = .ok (.invokevirtual 167, 3) := by decide +kernel
theorem dX5_beginTransfer_9 : decode cX5_beginTransfer 9 = .ok (.aload_n 0, 1) := by decide +kernel
theorem dX5_beginTransfer_10 : decode cX5_beginTransfer 10 = .ok (.getfield 26, 3) := by decide +kernel
theorem dX5_beginTransfer_13 : decode cX5_beginTransfer 13 = .ok (.invokevirtual 170, 3) := by decide +kernel
theorem dX5_beginTransfer_16 : decode cX5_beginTransfer 16 = .ok (.aload_n 0, 1) := by decide +kernel
theorem dX5_beginTransfer_17 : decode cX5_beginTransfer 17 = .ok (.getfield 33, 3) := by decide +kernel
theorem dX5_beginTransfer_20 : decode cX5_beginTransfer 20 = .ok (.invokevirtual 173, 3) := by decide +kernel
theorem dX5_beginTransfer_23 : decode cX5_beginTransfer 23 = .ok (.iconst 0, 1) := by decide +kernel
theorem dX5_beginTransfer_24 : decode cX5_beginTransfer 24 = .ok (.istore_n 3, 1) := by decide +kernel
theorem dX5_beginTransfer_25 : decode cX5_beginTransfer 25 = .ok (.iload_n 3, 1) := by decide +kernel
theorem dX5_beginTransfer_26 : decode cX5_beginTransfer 26 = .ok (.iload_n 2, 1) := by decide +kernel
theorem dX5_beginTransfer_27 : decode cX5_beginTransfer 27 = .ok (.if_icmp .ge 29, 3) := by decide +kernel
theorem dX5_beginTransfer_30 : decode cX5_beginTransfer 30 = .ok (.aload_n 0, 1) := by decide +kernel
theorem dX5_beginTransfer_31 : decode cX5_beginTransfer 31 = .ok (.iload_n 1, 1) := by decide +kernel
theorem dX5_beginTransfer_32 : decode cX5_beginTransfer 32 = .ok (.iload_n 3, 1) := by decide +kernel
theorem dX5_beginTransfer_33 : decode cX5_beginTransfer 33 = .ok (.iadd, 1) := by decide +kernel
theorem dX5_beginTransfer_34 : decode cX5_beginTransfer 34 = .ok (.invokestatic 150, 3) := by decide +kernel
theorem dX5_beginTransfer_37 : decode cX5_beginTransfer 37 = .ok (.aload_n 0, 1) := by decide +kernel
theorem dX5_beginTransfer_38 : decode cX5_beginTransfer 38 = .ok (.getfield 19, 3) := by decide +kernel
theorem dX5_beginTransfer_41 : decode cX5_beginTransfer 41 = .ok (.iload_n 3, 1) := by decide +kernel
theorem dX5_beginTransfer_42 : decode cX5_beginTransfer 42 = .ok (.invokevirtual 174, 3) := by decide +kernel
theorem dX5_beginTransfer_45 : decode cX5_beginTransfer 45 = .ok (.lor, 1) := by decide +kernel
theorem dX5_beginTransfer_46 : decode cX5_beginTransfer 46 = .ok (.iconst 0, 1) := by decide +kernel
theorem dX5_beginTransfer_47 : decode cX5_beginTransfer 47 = .ok (.invokevirtual 177, 3) := by decide +kernel
theorem dX5_beginTransfer_50 : decode cX5_beginTransfer 50 = .ok (.iinc 3 1, 3) := by decide +kernel
theorem dX5_beginTransfer_53 : decode cX5_beginTransfer 53 = .ok (.goto (-28), 3) := by decide +kernel
theorem dX5_beginTransfer_56 : decode cX5_beginTransfer 56 = .ok (.aload_n 0, 1) := by decide +kernel
theorem dX5_beginTransfer_57 : decode cX5_beginTransfer 57 = .ok (.getfield 26, 3) := by decide +kernel
theorem dX5_beginTransfer_60 : decode cX5_beginTransfer 60 = .ok (.invokevirtual 181, 3) := by decide +kernel
theorem dX5_beginTransfer_63 : decode cX5_beginTransfer 63 = .ok (.ireturn, 1) := by decide +kernel
set_option maxRecDepth 20000 in
theorem ggX5_isBlock_X3_blockCount : GoodIn wsX5_isBlock wsX3_blockCount := goodIn_r _ [6, 7, 8, 14, 15, 16] (by decide +kernel) (by decide +kernel)
set_option maxRecDepth 20000 in
theorem gX5_isBlock_X3_blockCount : GoodIn wsX5_isBlock (wsV RX5 86 RX3 yX3_blockCount wsX3_blockCount) := goodIn_app (goodIn_of _ (by decide +kernel)) ggX5_isBlock_X3_blockCount
theorem dX5_isBlock_0 : decode cX5_isBlock 0 = .ok (.iload_n 1, 1) := by decide +kernel
theorem dX5_isBlock_1 : decode cX5_isBlock 1 = .ok (.ifCond .lt 18, 3) := by decide +kernel
theorem dX5_isBlock_4 : decode cX5_isBlock 4 = .ok (.iload_n 1, 1) := by decide +kernel
theorem dX5_isBlock_5 : decode cX5_isBlock 5 = .ok (.aload_n 0, 1) := by decide +kernel
theorem dX5_isBlock_6 : decode cX5_isBlock 6 = .ok (.getfield 19, 3) := by decide +kernel
theorem dX5_isBlock_9 : decode cX5_isBlock 9 = .ok (.invokevirtual 86, 3) := by decide +kernel
theorem dX5_isBlock_12 : decode cX5_isBlock 12 = .ok (.if_icmp .ge 7, 3) := by decide +kernel
theorem dX5_isBlock_15 : decode cX5_isBlock 15 = .ok (.iconst 1, 1) := by decide +kernel
theorem dX5_isBlock_16 : decode cX5_isBlock 16 = .ok (.goto 4, 3) := by decide +kernel
theorem dX5_isBlock_19 : decode cX5_isBlock 19 = .ok (.iconst 0, 1) := by decide +kernel
theorem dX5_isBlock_20 : decode cX5_isBlock 20 = .ok (.ireturn, 1) := by decide +kernel
set_option maxRecDepth 20000 in
theorem ggX5_drawn_X3_blockCount : GoodIn wsX5_drawn wsX3_blockCount := goodIn_r _ [8, 9, 10, 56, 57, 58] (by decide +kernel) (by decide +kernel)
set_option maxRecDepth 20000 in
theorem gX5_drawn_X3_blockCount : GoodIn wsX5_drawn (wsV RX5 86 RX3 yX3_blockCount wsX3_blockCount) := goodIn_app (goodIn_of _ (by decide +kernel)) ggX5_drawn_X3_blockCount
set_option maxRecDepth 20000 in
theorem ggX5_drawn_X0_draw : GoodIn wsX5_drawn wsX0_draw := goodIn_r _ [15, 16, 17, 18, 19, 20, 21, 22, 23, 24, 25, 26, 27, 28, 29, 30, 31, 32, 14, 33, 34, 35, 36, 37, 38, 39, 40, 41, 42, 43, 44, 45, 46, 47, 48, 49, 50, 59, 60, 61, 62, 63] (by decide +kernel) (by decide +kernel)
set_option maxRecDepth 20000 in
theorem gX5_drawn_X0_draw : GoodIn wsX5_drawn (wsV RX5 184 RX0 yX0_draw wsX0_draw) := goodIn_app (goodIn_of _ (by decide +kernel)) ggX5_drawn_X0_draw
theorem dX5_drawn_0 : decode cX5_drawn 0 = .ok (.aload_n 0, 1) := by decide +kernel
theorem dX5_drawn_1 : decode cX5_drawn 1 = .ok (.getfield 40, 3) := by decide +kernel
theorem dX5_drawn_4 : decode cX5_drawn 4 = .ok (.iload_n 1, 1) := by decide +kernel
theorem dX5_drawn_5 : decode cX5_drawn 5 = .ok (.aload_n 0, 1) := by decide +kernel
theorem dX5_drawn_6 : decode cX5_drawn 6 = .ok (.getfield 12, 3) := by decide +kernel
theorem dX5_drawn_9 : decode cX5_drawn 9 = .ok (.aload_n 0, 1) := by decide +kernel
theorem dX5_drawn_10 : decode cX5_drawn 10 = .ok (.getfield 19, 3) := by decide +kernel
theorem dX5_drawn_13 : decode cX5_drawn 13 = .ok (.invokevirtual 86, 3) := by decide +kernel
theorem dX5_drawn_16 : decode cX5_drawn 16 = .ok (.invokevirtual 184, 3) := by decide +kernel
theorem dX5_drawn_19 : decode cX5_drawn 19 = .ok (.aload_n 0, 1) := by decide +kernel
theorem dX5_drawn_20 : decode cX5_drawn 20 = .ok (.getfield 40, 3) := by decide +kernel
theorem dX5_drawn_23 : decode cX5_drawn 23 = .ok (.areturn, 1) := by decide +kernel
set_option maxRecDepth 20000 in
theorem ggX5_canTake_X2_equationCount : GoodIn wsX5_canTake wsX2_equationCount := goodIn_r _ [8, 9, 42, 43, 44, 45, 46, 47] (by decide +kernel) (by decide +kernel)
set_option maxRecDepth 20000 in
theorem gX5_canTake_X2_equationCount : GoodIn wsX5_canTake (wsV RX5 127 RX2 yX2_equationCount wsX2_equationCount) := goodIn_app (goodIn_of _ (by decide +kernel)) ggX5_canTake_X2_equationCount
set_option maxRecDepth 20000 in
theorem ggX5_canTake_X3_parityCount : GoodIn wsX5_canTake wsX3_parityCount := goodIn_r _ [14, 15, 48, 49, 50] (by decide +kernel) (by decide +kernel)
set_option maxRecDepth 20000 in
theorem gX5_canTake_X3_parityCount : GoodIn wsX5_canTake (wsV RX5 188 RX3 yX3_parityCount wsX3_parityCount) := goodIn_app (goodIn_of _ (by decide +kernel)) ggX5_canTake_X3_parityCount
set_option maxRecDepth 20000 in
theorem ggX5_canTake_X1_contradicts : GoodIn wsX5_canTake wsX1_contradicts := goodIn_r _ [20, 21, 22, 23, 19, 24, 25, 26, 27, 28, 29, 30, 31, 32, 33, 34, 35, 36, 51, 52, 53] (by decide +kernel) (by decide +kernel)
set_option maxRecDepth 20000 in
theorem gX5_canTake_X1_contradicts : GoodIn wsX5_canTake (wsV RX5 191 RX1 yX1_contradicts wsX1_contradicts) := goodIn_app (goodIn_of _ (by decide +kernel)) ggX5_canTake_X1_contradicts
theorem dX5_canTake_0 : decode cX5_canTake 0 = .ok (.aload_n 0, 1) := by decide +kernel
theorem dX5_canTake_1 : decode cX5_canTake 1 = .ok (.getfield 26, 3) := by decide +kernel
theorem dX5_canTake_4 : decode cX5_canTake 4 = .ok (.invokevirtual 127, 3) := by decide +kernel
theorem dX5_canTake_7 : decode cX5_canTake 7 = .ok (.aload_n 0, 1) := by decide +kernel
theorem dX5_canTake_8 : decode cX5_canTake 8 = .ok (.getfield 19, 3) := by decide +kernel
theorem dX5_canTake_11 : decode cX5_canTake 11 = .ok (.invokevirtual 188, 3) := by decide +kernel
theorem dX5_canTake_14 : decode cX5_canTake 14 = .ok (.isub, 1) := by decide +kernel
theorem dX5_canTake_15 : decode cX5_canTake 15 = .ok (.istore 4, 2) := by decide +kernel
theorem dX5_canTake_17 : decode cX5_canTake 17 = .ok (.iload 4, 2) := by decide +kernel
theorem dX5_canTake_19 : decode cX5_canTake 19 = .ok (.bipush 120, 2) := by decide +kernel
theorem dX5_canTake_21 : decode cX5_canTake 21 = .ok (.if_icmp .ge 19, 3) := by decide +kernel
theorem dX5_canTake_24 : decode cX5_canTake 24 = .ok (.aload_n 0, 1) := by decide +kernel
theorem dX5_canTake_25 : decode cX5_canTake 25 = .ok (.getfield 33, 3) := by decide +kernel
theorem dX5_canTake_28 : decode cX5_canTake 28 = .ok (.lload_n 1, 1) := by decide +kernel
theorem dX5_canTake_29 : decode cX5_canTake 29 = .ok (.iload_n 3, 1) := by decide +kernel
theorem dX5_canTake_30 : decode cX5_canTake 30 = .ok (.invokevirtual 191, 3) := by decide +kernel
theorem dX5_canTake_33 : decode cX5_canTake 33 = .ok (.ifCond .ne 7, 3) := by decide +kernel
theorem dX5_canTake_36 : decode cX5_canTake 36 = .ok (.iconst 1, 1) := by decide +kernel
theorem dX5_canTake_37 : decode cX5_canTake 37 = .ok (.goto 4, 3) := by decide +kernel
theorem dX5_canTake_40 : decode cX5_canTake 40 = .ok (.iconst 0, 1) := by decide +kernel
theorem dX5_canTake_41 : decode cX5_canTake 41 = .ok (.ireturn, 1) := by decide +kernel
set_option maxRecDepth 20000 in
theorem ggX5_take_X5_addEquation : GoodIn wsX5_take wsX5_addEquation := goodIn_r _ [6, 1, 7, 8, 9, 10, 11, 12, 13, 14, 15, 16, 17, 18, 19, 20, 21, 22, 23, 24, 25, 26, 27, 5, 28, 29, 30, 31, 32, 33, 34, 35, 36, 37, 38, 39, 40, 41, 42, 43, 44, 63, 64, 65, 66, 67, 68, 69, 70, 71, 72, 73, 74, 75, 76] (by decide +kernel) (by decide +kernel)
set_option maxRecDepth 20000 in
theorem gX5_take_X5_addEquation : GoodIn wsX5_take (wsV RX5 177 RX5 yX5_addEquation wsX5_addEquation) := goodIn_app (goodIn_of _ (by decide +kernel)) ggX5_take_X5_addEquation
set_option maxRecDepth 20000 in
theorem ggX5_take_X2_peelOn : GoodIn wsX5_take wsX2_peelOn := goodIn_r _ [48, 49, 50, 51, 52, 11, 53, 13, 14, 54, 55, 56, 35, 36, 37, 38, 39, 40, 57, 58, 59, 60, 61, 62, 32, 5, 33, 34, 30, 31, 68, 69, 70, 71, 72, 73] (by decide +kernel) (by decide +kernel)
set_option maxRecDepth 20000 in
theorem gX5_take_X2_peelOn : GoodIn wsX5_take (wsV RX5 181 RX2 yX2_peelOn wsX2_peelOn) := goodIn_app (goodIn_of _ (by decide +kernel)) ggX5_take_X2_peelOn
theorem dX5_take_0 : decode cX5_take 0 = .ok (.aload_n 0, 1) := by decide +kernel
theorem dX5_take_1 : decode cX5_take 1 = .ok (.lload_n 1, 1) := by decide +kernel
theorem dX5_take_2 : decode cX5_take 2 = .ok (.iload_n 3, 1) := by decide +kernel
theorem dX5_take_3 : decode cX5_take 3 = .ok (.invokevirtual 177, 3) := by decide +kernel
theorem dX5_take_6 : decode cX5_take 6 = .ok (.aload_n 0, 1) := by decide +kernel
theorem dX5_take_7 : decode cX5_take 7 = .ok (.getfield 26, 3) := by decide +kernel
theorem dX5_take_10 : decode cX5_take 10 = .ok (.invokevirtual 181, 3) := by decide +kernel
theorem dX5_take_13 : decode cX5_take 13 = .ok (.ireturn, 1) := by decide +kernel
set_option maxRecDepth 20000 in
theorem ggX5_addEquation_X2_addEquation : GoodIn wsX5_addEquation wsX2_addEquation := goodIn_r _ [7, 8, 9, 46, 47, 48, 49, 50, 51] (by decide +kernel) (by decide +kernel)
set_option maxRecDepth 20000 in
theorem gX5_addEquation_X2_addEquation : GoodIn wsX5_addEquation (wsV RX5 194 RX2 yX2_addEquation wsX2_addEquation) := goodIn_app (goodIn_of _ (by decide +kernel)) ggX5_addEquation_X2_addEquation
set_option maxRecDepth 20000 in
theorem ggX5_addEquation_X1_addEquation : GoodIn wsX5_addEquation wsX1_addEquation := goodIn_r _ [14, 15, 16, 17, 18, 19, 20, 13, 21, 22, 23, 24, 25, 26, 27, 28, 29, 30, 31, 32, 33, 34, 35, 36, 37, 38, 39, 40, 52, 53, 54] (by decide +kernel) (by decide +kernel)
set_option maxRecDepth 20000 in
theorem gX5_addEquation_X1_addEquation : GoodIn wsX5_addEquation (wsV RX5 197 RX1 yX1_addEquation wsX1_addEquation) := goodIn_app (goodIn_of _ (by decide +kernel)) ggX5_addEquation_X1_addEquation
theorem dX5_addEquation_0 : decode cX5_addEquation 0 = .ok (.aload_n 0, 1) := by decide +kernel
theorem dX5_addEquation_1 : decode cX5_addEquation 1 = .ok (.getfield 26, 3) := by decide +kernel
theorem dX5_addEquation_4 : decode cX5_addEquation 4 = .ok (.lload_n 1, 1) := by decide +kernel
theorem dX5_addEquation_5 : decode cX5_addEquation 5 = .ok (.invokevirtual 194, 3) := by decide +kernel
theorem dX5_addEquation_8 : decode cX5_addEquation 8 = .ok (.aload_n 0, 1) := by decide +kernel
theorem dX5_addEquation_9 : decode cX5_addEquation 9 = .ok (.getfield 33, 3) := by decide +kernel
theorem dX5_addEquation_12 : decode cX5_addEquation 12 = .ok (.lload_n 1, 1) := by decide +kernel
theorem dX5_addEquation_13 : decode cX5_addEquation 13 = .ok (.iload_n 3, 1) := by decide +kernel
theorem dX5_addEquation_14 : decode cX5_addEquation 14 = .ok (.invokevirtual 197, 3) := by decide +kernel
theorem dX5_addEquation_17 : decode cX5_addEquation 17 = .ok (.return_, 1) := by decide +kernel
theorem dX5_setOf_0 : decode cX5_setOf 0 = .ok (.lconst 1, 1) := by decide +kernel
theorem dX5_setOf_1 : decode cX5_setOf 1 = .ok (.iload_n 0, 1) := by decide +kernel
theorem dX5_setOf_2 : decode cX5_setOf 2 = .ok (.lshl, 1) := by decide +kernel
theorem dX5_setOf_3 : decode cX5_setOf 3 = .ok (.lreturn, 1) := by decide +kernel
set_option maxRecDepth 20000 in
theorem ggX5_holds_X5_setOf : GoodIn wsX5_holds wsX5_setOf := goodIn_r _ [4] (by decide +kernel) (by decide +kernel)
set_option maxRecDepth 20000 in
theorem gX5_holds_X5_setOf : GoodIn wsX5_holds (va_wsS RX5 150 yX5_setOf wsX5_setOf) := goodIn_app (goodIn_of _ (by decide +kernel)) ggX5_holds_X5_setOf
theorem dX5_holds_0 : decode cX5_holds 0 = .ok (.lload_n 0, 1) := by decide +kernel
theorem dX5_holds_1 : decode cX5_holds 1 = .ok (.iload_n 2, 1) := by decide +kernel
theorem dX5_holds_2 : decode cX5_holds 2 = .ok (.invokestatic 150, 3) := by decide +kernel
theorem dX5_holds_5 : decode cX5_holds 5 = .ok (.land, 1) := by decide +kernel
theorem dX5_holds_6 : decode cX5_holds 6 = .ok (.lconst 0, 1) := by decide +kernel
theorem dX5_holds_7 : decode cX5_holds 7 = .ok (.lcmp, 1) := by decide +kernel
theorem dX5_holds_8 : decode cX5_holds 8 = .ok (.ifCond .eq 7, 3) := by decide +kernel
theorem dX5_holds_11 : decode cX5_holds 11 = .ok (.iconst 1, 1) := by decide +kernel
theorem dX5_holds_12 : decode cX5_holds 12 = .ok (.goto 4, 3) := by decide +kernel
theorem dX5_holds_15 : decode cX5_holds 15 = .ok (.iconst 0, 1) := by decide +kernel
theorem dX5_holds_16 : decode cX5_holds 16 = .ok (.ireturn, 1) := by decide +kernel
set_option maxRecDepth 20000 in
theorem ggX5_lowestOf_J13_bitCount_95d88 : GoodIn wsX5_lowestOf wsJ13_bitCount_95d88 := goodIn_r _ [4, 5, 6, 7] (by decide +kernel) (by decide +kernel)
set_option maxRecDepth 20000 in
theorem gX5_lowestOf_J13_bitCount_95d88 : GoodIn wsX5_lowestOf (va_wsS RX5 198 yJ13_bitCount_95d88 wsJ13_bitCount_95d88) := goodIn_app (goodIn_of _ (by decide +kernel)) ggX5_lowestOf_J13_bitCount_95d88
theorem dX5_lowestOf_0 : decode cX5_lowestOf 0 = .ok (.lload_n 0, 1) := by decide +kernel
theorem dX5_lowestOf_1 : decode cX5_lowestOf 1 = .ok (.lload_n 0, 1) := by decide +kernel
theorem dX5_lowestOf_2 : decode cX5_lowestOf 2 = .ok (.lneg, 1) := by decide +kernel
theorem dX5_lowestOf_3 : decode cX5_lowestOf 3 = .ok (.land, 1) := by decide +kernel
theorem dX5_lowestOf_4 : decode cX5_lowestOf 4 = .ok (.lconst 1, 1) := by decide +kernel
theorem dX5_lowestOf_5 : decode cX5_lowestOf 5 = .ok (.lsub, 1) := by decide +kernel
theorem dX5_lowestOf_6 : decode cX5_lowestOf 6 = .ok (.invokestatic 198, 3) := by decide +kernel
theorem dX5_lowestOf_9 : decode cX5_lowestOf 9 = .ok (.ireturn, 1) := by decide +kernel

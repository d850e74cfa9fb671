theorem dX0_init_0 : decode cX0_init 0 = .ok (.aload_n 0, 1) := by decide +kernel
theorem dX0_init_1 : decode cX0_init 1 = .ok (.invokespecial 3, 3) := by decide +kernel
theorem dX0_init_4 : decode cX0_init 4 = .ok (.aload_n 0, 1) := by decide +kernel
theorem dX0_init_5 : decode cX0_init 5 = .ok (.bipush 38, 2) := by decide +kernel
theorem dX0_init_7 : decode cX0_init 7 = .ok (.newarray .int, 2) := by decide +kernel
theorem dX0_init_9 : decode cX0_init 9 = .ok (.putfield 9, 3) := by decide +kernel
theorem dX0_init_12 : decode cX0_init 12 = .ok (.return_, 1) := by decide +kernel
set_option maxRecDepth 20000 in
theorem ggX0_draw_X4_sum : GoodIn wsX0_draw wsX4_sum := goodIn_r _ [13, 14, 41] (by decide +kernel) (by decide +kernel)
set_option maxRecDepth 20000 in
theorem gX0_draw_X4_sum : GoodIn wsX0_draw (wsV RX0 19 RX4 yX4_sum wsX4_sum) := goodIn_app (goodIn_of _ (by decide +kernel)) ggX0_draw_X4_sum
set_option maxRecDepth 20000 in
theorem ggX0_draw_X0_numberBelow : GoodIn wsX0_draw wsX0_numberBelow := goodIn_r _ [19, 1, 20, 21, 37, 38, 39, 40] (by decide +kernel) (by decide +kernel)
set_option maxRecDepth 20000 in
theorem gX0_draw_X0_numberBelow : GoodIn wsX0_draw (wsV RX0 25 RX0 yX0_numberBelow wsX0_numberBelow) := goodIn_app (goodIn_of _ (by decide +kernel)) ggX0_draw_X0_numberBelow
set_option maxRecDepth 20000 in
theorem ggX0_draw_X4_degreeFor : GoodIn wsX0_draw wsX4_degreeFor := goodIn_r _ [25, 14, 41] (by decide +kernel) (by decide +kernel)
set_option maxRecDepth 20000 in
theorem gX0_draw_X4_degreeFor : GoodIn wsX0_draw (wsV RX0 29 RX4 yX4_degreeFor wsX4_degreeFor) := goodIn_app (goodIn_of _ (by decide +kernel)) ggX0_draw_X4_degreeFor
set_option maxRecDepth 20000 in
theorem ggX0_draw_X0_lineUp : GoodIn wsX0_draw wsX0_lineUp := goodIn_r _ [29, 8, 37, 38, 39, 40] (by decide +kernel) (by decide +kernel)
set_option maxRecDepth 20000 in
theorem gX0_draw_X0_lineUp : GoodIn wsX0_draw (wsV RX0 42 RX0 yX0_lineUp wsX0_lineUp) := goodIn_app (goodIn_of _ (by decide +kernel)) ggX0_draw_X0_lineUp
set_option maxRecDepth 20000 in
theorem ggX0_draw_X0_swap : GoodIn wsX0_draw wsX0_swap := goodIn_r _ [33, 8, 37, 38, 39, 40] (by decide +kernel) (by decide +kernel)
set_option maxRecDepth 20000 in
theorem gX0_draw_X0_swap : GoodIn wsX0_draw (wsV RX0 49 RX0 yX0_swap wsX0_swap) := goodIn_app (goodIn_of _ (by decide +kernel)) ggX0_draw_X0_swap
set_option maxRecDepth 20000 in
theorem ggX0_draw_X5_setOf : GoodIn wsX0_draw wsX5_setOf := goodIn_r _ [36] (by decide +kernel) (by decide +kernel)
set_option maxRecDepth 20000 in
theorem gX0_draw_X5_setOf_n53 : GoodIn wsX0_draw (wsX5_setOf) := ggX0_draw_X5_setOf
theorem dX0_draw_0 : decode cX0_draw 0 = .ok (.aload_n 0, 1) := by decide +kernel
theorem dX0_draw_1 : decode cX0_draw 1 = .ok (.iload_n 1, 1) := by decide +kernel
theorem dX0_draw_2 : decode cX0_draw 2 = .ok (.i2l, 1) := by decide +kernel
theorem dX0_draw_3 : decode cX0_draw 3 = .ok (.putfield 15, 3) := by decide +kernel
theorem dX0_draw_6 : decode cX0_draw 6 = .ok (.aload_n 0, 1) := by decide +kernel
theorem dX0_draw_7 : decode cX0_draw 7 = .ok (.aload_n 2, 1) := by decide +kernel
theorem dX0_draw_8 : decode cX0_draw 8 = .ok (.aload_n 0, 1) := by decide +kernel
theorem dX0_draw_9 : decode cX0_draw 9 = .ok (.aload_n 2, 1) := by decide +kernel
theorem dX0_draw_10 : decode cX0_draw 10 = .ok (.invokevirtual 19, 3) := by decide +kernel
theorem dX0_draw_13 : decode cX0_draw 13 = .ok (.invokevirtual 25, 3) := by decide +kernel
theorem dX0_draw_16 : decode cX0_draw 16 = .ok (.invokevirtual 29, 3) := by decide +kernel
theorem dX0_draw_19 : decode cX0_draw 19 = .ok (.iload_n 3, 1) := by decide +kernel
theorem dX0_draw_20 : decode cX0_draw 20 = .ok (.invokestatic 32, 3) := by decide +kernel
theorem dX0_draw_23 : decode cX0_draw 23 = .ok (.putfield 38, 3) := by decide +kernel
theorem dX0_draw_26 : decode cX0_draw 26 = .ok (.aload_n 0, 1) := by decide +kernel
theorem dX0_draw_27 : decode cX0_draw 27 = .ok (.iload_n 3, 1) := by decide +kernel
theorem dX0_draw_28 : decode cX0_draw 28 = .ok (.invokevirtual 42, 3) := by decide +kernel
theorem dX0_draw_31 : decode cX0_draw 31 = .ok (.aload_n 0, 1) := by decide +kernel
theorem dX0_draw_32 : decode cX0_draw 32 = .ok (.lconst 0, 1) := by decide +kernel
theorem dX0_draw_33 : decode cX0_draw 33 = .ok (.putfield 46, 3) := by decide +kernel
theorem dX0_draw_36 : decode cX0_draw 36 = .ok (.iconst 0, 1) := by decide +kernel
theorem dX0_draw_37 : decode cX0_draw 37 = .ok (.istore 4, 2) := by decide +kernel
theorem dX0_draw_39 : decode cX0_draw 39 = .ok (.iload 4, 2) := by decide +kernel
theorem dX0_draw_41 : decode cX0_draw 41 = .ok (.aload_n 0, 1) := by decide +kernel
theorem dX0_draw_42 : decode cX0_draw 42 = .ok (.getfield 38, 3) := by decide +kernel
theorem dX0_draw_45 : decode cX0_draw 45 = .ok (.if_icmp .ge 55, 3) := by decide +kernel
theorem dX0_draw_48 : decode cX0_draw 48 = .ok (.iload 4, 2) := by decide +kernel
theorem dX0_draw_50 : decode cX0_draw 50 = .ok (.aload_n 0, 1) := by decide +kernel
theorem dX0_draw_51 : decode cX0_draw 51 = .ok (.getfield 9, 3) := by decide +kernel
theorem dX0_draw_54 : decode cX0_draw 54 = .ok (.arraylength, 1) := by decide +kernel
theorem dX0_draw_55 : decode cX0_draw 55 = .ok (.if_icmp .ge 45, 3) := by decide +kernel
theorem dX0_draw_58 : decode cX0_draw 58 = .ok (.aload_n 0, 1) := by decide +kernel
theorem dX0_draw_59 : decode cX0_draw 59 = .ok (.iload 4, 2) := by decide +kernel
theorem dX0_draw_61 : decode cX0_draw 61 = .ok (.iload 4, 2) := by decide +kernel
theorem dX0_draw_63 : decode cX0_draw 63 = .ok (.aload_n 0, 1) := by decide +kernel
theorem dX0_draw_64 : decode cX0_draw 64 = .ok (.iload_n 3, 1) := by decide +kernel
theorem dX0_draw_65 : decode cX0_draw 65 = .ok (.iload 4, 2) := by decide +kernel
theorem dX0_draw_67 : decode cX0_draw 67 = .ok (.isub, 1) := by decide +kernel
theorem dX0_draw_68 : decode cX0_draw 68 = .ok (.invokevirtual 25, 3) := by decide +kernel
theorem dX0_draw_71 : decode cX0_draw 71 = .ok (.iadd, 1) := by decide +kernel
theorem dX0_draw_72 : decode cX0_draw 72 = .ok (.invokevirtual 49, 3) := by decide +kernel
theorem dX0_draw_75 : decode cX0_draw 75 = .ok (.aload_n 0, 1) := by decide +kernel
theorem dX0_draw_76 : decode cX0_draw 76 = .ok (.dup, 1) := by decide +kernel
theorem dX0_draw_77 : decode cX0_draw 77 = .ok (.getfield 46, 3) := by decide +kernel
theorem dX0_draw_80 : decode cX0_draw 80 = .ok (.aload_n 0, 1) := by decide +kernel
theorem dX0_draw_81 : decode cX0_draw 81 = .ok (.getfield 9, 3) := by decide +kernel
theorem dX0_draw_84 : decode cX0_draw 84 = .ok (.iload 4, 2) := by decide +kernel
theorem dX0_draw_86 : decode cX0_draw 86 = .ok (.iaload, 1) := by decide +kernel
theorem dX0_draw_87 : decode cX0_draw 87 = .ok (.invokestatic 53, 3) := by decide +kernel
theorem dX0_draw_90 : decode cX0_draw 90 = .ok (.lor, 1) := by decide +kernel
theorem dX0_draw_91 : decode cX0_draw 91 = .ok (.putfield 46, 3) := by decide +kernel
theorem dX0_draw_94 : decode cX0_draw 94 = .ok (.iinc 4 1, 3) := by decide +kernel
theorem dX0_draw_97 : decode cX0_draw 97 = .ok (.goto (-58), 3) := by decide +kernel
theorem dX0_draw_100 : decode cX0_draw 100 = .ok (.return_, 1) := by decide +kernel
theorem dX0_size_0 : decode cX0_size 0 = .ok (.aload_n 0, 1) := by decide +kernel
theorem dX0_size_1 : decode cX0_size 1 = .ok (.getfield 38, 3) := by decide +kernel
theorem dX0_size_4 : decode cX0_size 4 = .ok (.ireturn, 1) := by decide +kernel
theorem dX0_blockSet_0 : decode cX0_blockSet 0 = .ok (.aload_n 0, 1) := by decide +kernel
theorem dX0_blockSet_1 : decode cX0_blockSet 1 = .ok (.getfield 46, 3) := by decide +kernel
theorem dX0_blockSet_4 : decode cX0_blockSet 4 = .ok (.lreturn, 1) := by decide +kernel
theorem dX0_blockInPlace_0 : decode cX0_blockInPlace 0 = .ok (.iload_n 1, 1) := by decide +kernel
theorem dX0_blockInPlace_1 : decode cX0_blockInPlace 1 = .ok (.ifCond .lt 21, 3) := by decide +kernel
theorem dX0_blockInPlace_4 : decode cX0_blockInPlace 4 = .ok (.iload_n 1, 1) := by decide +kernel
theorem dX0_blockInPlace_5 : decode cX0_blockInPlace 5 = .ok (.aload_n 0, 1) := by decide +kernel
theorem dX0_blockInPlace_6 : decode cX0_blockInPlace 6 = .ok (.getfield 9, 3) := by decide +kernel
theorem dX0_blockInPlace_9 : decode cX0_blockInPlace 9 = .ok (.arraylength, 1) := by decide +kernel
theorem dX0_blockInPlace_10 : decode cX0_blockInPlace 10 = .ok (.if_icmp .ge 12, 3) := by decide +kernel
theorem dX0_blockInPlace_13 : decode cX0_blockInPlace 13 = .ok (.aload_n 0, 1) := by decide +kernel
theorem dX0_blockInPlace_14 : decode cX0_blockInPlace 14 = .ok (.getfield 9, 3) := by decide +kernel
theorem dX0_blockInPlace_17 : decode cX0_blockInPlace 17 = .ok (.iload_n 1, 1) := by decide +kernel
theorem dX0_blockInPlace_18 : decode cX0_blockInPlace 18 = .ok (.iaload, 1) := by decide +kernel
theorem dX0_blockInPlace_19 : decode cX0_blockInPlace 19 = .ok (.goto 4, 3) := by decide +kernel
theorem dX0_blockInPlace_22 : decode cX0_blockInPlace 22 = .ok (.iconst (-1), 1) := by decide +kernel
theorem dX0_blockInPlace_23 : decode cX0_blockInPlace 23 = .ok (.ireturn, 1) := by decide +kernel
theorem dX0_numberBelow_0 : decode cX0_numberBelow 0 = .ok (.aload_n 0, 1) := by decide +kernel
theorem dX0_numberBelow_1 : decode cX0_numberBelow 1 = .ok (.aload_n 0, 1) := by decide +kernel
theorem dX0_numberBelow_2 : decode cX0_numberBelow 2 = .ok (.getfield 15, 3) := by decide +kernel
theorem dX0_numberBelow_5 : decode cX0_numberBelow 5 = .ok (.ldc2_w 57, 3) := by decide +kernel
theorem dX0_numberBelow_8 : decode cX0_numberBelow 8 = .ok (.lmul, 1) := by decide +kernel
theorem dX0_numberBelow_9 : decode cX0_numberBelow 9 = .ok (.ldc2_w 59, 3) := by decide +kernel
theorem dX0_numberBelow_12 : decode cX0_numberBelow 12 = .ok (.ladd, 1) := by decide +kernel
theorem dX0_numberBelow_13 : decode cX0_numberBelow 13 = .ok (.putfield 15, 3) := by decide +kernel
theorem dX0_numberBelow_16 : decode cX0_numberBelow 16 = .ok (.iload_n 1, 1) := by decide +kernel
theorem dX0_numberBelow_17 : decode cX0_numberBelow 17 = .ok (.ifCond .gt 5, 3) := by decide +kernel
theorem dX0_numberBelow_20 : decode cX0_numberBelow 20 = .ok (.iconst 0, 1) := by decide +kernel
theorem dX0_numberBelow_21 : decode cX0_numberBelow 21 = .ok (.ireturn, 1) := by decide +kernel
theorem dX0_numberBelow_22 : decode cX0_numberBelow 22 = .ok (.aload_n 0, 1) := by decide +kernel
theorem dX0_numberBelow_23 : decode cX0_numberBelow 23 = .ok (.getfield 15, 3) := by decide +kernel
theorem dX0_numberBelow_26 : decode cX0_numberBelow 26 = .ok (.bipush 33, 2) := by decide +kernel
theorem dX0_numberBelow_28 : decode cX0_numberBelow 28 = .ok (.lushr, 1) := by decide +kernel
theorem dX0_numberBelow_29 : decode cX0_numberBelow 29 = .ok (.iload_n 1, 1) := by decide +kernel
theorem dX0_numberBelow_30 : decode cX0_numberBelow 30 = .ok (.i2l, 1) := by decide +kernel
theorem dX0_numberBelow_31 : decode cX0_numberBelow 31 = .ok (.lrem, 1) := by decide +kernel
theorem dX0_numberBelow_32 : decode cX0_numberBelow 32 = .ok (.l2i, 1) := by decide +kernel
theorem dX0_numberBelow_33 : decode cX0_numberBelow 33 = .ok (.ireturn, 1) := by decide +kernel
theorem dX0_lineUp_0 : decode cX0_lineUp 0 = .ok (.iconst 0, 1) := by decide +kernel
theorem dX0_lineUp_1 : decode cX0_lineUp 1 = .ok (.istore_n 2, 1) := by decide +kernel
theorem dX0_lineUp_2 : decode cX0_lineUp 2 = .ok (.iload_n 2, 1) := by decide +kernel
theorem dX0_lineUp_3 : decode cX0_lineUp 3 = .ok (.iload_n 1, 1) := by decide +kernel
theorem dX0_lineUp_4 : decode cX0_lineUp 4 = .ok (.if_icmp .ge 25, 3) := by decide +kernel
theorem dX0_lineUp_7 : decode cX0_lineUp 7 = .ok (.iload_n 2, 1) := by decide +kernel
theorem dX0_lineUp_8 : decode cX0_lineUp 8 = .ok (.aload_n 0, 1) := by decide +kernel
theorem dX0_lineUp_9 : decode cX0_lineUp 9 = .ok (.getfield 9, 3) := by decide +kernel
theorem dX0_lineUp_12 : decode cX0_lineUp 12 = .ok (.arraylength, 1) := by decide +kernel
theorem dX0_lineUp_13 : decode cX0_lineUp 13 = .ok (.if_icmp .ge 16, 3) := by decide +kernel
theorem dX0_lineUp_16 : decode cX0_lineUp 16 = .ok (.aload_n 0, 1) := by decide +kernel
theorem dX0_lineUp_17 : decode cX0_lineUp 17 = .ok (.getfield 9, 3) := by decide +kernel
theorem dX0_lineUp_20 : decode cX0_lineUp 20 = .ok (.iload_n 2, 1) := by decide +kernel
theorem dX0_lineUp_21 : decode cX0_lineUp 21 = .ok (.iload_n 2, 1) := by decide +kernel
theorem dX0_lineUp_22 : decode cX0_lineUp 22 = .ok (.iastore, 1) := by decide +kernel
theorem dX0_lineUp_23 : decode cX0_lineUp 23 = .ok (.iinc 2 1, 3) := by decide +kernel
theorem dX0_lineUp_26 : decode cX0_lineUp 26 = .ok (.goto (-24), 3) := by decide +kernel
theorem dX0_lineUp_29 : decode cX0_lineUp 29 = .ok (.return_, 1) := by decide +kernel
theorem dX0_swap_0 : decode cX0_swap 0 = .ok (.iload_n 1, 1) := by decide +kernel
theorem dX0_swap_1 : decode cX0_swap 1 = .ok (.ifCond .lt 25, 3) := by decide +kernel
theorem dX0_swap_4 : decode cX0_swap 4 = .ok (.iload_n 1, 1) := by decide +kernel
theorem dX0_swap_5 : decode cX0_swap 5 = .ok (.aload_n 0, 1) := by decide +kernel
theorem dX0_swap_6 : decode cX0_swap 6 = .ok (.getfield 9, 3) := by decide +kernel
theorem dX0_swap_9 : decode cX0_swap 9 = .ok (.arraylength, 1) := by decide +kernel
theorem dX0_swap_10 : decode cX0_swap 10 = .ok (.if_icmp .ge 16, 3) := by decide +kernel
theorem dX0_swap_13 : decode cX0_swap 13 = .ok (.iload_n 2, 1) := by decide +kernel
theorem dX0_swap_14 : decode cX0_swap 14 = .ok (.ifCond .lt 12, 3) := by decide +kernel
theorem dX0_swap_17 : decode cX0_swap 17 = .ok (.iload_n 2, 1) := by decide +kernel
theorem dX0_swap_18 : decode cX0_swap 18 = .ok (.aload_n 0, 1) := by decide +kernel
theorem dX0_swap_19 : decode cX0_swap 19 = .ok (.getfield 9, 3) := by decide +kernel
theorem dX0_swap_22 : decode cX0_swap 22 = .ok (.arraylength, 1) := by decide +kernel
theorem dX0_swap_23 : decode cX0_swap 23 = .ok (.if_icmp .lt 4, 3) := by decide +kernel
theorem dX0_swap_26 : decode cX0_swap 26 = .ok (.return_, 1) := by decide +kernel
theorem dX0_swap_27 : decode cX0_swap 27 = .ok (.aload_n 0, 1) := by decide +kernel
theorem dX0_swap_28 : decode cX0_swap 28 = .ok (.getfield 9, 3) := by decide +kernel
theorem dX0_swap_31 : decode cX0_swap 31 = .ok (.iload_n 1, 1) := by decide +kernel
theorem dX0_swap_32 : decode cX0_swap 32 = .ok (.iaload, 1) := by decide +kernel
theorem dX0_swap_33 : decode cX0_swap 33 = .ok (.istore_n 3, 1) := by decide +kernel
theorem dX0_swap_34 : decode cX0_swap 34 = .ok (.aload_n 0, 1) := by decide +kernel
theorem dX0_swap_35 : decode cX0_swap 35 = .ok (.getfield 9, 3) := by decide +kernel
theorem dX0_swap_38 : decode cX0_swap 38 = .ok (.iload_n 1, 1) := by decide +kernel
theorem dX0_swap_39 : decode cX0_swap 39 = .ok (.aload_n 0, 1) := by decide +kernel
theorem dX0_swap_40 : decode cX0_swap 40 = .ok (.getfield 9, 3) := by decide +kernel
theorem dX0_swap_43 : decode cX0_swap 43 = .ok (.iload_n 2, 1) := by decide +kernel
theorem dX0_swap_44 : decode cX0_swap 44 = .ok (.iaload, 1) := by decide +kernel
theorem dX0_swap_45 : decode cX0_swap 45 = .ok (.iastore, 1) := by decide +kernel
theorem dX0_swap_46 : decode cX0_swap 46 = .ok (.aload_n 0, 1) := by decide +kernel
theorem dX0_swap_47 : decode cX0_swap 47 = .ok (.getfield 9, 3) := by decide +kernel
theorem dX0_swap_50 : decode cX0_swap 50 = .ok (.iload_n 2, 1) := by decide +kernel
theorem dX0_swap_51 : decode cX0_swap 51 = .ok (.iload_n 3, 1) := by decide +kernel
theorem dX0_swap_52 : decode cX0_swap 52 = .ok (.iastore, 1) := by decide +kernel
theorem dX0_swap_53 : decode cX0_swap 53 = .ok (.return_, 1) := by decide +kernel
theorem dX1_init_0 : decode cX1_init 0 = .ok (.aload_n 0, 1) := by decide +kernel
theorem dX1_init_1 : decode cX1_init 1 = .ok (.invokespecial 3, 3) := by decide +kernel
theorem dX1_init_4 : decode cX1_init 4 = .ok (.aload_n 0, 1) := by decide +kernel
theorem dX1_init_5 : decode cX1_init 5 = .ok (.bipush 38, 2) := by decide +kernel
theorem dX1_init_7 : decode cX1_init 7 = .ok (.newarray .long, 2) := by decide +kernel
theorem dX1_init_9 : decode cX1_init 9 = .ok (.putfield 9, 3) := by decide +kernel
theorem dX1_init_12 : decode cX1_init 12 = .ok (.aload_n 0, 1) := by decide +kernel
theorem dX1_init_13 : decode cX1_init 13 = .ok (.bipush 38, 2) := by decide +kernel
theorem dX1_init_15 : decode cX1_init 15 = .ok (.newarray .int, 2) := by decide +kernel
theorem dX1_init_17 : decode cX1_init 17 = .ok (.putfield 15, 3) := by decide +kernel
theorem dX1_init_20 : decode cX1_init 20 = .ok (.return_, 1) := by decide +kernel
set_option maxRecDepth 20000 in
theorem ggX1_clear_J7_fill_d0a16 : GoodIn wsX1_clear wsJ7_fill_d0a16 := goodIn_r _ [7] (by decide +kernel) (by decide +kernel)
set_option maxRecDepth 20000 in
theorem gX1_clear_J7_fill_d0a16 : GoodIn wsX1_clear (va_wsS RX1 23 yJ7_fill_d0a16 wsJ7_fill_d0a16) := goodIn_app (goodIn_of _ (by decide +kernel)) ggX1_clear_J7_fill_d0a16
set_option maxRecDepth 20000 in
theorem ggX1_clear_J7_fill_53178 : GoodIn wsX1_clear wsJ7_fill_53178 := goodIn_r _ [10] (by decide +kernel) (by decide +kernel)
set_option maxRecDepth 20000 in
theorem gX1_clear_J7_fill_53178 : GoodIn wsX1_clear (va_wsS RX1 29 yJ7_fill_53178 wsJ7_fill_53178) := goodIn_app (goodIn_of _ (by decide +kernel)) ggX1_clear_J7_fill_53178
theorem dX1_clear_0 : decode cX1_clear 0 = .ok (.aload_n 0, 1) := by decide +kernel
theorem dX1_clear_1 : decode cX1_clear 1 = .ok (.iconst 0, 1) := by decide +kernel
theorem dX1_clear_2 : decode cX1_clear 2 = .ok (.putfield 19, 3) := by decide +kernel
theorem dX1_clear_5 : decode cX1_clear 5 = .ok (.aload_n 0, 1) := by decide +kernel
theorem dX1_clear_6 : decode cX1_clear 6 = .ok (.getfield 9, 3) := by decide +kernel
theorem dX1_clear_9 : decode cX1_clear 9 = .ok (.lconst 0, 1) := by decide +kernel
theorem dX1_clear_10 : decode cX1_clear 10 = .ok (.invokestatic 23, 3) := by decide +kernel
theorem dX1_clear_13 : decode cX1_clear 13 = .ok (.aload_n 0, 1) := by decide +kernel
theorem dX1_clear_14 : decode cX1_clear 14 = .ok (.getfield 15, 3) := by decide +kernel
theorem dX1_clear_17 : decode cX1_clear 17 = .ok (.iconst 0, 1) := by decide +kernel
theorem dX1_clear_18 : decode cX1_clear 18 = .ok (.invokestatic 29, 3) := by decide +kernel
theorem dX1_clear_21 : decode cX1_clear 21 = .ok (.return_, 1) := by decide +kernel
theorem dX1_rowCount_0 : decode cX1_rowCount 0 = .ok (.aload_n 0, 1) := by decide +kernel
theorem dX1_rowCount_1 : decode cX1_rowCount 1 = .ok (.getfield 19, 3) := by decide +kernel
theorem dX1_rowCount_4 : decode cX1_rowCount 4 = .ok (.ireturn, 1) := by decide +kernel
set_option maxRecDepth 20000 in
theorem ggX1_remainder_X5_holds : GoodIn wsX1_remainder wsX5_holds := goodIn_r _ [4, 5, 6, 3, 7] (by decide +kernel) (by decide +kernel)
set_option maxRecDepth 20000 in
theorem gX1_remainder_X5_holds_n32 : GoodIn wsX1_remainder (wsX5_holds) := ggX1_remainder_X5_holds
theorem dX1_remainder_0 : decode cX1_remainder 0 = .ok (.lload_n 1, 1) := by decide +kernel
theorem dX1_remainder_1 : decode cX1_remainder 1 = .ok (.lstore_n 3, 1) := by decide +kernel
theorem dX1_remainder_2 : decode cX1_remainder 2 = .ok (.iconst 0, 1) := by decide +kernel
theorem dX1_remainder_3 : decode cX1_remainder 3 = .ok (.istore 5, 2) := by decide +kernel
theorem dX1_remainder_5 : decode cX1_remainder 5 = .ok (.iload 5, 2) := by decide +kernel
theorem dX1_remainder_7 : decode cX1_remainder 7 = .ok (.bipush 38, 2) := by decide +kernel
theorem dX1_remainder_9 : decode cX1_remainder 9 = .ok (.if_icmp .ge 28, 3) := by decide +kernel
theorem dX1_remainder_12 : decode cX1_remainder 12 = .ok (.lload_n 1, 1) := by decide +kernel
theorem dX1_remainder_13 : decode cX1_remainder 13 = .ok (.iload 5, 2) := by decide +kernel
theorem dX1_remainder_15 : decode cX1_remainder 15 = .ok (.invokestatic 32, 3) := by decide +kernel
theorem dX1_remainder_18 : decode cX1_remainder 18 = .ok (.ifCond .eq 13, 3) := by decide +kernel
theorem dX1_remainder_21 : decode cX1_remainder 21 = .ok (.lload_n 3, 1) := by decide +kernel
theorem dX1_remainder_22 : decode cX1_remainder 22 = .ok (.aload_n 0, 1) := by decide +kernel
theorem dX1_remainder_23 : decode cX1_remainder 23 = .ok (.getfield 9, 3) := by decide +kernel
theorem dX1_remainder_26 : decode cX1_remainder 26 = .ok (.iload 5, 2) := by decide +kernel
theorem dX1_remainder_28 : decode cX1_remainder 28 = .ok (.laload, 1) := by decide +kernel
theorem dX1_remainder_29 : decode cX1_remainder 29 = .ok (.lxor, 1) := by decide +kernel
theorem dX1_remainder_30 : decode cX1_remainder 30 = .ok (.lstore_n 3, 1) := by decide +kernel
theorem dX1_remainder_31 : decode cX1_remainder 31 = .ok (.iinc 5 1, 3) := by decide +kernel
theorem dX1_remainder_34 : decode cX1_remainder 34 = .ok (.goto (-29), 3) := by decide +kernel
theorem dX1_remainder_37 : decode cX1_remainder 37 = .ok (.lload_n 3, 1) := by decide +kernel
theorem dX1_remainder_38 : decode cX1_remainder 38 = .ok (.lreturn, 1) := by decide +kernel
set_option maxRecDepth 20000 in
theorem ggX1_knownValue_X5_holds : GoodIn wsX1_knownValue wsX5_holds := goodIn_r _ [4, 5, 6, 3, 7] (by decide +kernel) (by decide +kernel)
set_option maxRecDepth 20000 in
theorem gX1_knownValue_X5_holds_n32 : GoodIn wsX1_knownValue (wsX5_holds) := ggX1_knownValue_X5_holds
theorem dX1_knownValue_0 : decode cX1_knownValue 0 = .ok (.iconst 0, 1) := by decide +kernel
theorem dX1_knownValue_1 : decode cX1_knownValue 1 = .ok (.istore_n 3, 1) := by decide +kernel
theorem dX1_knownValue_2 : decode cX1_knownValue 2 = .ok (.iconst 0, 1) := by decide +kernel
theorem dX1_knownValue_3 : decode cX1_knownValue 3 = .ok (.istore 4, 2) := by decide +kernel
theorem dX1_knownValue_5 : decode cX1_knownValue 5 = .ok (.iload 4, 2) := by decide +kernel
theorem dX1_knownValue_7 : decode cX1_knownValue 7 = .ok (.bipush 38, 2) := by decide +kernel
theorem dX1_knownValue_9 : decode cX1_knownValue 9 = .ok (.if_icmp .ge 28, 3) := by decide +kernel
theorem dX1_knownValue_12 : decode cX1_knownValue 12 = .ok (.lload_n 1, 1) := by decide +kernel
theorem dX1_knownValue_13 : decode cX1_knownValue 13 = .ok (.iload 4, 2) := by decide +kernel
theorem dX1_knownValue_15 : decode cX1_knownValue 15 = .ok (.invokestatic 32, 3) := by decide +kernel
theorem dX1_knownValue_18 : decode cX1_knownValue 18 = .ok (.ifCond .eq 13, 3) := by decide +kernel
theorem dX1_knownValue_21 : decode cX1_knownValue 21 = .ok (.iload_n 3, 1) := by decide +kernel
theorem dX1_knownValue_22 : decode cX1_knownValue 22 = .ok (.aload_n 0, 1) := by decide +kernel
theorem dX1_knownValue_23 : decode cX1_knownValue 23 = .ok (.getfield 15, 3) := by decide +kernel
theorem dX1_knownValue_26 : decode cX1_knownValue 26 = .ok (.iload 4, 2) := by decide +kernel
theorem dX1_knownValue_28 : decode cX1_knownValue 28 = .ok (.iaload, 1) := by decide +kernel
theorem dX1_knownValue_29 : decode cX1_knownValue 29 = .ok (.ixor, 1) := by decide +kernel
theorem dX1_knownValue_30 : decode cX1_knownValue 30 = .ok (.istore_n 3, 1) := by decide +kernel
theorem dX1_knownValue_31 : decode cX1_knownValue 31 = .ok (.iinc 4 1, 3) := by decide +kernel
theorem dX1_knownValue_34 : decode cX1_knownValue 34 = .ok (.goto (-29), 3) := by decide +kernel
theorem dX1_knownValue_37 : decode cX1_knownValue 37 = .ok (.iload_n 3, 1) := by decide +kernel
theorem dX1_knownValue_38 : decode cX1_knownValue 38 = .ok (.ireturn, 1) := by decide +kernel
set_option maxRecDepth 20000 in
theorem ggX1_contradicts_X1_remainder : GoodIn wsX1_contradicts wsX1_remainder := goodIn_r _ [5, 6, 7, 8, 9, 10, 11, 12, 18, 19, 20] (by decide +kernel) (by decide +kernel)
set_option maxRecDepth 20000 in
theorem gX1_contradicts_X1_remainder : GoodIn wsX1_contradicts (wsV RX1 36 RX1 yX1_remainder wsX1_remainder) := goodIn_app (goodIn_of _ (by decide +kernel)) ggX1_contradicts_X1_remainder
set_option maxRecDepth 20000 in
theorem ggX1_contradicts_X1_knownValue : GoodIn wsX1_contradicts wsX1_knownValue := goodIn_r _ [16, 17, 7, 8, 9, 10, 11, 12, 18, 19, 20] (by decide +kernel) (by decide +kernel)
set_option maxRecDepth 20000 in
theorem gX1_contradicts_X1_knownValue : GoodIn wsX1_contradicts (wsV RX1 40 RX1 yX1_knownValue wsX1_knownValue) := goodIn_app (goodIn_of _ (by decide +kernel)) ggX1_contradicts_X1_knownValue
theorem dX1_contradicts_0 : decode cX1_contradicts 0 = .ok (.aload_n 0, 1) := by decide +kernel
theorem dX1_contradicts_1 : decode cX1_contradicts 1 = .ok (.lload_n 1, 1) := by decide +kernel
theorem dX1_contradicts_2 : decode cX1_contradicts 2 = .ok (.invokevirtual 36, 3) := by decide +kernel
theorem dX1_contradicts_5 : decode cX1_contradicts 5 = .ok (.lconst 0, 1) := by decide +kernel
theorem dX1_contradicts_6 : decode cX1_contradicts 6 = .ok (.lcmp, 1) := by decide +kernel
theorem dX1_contradicts_7 : decode cX1_contradicts 7 = .ok (.ifCond .ne 16, 3) := by decide +kernel
theorem dX1_contradicts_10 : decode cX1_contradicts 10 = .ok (.aload_n 0, 1) := by decide +kernel
theorem dX1_contradicts_11 : decode cX1_contradicts 11 = .ok (.lload_n 1, 1) := by decide +kernel
theorem dX1_contradicts_12 : decode cX1_contradicts 12 = .ok (.invokevirtual 40, 3) := by decide +kernel
theorem dX1_contradicts_15 : decode cX1_contradicts 15 = .ok (.iload_n 3, 1) := by decide +kernel
theorem dX1_contradicts_16 : decode cX1_contradicts 16 = .ok (.if_icmp .eq 7, 3) := by decide +kernel
theorem dX1_contradicts_19 : decode cX1_contradicts 19 = .ok (.iconst 1, 1) := by decide +kernel
theorem dX1_contradicts_20 : decode cX1_contradicts 20 = .ok (.goto 4, 3) := by decide +kernel
theorem dX1_contradicts_23 : decode cX1_contradicts 23 = .ok (.iconst 0, 1) := by decide +kernel
theorem dX1_contradicts_24 : decode cX1_contradicts 24 = .ok (.ireturn, 1) := by decide +kernel
set_option maxRecDepth 20000 in
theorem ggX1_fixes_X1_remainderOfBlock : GoodIn wsX1_fixes wsX1_remainderOfBlock := goodIn_r _ [5, 6, 7, 8, 9, 10, 11, 12] (by decide +kernel) (by decide +kernel)
set_option maxRecDepth 20000 in
theorem gX1_fixes_X1_remainderOfBlock : GoodIn wsX1_fixes (wsV RX1 44 RX1 yX1_remainderOfBlock wsX1_remainderOfBlock) := goodIn_app (goodIn_of _ (by decide +kernel)) ggX1_fixes_X1_remainderOfBlock
theorem dX1_fixes_0 : decode cX1_fixes 0 = .ok (.aload_n 0, 1) := by decide +kernel
theorem dX1_fixes_1 : decode cX1_fixes 1 = .ok (.iload_n 1, 1) := by decide +kernel
theorem dX1_fixes_2 : decode cX1_fixes 2 = .ok (.invokevirtual 44, 3) := by decide +kernel
theorem dX1_fixes_5 : decode cX1_fixes 5 = .ok (.lconst 0, 1) := by decide +kernel
theorem dX1_fixes_6 : decode cX1_fixes 6 = .ok (.lcmp, 1) := by decide +kernel
theorem dX1_fixes_7 : decode cX1_fixes 7 = .ok (.ifCond .ne 7, 3) := by decide +kernel
theorem dX1_fixes_10 : decode cX1_fixes 10 = .ok (.iconst 1, 1) := by decide +kernel
theorem dX1_fixes_11 : decode cX1_fixes 11 = .ok (.goto 4, 3) := by decide +kernel
theorem dX1_fixes_14 : decode cX1_fixes 14 = .ok (.iconst 0, 1) := by decide +kernel
theorem dX1_fixes_15 : decode cX1_fixes 15 = .ok (.ireturn, 1) := by decide +kernel
set_option maxRecDepth 20000 in
theorem ggX1_countLeaving_X1_remainderOfBlock : GoodIn wsX1_countLeaving wsX1_remainderOfBlock := goodIn_r _ [5, 6, 7, 8, 9, 10, 11, 12] (by decide +kernel) (by decide +kernel)
set_option maxRecDepth 20000 in
theorem gX1_countLeaving_X1_remainderOfBlock : GoodIn wsX1_countLeaving (wsV RX1 44 RX1 yX1_remainderOfBlock wsX1_remainderOfBlock) := goodIn_app (goodIn_of _ (by decide +kernel)) ggX1_countLeaving_X1_remainderOfBlock
theorem dX1_countLeaving_0 : decode cX1_countLeaving 0 = .ok (.iconst 0, 1) := by decide +kernel
theorem dX1_countLeaving_1 : decode cX1_countLeaving 1 = .ok (.istore 4, 2) := by decide +kernel
theorem dX1_countLeaving_3 : decode cX1_countLeaving 3 = .ok (.iconst 0, 1) := by decide +kernel
theorem dX1_countLeaving_4 : decode cX1_countLeaving 4 = .ok (.istore 5, 2) := by decide +kernel
theorem dX1_countLeaving_6 : decode cX1_countLeaving 6 = .ok (.iload 5, 2) := by decide +kernel
theorem dX1_countLeaving_8 : decode cX1_countLeaving 8 = .ok (.iload_n 3, 1) := by decide +kernel
theorem dX1_countLeaving_9 : decode cX1_countLeaving 9 = .ok (.if_icmp .ge 23, 3) := by decide +kernel
theorem dX1_countLeaving_12 : decode cX1_countLeaving 12 = .ok (.aload_n 0, 1) := by decide +kernel
theorem dX1_countLeaving_13 : decode cX1_countLeaving 13 = .ok (.iload 5, 2) := by decide +kernel
theorem dX1_countLeaving_15 : decode cX1_countLeaving 15 = .ok (.invokevirtual 44, 3) := by decide +kernel
theorem dX1_countLeaving_18 : decode cX1_countLeaving 18 = .ok (.lload_n 1, 1) := by decide +kernel
theorem dX1_countLeaving_19 : decode cX1_countLeaving 19 = .ok (.lcmp, 1) := by decide +kernel
theorem dX1_countLeaving_20 : decode cX1_countLeaving 20 = .ok (.ifCond .ne 6, 3) := by decide +kernel
theorem dX1_countLeaving_23 : decode cX1_countLeaving 23 = .ok (.iinc 4 1, 3) := by decide +kernel
theorem dX1_countLeaving_26 : decode cX1_countLeaving 26 = .ok (.iinc 5 1, 3) := by decide +kernel
theorem dX1_countLeaving_29 : decode cX1_countLeaving 29 = .ok (.goto (-23), 3) := by decide +kernel
theorem dX1_countLeaving_32 : decode cX1_countLeaving 32 = .ok (.iload 4, 2) := by decide +kernel
theorem dX1_countLeaving_34 : decode cX1_countLeaving 34 = .ok (.ireturn, 1) := by decide +kernel
set_option maxRecDepth 20000 in
theorem ggX1_addEquation_X1_remainder : GoodIn wsX1_addEquation wsX1_remainder := goodIn_r _ [8, 1, 9, 10, 11, 12, 13, 14, 28, 29, 30] (by decide +kernel) (by decide +kernel)
set_option maxRecDepth 20000 in
theorem gX1_addEquation_X1_remainder : GoodIn wsX1_addEquation (wsV RX1 36 RX1 yX1_remainder wsX1_remainder) := goodIn_app (goodIn_of _ (by decide +kernel)) ggX1_addEquation_X1_remainder
set_option maxRecDepth 20000 in
theorem ggX1_addEquation_X5_lowestOf : GoodIn wsX1_addEquation wsX5_lowestOf := goodIn_r _ [16, 17, 18, 19, 20, 21, 22, 23] (by decide +kernel) (by decide +kernel)
set_option maxRecDepth 20000 in
theorem gX1_addEquation_X5_lowestOf_n48 : GoodIn wsX1_addEquation (wsX5_lowestOf) := ggX1_addEquation_X5_lowestOf
set_option maxRecDepth 20000 in
theorem ggX1_addEquation_X1_knownValue : GoodIn wsX1_addEquation wsX1_knownValue := goodIn_r _ [27, 2, 9, 10, 11, 12, 13, 14, 28, 29, 30] (by decide +kernel) (by decide +kernel)
set_option maxRecDepth 20000 in
theorem gX1_addEquation_X1_knownValue : GoodIn wsX1_addEquation (wsV RX1 40 RX1 yX1_knownValue wsX1_knownValue) := goodIn_app (goodIn_of _ (by decide +kernel)) ggX1_addEquation_X1_knownValue
set_option maxRecDepth 20000 in
theorem ggX1_addEquation_X5_holds : GoodIn wsX1_addEquation wsX5_holds := goodIn_r _ [11, 12, 13, 10, 14] (by decide +kernel) (by decide +kernel)
set_option maxRecDepth 20000 in
theorem gX1_addEquation_X5_holds_n32 : GoodIn wsX1_addEquation (wsX5_holds) := ggX1_addEquation_X5_holds
theorem dX1_addEquation_0 : decode cX1_addEquation 0 = .ok (.aload_n 0, 1) := by decide +kernel
theorem dX1_addEquation_1 : decode cX1_addEquation 1 = .ok (.lload_n 1, 1) := by decide +kernel
theorem dX1_addEquation_2 : decode cX1_addEquation 2 = .ok (.invokevirtual 36, 3) := by decide +kernel
theorem dX1_addEquation_5 : decode cX1_addEquation 5 = .ok (.lstore 4, 2) := by decide +kernel
theorem dX1_addEquation_7 : decode cX1_addEquation 7 = .ok (.lload 4, 2) := by decide +kernel
theorem dX1_addEquation_9 : decode cX1_addEquation 9 = .ok (.invokestatic 48, 3) := by decide +kernel
theorem dX1_addEquation_12 : decode cX1_addEquation 12 = .ok (.istore 6, 2) := by decide +kernel
theorem dX1_addEquation_14 : decode cX1_addEquation 14 = .ok (.lload 4, 2) := by decide +kernel
theorem dX1_addEquation_16 : decode cX1_addEquation 16 = .ok (.lconst 0, 1) := by decide +kernel
theorem dX1_addEquation_17 : decode cX1_addEquation 17 = .ok (.lcmp, 1) := by decide +kernel
theorem dX1_addEquation_18 : decode cX1_addEquation 18 = .ok (.ifCond .eq 10, 3) := by decide +kernel
theorem dX1_addEquation_21 : decode cX1_addEquation 21 = .ok (.iload 6, 2) := by decide +kernel
theorem dX1_addEquation_23 : decode cX1_addEquation 23 = .ok (.bipush 38, 2) := by decide +kernel
theorem dX1_addEquation_25 : decode cX1_addEquation 25 = .ok (.if_icmp .lt 4, 3) := by decide +kernel
theorem dX1_addEquation_28 : decode cX1_addEquation 28 = .ok (.return_, 1) := by decide +kernel
theorem dX1_addEquation_29 : decode cX1_addEquation 29 = .ok (.iload_n 3, 1) := by decide +kernel
theorem dX1_addEquation_30 : decode cX1_addEquation 30 = .ok (.aload_n 0, 1) := by decide +kernel
theorem dX1_addEquation_31 : decode cX1_addEquation 31 = .ok (.lload_n 1, 1) := by decide +kernel
theorem dX1_addEquation_32 : decode cX1_addEquation 32 = .ok (.invokevirtual 40, 3) := by decide +kernel
theorem dX1_addEquation_35 : decode cX1_addEquation 35 = .ok (.ixor, 1) := by decide +kernel
theorem dX1_addEquation_36 : decode cX1_addEquation 36 = .ok (.istore 7, 2) := by decide +kernel
theorem dX1_addEquation_38 : decode cX1_addEquation 38 = .ok (.iconst 0, 1) := by decide +kernel
theorem dX1_addEquation_39 : decode cX1_addEquation 39 = .ok (.istore 8, 2) := by decide +kernel
theorem dX1_addEquation_41 : decode cX1_addEquation 41 = .ok (.iload 8, 2) := by decide +kernel
theorem dX1_addEquation_43 : decode cX1_addEquation 43 = .ok (.bipush 38, 2) := by decide +kernel
theorem dX1_addEquation_45 : decode cX1_addEquation 45 = .ok (.if_icmp .ge 48, 3) := by decide +kernel
theorem dX1_addEquation_48 : decode cX1_addEquation 48 = .ok (.aload_n 0, 1) := by decide +kernel
theorem dX1_addEquation_49 : decode cX1_addEquation 49 = .ok (.getfield 9, 3) := by decide +kernel
theorem dX1_addEquation_52 : decode cX1_addEquation 52 = .ok (.iload 8, 2) := by decide +kernel
theorem dX1_addEquation_54 : decode cX1_addEquation 54 = .ok (.laload, 1) := by decide +kernel
theorem dX1_addEquation_55 : decode cX1_addEquation 55 = .ok (.iload 6, 2) := by decide +kernel
theorem dX1_addEquation_57 : decode cX1_addEquation 57 = .ok (.invokestatic 32, 3) := by decide +kernel
theorem dX1_addEquation_60 : decode cX1_addEquation 60 = .ok (.ifCond .eq 27, 3) := by decide +kernel
theorem dX1_addEquation_63 : decode cX1_addEquation 63 = .ok (.aload_n 0, 1) := by decide +kernel
theorem dX1_addEquation_64 : decode cX1_addEquation 64 = .ok (.getfield 9, 3) := by decide +kernel
theorem dX1_addEquation_67 : decode cX1_addEquation 67 = .ok (.iload 8, 2) := by decide +kernel
theorem dX1_addEquation_69 : decode cX1_addEquation 69 = .ok (.dup2, 1) := by decide +kernel
theorem dX1_addEquation_70 : decode cX1_addEquation 70 = .ok (.laload, 1) := by decide +kernel
theorem dX1_addEquation_71 : decode cX1_addEquation 71 = .ok (.lload 4, 2) := by decide +kernel
theorem dX1_addEquation_73 : decode cX1_addEquation 73 = .ok (.lxor, 1) := by decide +kernel
theorem dX1_addEquation_74 : decode cX1_addEquation 74 = .ok (.lastore, 1) := by decide +kernel
theorem dX1_addEquation_75 : decode cX1_addEquation 75 = .ok (.aload_n 0, 1) := by decide +kernel
theorem dX1_addEquation_76 : decode cX1_addEquation 76 = .ok (.getfield 15, 3) := by decide +kernel
theorem dX1_addEquation_79 : decode cX1_addEquation 79 = .ok (.iload 8, 2) := by decide +kernel
theorem dX1_addEquation_81 : decode cX1_addEquation 81 = .ok (.dup2, 1) := by decide +kernel
theorem dX1_addEquation_82 : decode cX1_addEquation 82 = .ok (.iaload, 1) := by decide +kernel
theorem dX1_addEquation_83 : decode cX1_addEquation 83 = .ok (.iload 7, 2) := by decide +kernel
theorem dX1_addEquation_85 : decode cX1_addEquation 85 = .ok (.ixor, 1) := by decide +kernel
theorem dX1_addEquation_86 : decode cX1_addEquation 86 = .ok (.iastore, 1) := by decide +kernel
theorem dX1_addEquation_87 : decode cX1_addEquation 87 = .ok (.iinc 8 1, 3) := by decide +kernel
theorem dX1_addEquation_90 : decode cX1_addEquation 90 = .ok (.goto (-49), 3) := by decide +kernel
theorem dX1_addEquation_93 : decode cX1_addEquation 93 = .ok (.aload_n 0, 1) := by decide +kernel
theorem dX1_addEquation_94 : decode cX1_addEquation 94 = .ok (.getfield 9, 3) := by decide +kernel
theorem dX1_addEquation_97 : decode cX1_addEquation 97 = .ok (.iload 6, 2) := by decide +kernel
theorem dX1_addEquation_99 : decode cX1_addEquation 99 = .ok (.lload 4, 2) := by decide +kernel
theorem dX1_addEquation_101 : decode cX1_addEquation 101 = .ok (.lastore, 1) := by decide +kernel
theorem dX1_addEquation_102 : decode cX1_addEquation 102 = .ok (.aload_n 0, 1) := by decide +kernel
theorem dX1_addEquation_103 : decode cX1_addEquation 103 = .ok (.getfield 15, 3) := by decide +kernel
theorem dX1_addEquation_106 : decode cX1_addEquation 106 = .ok (.iload 6, 2) := by decide +kernel
theorem dX1_addEquation_108 : decode cX1_addEquation 108 = .ok (.iload 7, 2) := by decide +kernel
theorem dX1_addEquation_110 : decode cX1_addEquation 110 = .ok (.iastore, 1) := by decide +kernel
theorem dX1_addEquation_111 : decode cX1_addEquation 111 = .ok (.aload_n 0, 1) := by decide +kernel
theorem dX1_addEquation_112 : decode cX1_addEquation 112 = .ok (.dup, 1) := by decide +kernel
theorem dX1_addEquation_113 : decode cX1_addEquation 113 = .ok (.getfield 19, 3) := by decide +kernel
theorem dX1_addEquation_116 : decode cX1_addEquation 116 = .ok (.iconst 1, 1) := by decide +kernel
theorem dX1_addEquation_117 : decode cX1_addEquation 117 = .ok (.iadd, 1) := by decide +kernel
theorem dX1_addEquation_118 : decode cX1_addEquation 118 = .ok (.putfield 19, 3) := by decide +kernel
theorem dX1_addEquation_121 : decode cX1_addEquation 121 = .ok (.return_, 1) := by decide +kernel
set_option maxRecDepth 20000 in
theorem ggX1_remainderOfBlock_X5_setOf : GoodIn wsX1_remainderOfBlock wsX5_setOf := goodIn_r _ [4] (by decide +kernel) (by decide +kernel)
set_option maxRecDepth 20000 in
theorem gX1_remainderOfBlock_X5_setOf_n51 : GoodIn wsX1_remainderOfBlock (wsX5_setOf) := ggX1_remainderOfBlock_X5_setOf
theorem dX1_remainderOfBlock_0 : decode cX1_remainderOfBlock 0 = .ok (.iload_n 1, 1) := by decide +kernel
theorem dX1_remainderOfBlock_1 : decode cX1_remainderOfBlock 1 = .ok (.ifCond .lt 18, 3) := by decide +kernel
theorem dX1_remainderOfBlock_4 : decode cX1_remainderOfBlock 4 = .ok (.iload_n 1, 1) := by decide +kernel
theorem dX1_remainderOfBlock_5 : decode cX1_remainderOfBlock 5 = .ok (.bipush 38, 2) := by decide +kernel
theorem dX1_remainderOfBlock_7 : decode cX1_remainderOfBlock 7 = .ok (.if_icmp .ge 12, 3) := by decide +kernel
theorem dX1_remainderOfBlock_10 : decode cX1_remainderOfBlock 10 = .ok (.aload_n 0, 1) := by decide +kernel
theorem dX1_remainderOfBlock_11 : decode cX1_remainderOfBlock 11 = .ok (.getfield 9, 3) := by decide +kernel
theorem dX1_remainderOfBlock_14 : decode cX1_remainderOfBlock 14 = .ok (.iload_n 1, 1) := by decide +kernel
theorem dX1_remainderOfBlock_15 : decode cX1_remainderOfBlock 15 = .ok (.laload, 1) := by decide +kernel
theorem dX1_remainderOfBlock_16 : decode cX1_remainderOfBlock 16 = .ok (.goto 4, 3) := by decide +kernel
theorem dX1_remainderOfBlock_19 : decode cX1_remainderOfBlock 19 = .ok (.lconst 0, 1) := by decide +kernel
theorem dX1_remainderOfBlock_20 : decode cX1_remainderOfBlock 20 = .ok (.lstore_n 2, 1) := by decide +kernel
theorem dX1_remainderOfBlock_21 : decode cX1_remainderOfBlock 21 = .ok (.iload_n 1, 1) := by decide +kernel
theorem dX1_remainderOfBlock_22 : decode cX1_remainderOfBlock 22 = .ok (.invokestatic 51, 3) := by decide +kernel
theorem dX1_remainderOfBlock_25 : decode cX1_remainderOfBlock 25 = .ok (.lload_n 2, 1) := by decide +kernel
theorem dX1_remainderOfBlock_26 : decode cX1_remainderOfBlock 26 = .ok (.lxor, 1) := by decide +kernel
theorem dX1_remainderOfBlock_27 : decode cX1_remainderOfBlock 27 = .ok (.lreturn, 1) := by decide +kernel
theorem dX2_init_0 : decode cX2_init 0 = .ok (.aload_n 0, 1) := by decide +kernel
theorem dX2_init_1 : decode cX2_init 1 = .ok (.invokespecial 3, 3) := by decide +kernel
theorem dX2_init_4 : decode cX2_init 4 = .ok (.aload_n 0, 1) := by decide +kernel
theorem dX2_init_5 : decode cX2_init 5 = .ok (.bipush 126, 2) := by decide +kernel
theorem dX2_init_7 : decode cX2_init 7 = .ok (.newarray .long, 2) := by decide +kernel
theorem dX2_init_9 : decode cX2_init 9 = .ok (.putfield 9, 3) := by decide +kernel
theorem dX2_init_12 : decode cX2_init 12 = .ok (.aload_n 0, 1) := by decide +kernel
theorem dX2_init_13 : decode cX2_init 13 = .ok (.bipush 38, 2) := by decide +kernel
theorem dX2_init_15 : decode cX2_init 15 = .ok (.newarray .int, 2) := by decide +kernel
theorem dX2_init_17 : decode cX2_init 17 = .ok (.putfield 15, 3) := by decide +kernel
theorem dX2_init_20 : decode cX2_init 20 = .ok (.aload_n 0, 1) := by decide +kernel
theorem dX2_init_21 : decode cX2_init 21 = .ok (.bipush 38, 2) := by decide +kernel
theorem dX2_init_23 : decode cX2_init 23 = .ok (.newarray .int, 2) := by decide +kernel
theorem dX2_init_25 : decode cX2_init 25 = .ok (.putfield 19, 3) := by decide +kernel
theorem dX2_init_28 : decode cX2_init 28 = .ok (.return_, 1) := by decide +kernel
set_option maxRecDepth 20000 in
theorem ggX2_clear_J7_fill_53178 : GoodIn wsX2_clear wsJ7_fill_53178 := goodIn_r _ [8] (by decide +kernel) (by decide +kernel)
set_option maxRecDepth 20000 in
theorem gX2_clear_J7_fill_53178 : GoodIn wsX2_clear (va_wsS RX2 33 yJ7_fill_53178 wsJ7_fill_53178) := goodIn_app (goodIn_of _ (by decide +kernel)) ggX2_clear_J7_fill_53178
theorem dX2_clear_0 : decode cX2_clear 0 = .ok (.aload_n 0, 1) := by decide +kernel
theorem dX2_clear_1 : decode cX2_clear 1 = .ok (.iconst 0, 1) := by decide +kernel
theorem dX2_clear_2 : decode cX2_clear 2 = .ok (.putfield 22, 3) := by decide +kernel
theorem dX2_clear_5 : decode cX2_clear 5 = .ok (.aload_n 0, 1) := by decide +kernel
theorem dX2_clear_6 : decode cX2_clear 6 = .ok (.iconst 0, 1) := by decide +kernel
theorem dX2_clear_7 : decode cX2_clear 7 = .ok (.putfield 26, 3) := by decide +kernel
theorem dX2_clear_10 : decode cX2_clear 10 = .ok (.aload_n 0, 1) := by decide +kernel
theorem dX2_clear_11 : decode cX2_clear 11 = .ok (.lconst 0, 1) := by decide +kernel
theorem dX2_clear_12 : decode cX2_clear 12 = .ok (.putfield 29, 3) := by decide +kernel
theorem dX2_clear_15 : decode cX2_clear 15 = .ok (.aload_n 0, 1) := by decide +kernel
theorem dX2_clear_16 : decode cX2_clear 16 = .ok (.getfield 19, 3) := by decide +kernel
theorem dX2_clear_19 : decode cX2_clear 19 = .ok (.iconst (-1), 1) := by decide +kernel
theorem dX2_clear_20 : decode cX2_clear 20 = .ok (.invokestatic 33, 3) := by decide +kernel
theorem dX2_clear_23 : decode cX2_clear 23 = .ok (.return_, 1) := by decide +kernel
theorem dX2_addEquation_0 : decode cX2_addEquation 0 = .ok (.aload_n 0, 1) := by decide +kernel
theorem dX2_addEquation_1 : decode cX2_addEquation 1 = .ok (.getfield 22, 3) := by decide +kernel
theorem dX2_addEquation_4 : decode cX2_addEquation 4 = .ok (.ifCond .lt 35, 3) := by decide +kernel
theorem dX2_addEquation_7 : decode cX2_addEquation 7 = .ok (.aload_n 0, 1) := by decide +kernel
theorem dX2_addEquation_8 : decode cX2_addEquation 8 = .ok (.getfield 22, 3) := by decide +kernel
theorem dX2_addEquation_11 : decode cX2_addEquation 11 = .ok (.aload_n 0, 1) := by decide +kernel
theorem dX2_addEquation_12 : decode cX2_addEquation 12 = .ok (.getfield 9, 3) := by decide +kernel
theorem dX2_addEquation_15 : decode cX2_addEquation 15 = .ok (.arraylength, 1) := by decide +kernel
theorem dX2_addEquation_16 : decode cX2_addEquation 16 = .ok (.if_icmp .ge 23, 3) := by decide +kernel
theorem dX2_addEquation_19 : decode cX2_addEquation 19 = .ok (.aload_n 0, 1) := by decide +kernel
theorem dX2_addEquation_20 : decode cX2_addEquation 20 = .ok (.getfield 9, 3) := by decide +kernel
theorem dX2_addEquation_23 : decode cX2_addEquation 23 = .ok (.aload_n 0, 1) := by decide +kernel
theorem dX2_addEquation_24 : decode cX2_addEquation 24 = .ok (.getfield 22, 3) := by decide +kernel
theorem dX2_addEquation_27 : decode cX2_addEquation 27 = .ok (.lload_n 1, 1) := by decide +kernel
theorem dX2_addEquation_28 : decode cX2_addEquation 28 = .ok (.lastore, 1) := by decide +kernel
theorem dX2_addEquation_29 : decode cX2_addEquation 29 = .ok (.aload_n 0, 1) := by decide +kernel
theorem dX2_addEquation_30 : decode cX2_addEquation 30 = .ok (.dup, 1) := by decide +kernel
theorem dX2_addEquation_31 : decode cX2_addEquation 31 = .ok (.getfield 22, 3) := by decide +kernel
theorem dX2_addEquation_34 : decode cX2_addEquation 34 = .ok (.iconst 1, 1) := by decide +kernel
theorem dX2_addEquation_35 : decode cX2_addEquation 35 = .ok (.iadd, 1) := by decide +kernel
theorem dX2_addEquation_36 : decode cX2_addEquation 36 = .ok (.putfield 22, 3) := by decide +kernel
theorem dX2_addEquation_39 : decode cX2_addEquation 39 = .ok (.return_, 1) := by decide +kernel
set_option maxRecDepth 20000 in
theorem ggX2_peelOn_X2_lowestReady : GoodIn wsX2_peelOn wsX2_lowestReady := goodIn_r _ [6, 7, 8, 9, 10, 11, 12, 13, 14, 15, 16, 17, 30, 31, 32, 33, 34, 35] (by decide +kernel) (by decide +kernel)
set_option maxRecDepth 20000 in
theorem gX2_peelOn_X2_lowestReady : GoodIn wsX2_peelOn (wsV RX2 39 RX2 yX2_lowestReady wsX2_lowestReady) := goodIn_app (goodIn_of _ (by decide +kernel)) ggX2_peelOn_X2_lowestReady
set_option maxRecDepth 20000 in
theorem ggX2_peelOn_X2_peelWith : GoodIn wsX2_peelOn wsX2_peelWith := goodIn_r _ [21, 8, 9, 10, 1, 22, 23, 24, 25, 26, 27, 12, 13, 14, 15, 16, 17, 28, 29, 30, 31, 32, 33, 34, 35] (by decide +kernel) (by decide +kernel)
set_option maxRecDepth 20000 in
theorem gX2_peelOn_X2_peelWith : GoodIn wsX2_peelOn (wsV RX2 43 RX2 yX2_peelWith wsX2_peelWith) := goodIn_app (goodIn_of _ (by decide +kernel)) ggX2_peelOn_X2_peelWith
theorem dX2_peelOn_0 : decode cX2_peelOn 0 = .ok (.aload_n 0, 1) := by decide +kernel
theorem dX2_peelOn_1 : decode cX2_peelOn 1 = .ok (.getfield 26, 3) := by decide +kernel
theorem dX2_peelOn_4 : decode cX2_peelOn 4 = .ok (.istore_n 1, 1) := by decide +kernel
theorem dX2_peelOn_5 : decode cX2_peelOn 5 = .ok (.iconst 0, 1) := by decide +kernel
theorem dX2_peelOn_6 : decode cX2_peelOn 6 = .ok (.istore_n 2, 1) := by decide +kernel
theorem dX2_peelOn_7 : decode cX2_peelOn 7 = .ok (.iload_n 2, 1) := by decide +kernel
theorem dX2_peelOn_8 : decode cX2_peelOn 8 = .ok (.bipush 38, 2) := by decide +kernel
theorem dX2_peelOn_10 : decode cX2_peelOn 10 = .ok (.if_icmp .ge 27, 3) := by decide +kernel
theorem dX2_peelOn_13 : decode cX2_peelOn 13 = .ok (.aload_n 0, 1) := by decide +kernel
theorem dX2_peelOn_14 : decode cX2_peelOn 14 = .ok (.invokevirtual 39, 3) := by decide +kernel
theorem dX2_peelOn_17 : decode cX2_peelOn 17 = .ok (.istore_n 3, 1) := by decide +kernel
theorem dX2_peelOn_18 : decode cX2_peelOn 18 = .ok (.iload_n 3, 1) := by decide +kernel
theorem dX2_peelOn_19 : decode cX2_peelOn 19 = .ok (.iconst (-1), 1) := by decide +kernel
theorem dX2_peelOn_20 : decode cX2_peelOn 20 = .ok (.if_icmp .ne 6, 3) := by decide +kernel
theorem dX2_peelOn_23 : decode cX2_peelOn 23 = .ok (.goto 14, 3) := by decide +kernel
theorem dX2_peelOn_26 : decode cX2_peelOn 26 = .ok (.aload_n 0, 1) := by decide +kernel
theorem dX2_peelOn_27 : decode cX2_peelOn 27 = .ok (.iload_n 3, 1) := by decide +kernel
theorem dX2_peelOn_28 : decode cX2_peelOn 28 = .ok (.invokevirtual 43, 3) := by decide +kernel
theorem dX2_peelOn_31 : decode cX2_peelOn 31 = .ok (.iinc 2 1, 3) := by decide +kernel
theorem dX2_peelOn_34 : decode cX2_peelOn 34 = .ok (.goto (-27), 3) := by decide +kernel
theorem dX2_peelOn_37 : decode cX2_peelOn 37 = .ok (.aload_n 0, 1) := by decide +kernel
theorem dX2_peelOn_38 : decode cX2_peelOn 38 = .ok (.getfield 26, 3) := by decide +kernel
theorem dX2_peelOn_41 : decode cX2_peelOn 41 = .ok (.iload_n 1, 1) := by decide +kernel
theorem dX2_peelOn_42 : decode cX2_peelOn 42 = .ok (.isub, 1) := by decide +kernel
theorem dX2_peelOn_43 : decode cX2_peelOn 43 = .ok (.ireturn, 1) := by decide +kernel
theorem dX2_equationCount_0 : decode cX2_equationCount 0 = .ok (.aload_n 0, 1) := by decide +kernel
theorem dX2_equationCount_1 : decode cX2_equationCount 1 = .ok (.getfield 22, 3) := by decide +kernel
theorem dX2_equationCount_4 : decode cX2_equationCount 4 = .ok (.ireturn, 1) := by decide +kernel
theorem dX2_peeledCount_0 : decode cX2_peeledCount 0 = .ok (.aload_n 0, 1) := by decide +kernel
theorem dX2_peeledCount_1 : decode cX2_peeledCount 1 = .ok (.getfield 26, 3) := by decide +kernel
theorem dX2_peeledCount_4 : decode cX2_peeledCount 4 = .ok (.ireturn, 1) := by decide +kernel
theorem dX2_peeledInPlace_0 : decode cX2_peeledInPlace 0 = .ok (.iload_n 1, 1) := by decide +kernel
theorem dX2_peeledInPlace_1 : decode cX2_peeledInPlace 1 = .ok (.ifCond .lt 21, 3) := by decide +kernel
theorem dX2_peeledInPlace_4 : decode cX2_peeledInPlace 4 = .ok (.iload_n 1, 1) := by decide +kernel
theorem dX2_peeledInPlace_5 : decode cX2_peeledInPlace 5 = .ok (.aload_n 0, 1) := by decide +kernel
theorem dX2_peeledInPlace_6 : decode cX2_peeledInPlace 6 = .ok (.getfield 15, 3) := by decide +kernel
theorem dX2_peeledInPlace_9 : decode cX2_peeledInPlace 9 = .ok (.arraylength, 1) := by decide +kernel
theorem dX2_peeledInPlace_10 : decode cX2_peeledInPlace 10 = .ok (.if_icmp .ge 12, 3) := by decide +kernel
theorem dX2_peeledInPlace_13 : decode cX2_peeledInPlace 13 = .ok (.aload_n 0, 1) := by decide +kernel
theorem dX2_peeledInPlace_14 : decode cX2_peeledInPlace 14 = .ok (.getfield 15, 3) := by decide +kernel
theorem dX2_peeledInPlace_17 : decode cX2_peeledInPlace 17 = .ok (.iload_n 1, 1) := by decide +kernel
theorem dX2_peeledInPlace_18 : decode cX2_peeledInPlace 18 = .ok (.iaload, 1) := by decide +kernel
theorem dX2_peeledInPlace_19 : decode cX2_peeledInPlace 19 = .ok (.goto 4, 3) := by decide +kernel
theorem dX2_peeledInPlace_22 : decode cX2_peeledInPlace 22 = .ok (.iconst (-1), 1) := by decide +kernel
theorem dX2_peeledInPlace_23 : decode cX2_peeledInPlace 23 = .ok (.ireturn, 1) := by decide +kernel
theorem dX2_equationThatPeeled_0 : decode cX2_equationThatPeeled 0 = .ok (.iload_n 1, 1) := by decide +kernel
theorem dX2_equationThatPeeled_1 : decode cX2_equationThatPeeled 1 = .ok (.ifCond .lt 21, 3) := by decide +kernel
theorem dX2_equationThatPeeled_4 : decode cX2_equationThatPeeled 4 = .ok (.iload_n 1, 1) := by decide +kernel
theorem dX2_equationThatPeeled_5 : decode cX2_equationThatPeeled 5 = .ok (.aload_n 0, 1) := by decide +kernel
theorem dX2_equationThatPeeled_6 : decode cX2_equationThatPeeled 6 = .ok (.getfield 19, 3) := by decide +kernel
theorem dX2_equationThatPeeled_9 : decode cX2_equationThatPeeled 9 = .ok (.arraylength, 1) := by decide +kernel
theorem dX2_equationThatPeeled_10 : decode cX2_equationThatPeeled 10 = .ok (.if_icmp .ge 12, 3) := by decide +kernel
theorem dX2_equationThatPeeled_13 : decode cX2_equationThatPeeled 13 = .ok (.aload_n 0, 1) := by decide +kernel
theorem dX2_equationThatPeeled_14 : decode cX2_equationThatPeeled 14 = .ok (.getfield 19, 3) := by decide +kernel
theorem dX2_equationThatPeeled_17 : decode cX2_equationThatPeeled 17 = .ok (.iload_n 1, 1) := by decide +kernel
theorem dX2_equationThatPeeled_18 : decode cX2_equationThatPeeled 18 = .ok (.iaload, 1) := by decide +kernel
theorem dX2_equationThatPeeled_19 : decode cX2_equationThatPeeled 19 = .ok (.goto 4, 3) := by decide +kernel
theorem dX2_equationThatPeeled_22 : decode cX2_equationThatPeeled 22 = .ok (.iconst (-1), 1) := by decide +kernel
theorem dX2_equationThatPeeled_23 : decode cX2_equationThatPeeled 23 = .ok (.ireturn, 1) := by decide +kernel
set_option maxRecDepth 20000 in
theorem ggX2_lowestReady_J13_bitCount_95d88 : GoodIn wsX2_lowestReady wsJ13_bitCount_95d88 := goodIn_r _ [8, 9, 10, 11] (by decide +kernel) (by decide +kernel)
set_option maxRecDepth 20000 in
theorem gX2_lowestReady_J13_bitCount_95d88 : GoodIn wsX2_lowestReady (va_wsS RX2 49 yJ13_bitCount_95d88 wsJ13_bitCount_95d88) := goodIn_app (goodIn_of _ (by decide +kernel)) ggX2_lowestReady_J13_bitCount_95d88
theorem dX2_lowestReady_0 : decode cX2_lowestReady 0 = .ok (.iconst 0, 1) := by decide +kernel
theorem dX2_lowestReady_1 : decode cX2_lowestReady 1 = .ok (.istore_n 1, 1) := by decide +kernel
theorem dX2_lowestReady_2 : decode cX2_lowestReady 2 = .ok (.iload_n 1, 1) := by decide +kernel
theorem dX2_lowestReady_3 : decode cX2_lowestReady 3 = .ok (.aload_n 0, 1) := by decide +kernel
theorem dX2_lowestReady_4 : decode cX2_lowestReady 4 = .ok (.getfield 22, 3) := by decide +kernel
theorem dX2_lowestReady_7 : decode cX2_lowestReady 7 = .ok (.if_icmp .ge 42, 3) := by decide +kernel
theorem dX2_lowestReady_10 : decode cX2_lowestReady 10 = .ok (.iload_n 1, 1) := by decide +kernel
theorem dX2_lowestReady_11 : decode cX2_lowestReady 11 = .ok (.aload_n 0, 1) := by decide +kernel
theorem dX2_lowestReady_12 : decode cX2_lowestReady 12 = .ok (.getfield 9, 3) := by decide +kernel
theorem dX2_lowestReady_15 : decode cX2_lowestReady 15 = .ok (.arraylength, 1) := by decide +kernel
theorem dX2_lowestReady_16 : decode cX2_lowestReady 16 = .ok (.if_icmp .ge 33, 3) := by decide +kernel
theorem dX2_lowestReady_19 : decode cX2_lowestReady 19 = .ok (.aload_n 0, 1) := by decide +kernel
theorem dX2_lowestReady_20 : decode cX2_lowestReady 20 = .ok (.getfield 9, 3) := by decide +kernel
theorem dX2_lowestReady_23 : decode cX2_lowestReady 23 = .ok (.iload_n 1, 1) := by decide +kernel
theorem dX2_lowestReady_24 : decode cX2_lowestReady 24 = .ok (.laload, 1) := by decide +kernel
theorem dX2_lowestReady_25 : decode cX2_lowestReady 25 = .ok (.aload_n 0, 1) := by decide +kernel
theorem dX2_lowestReady_26 : decode cX2_lowestReady 26 = .ok (.getfield 29, 3) := by decide +kernel
theorem dX2_lowestReady_29 : decode cX2_lowestReady 29 = .ok (.ldc2_w 47, 3) := by decide +kernel
theorem dX2_lowestReady_32 : decode cX2_lowestReady 32 = .ok (.lxor, 1) := by decide +kernel
theorem dX2_lowestReady_33 : decode cX2_lowestReady 33 = .ok (.land, 1) := by decide +kernel
theorem dX2_lowestReady_34 : decode cX2_lowestReady 34 = .ok (.invokestatic 49, 3) := by decide +kernel
theorem dX2_lowestReady_37 : decode cX2_lowestReady 37 = .ok (.iconst 1, 1) := by decide +kernel
theorem dX2_lowestReady_38 : decode cX2_lowestReady 38 = .ok (.if_icmp .ne 5, 3) := by decide +kernel
theorem dX2_lowestReady_41 : decode cX2_lowestReady 41 = .ok (.iload_n 1, 1) := by decide +kernel
theorem dX2_lowestReady_42 : decode cX2_lowestReady 42 = .ok (.ireturn, 1) := by decide +kernel
theorem dX2_lowestReady_43 : decode cX2_lowestReady 43 = .ok (.iinc 1 1, 3) := by decide +kernel
theorem dX2_lowestReady_46 : decode cX2_lowestReady 46 = .ok (.goto (-44), 3) := by decide +kernel
theorem dX2_lowestReady_49 : decode cX2_lowestReady 49 = .ok (.iconst (-1), 1) := by decide +kernel
theorem dX2_lowestReady_50 : decode cX2_lowestReady 50 = .ok (.ireturn, 1) := by decide +kernel
set_option maxRecDepth 20000 in
theorem ggX2_peelWith_X5_lowestOf : GoodIn wsX2_peelWith wsX5_lowestOf := goodIn_r _ [9, 10, 11, 12, 13, 14, 15, 16] (by decide +kernel) (by decide +kernel)
set_option maxRecDepth 20000 in
theorem gX2_peelWith_X5_lowestOf_n55 : GoodIn wsX2_peelWith (wsX5_lowestOf) := ggX2_peelWith_X5_lowestOf
set_option maxRecDepth 20000 in
theorem ggX2_peelWith_X5_setOf : GoodIn wsX2_peelWith wsX5_setOf := goodIn_r _ [18] (by decide +kernel) (by decide +kernel)
set_option maxRecDepth 20000 in
theorem gX2_peelWith_X5_setOf_n58 : GoodIn wsX2_peelWith (wsX5_setOf) := ggX2_peelWith_X5_setOf
theorem dX2_peelWith_0 : decode cX2_peelWith 0 = .ok (.iload_n 1, 1) := by decide +kernel
theorem dX2_peelWith_1 : decode cX2_peelWith 1 = .ok (.ifCond .lt 12, 3) := by decide +kernel
theorem dX2_peelWith_4 : decode cX2_peelWith 4 = .ok (.iload_n 1, 1) := by decide +kernel
theorem dX2_peelWith_5 : decode cX2_peelWith 5 = .ok (.aload_n 0, 1) := by decide +kernel
theorem dX2_peelWith_6 : decode cX2_peelWith 6 = .ok (.getfield 9, 3) := by decide +kernel
theorem dX2_peelWith_9 : decode cX2_peelWith 9 = .ok (.arraylength, 1) := by decide +kernel
theorem dX2_peelWith_10 : decode cX2_peelWith 10 = .ok (.if_icmp .lt 4, 3) := by decide +kernel
theorem dX2_peelWith_13 : decode cX2_peelWith 13 = .ok (.return_, 1) := by decide +kernel
theorem dX2_peelWith_14 : decode cX2_peelWith 14 = .ok (.aload_n 0, 1) := by decide +kernel
theorem dX2_peelWith_15 : decode cX2_peelWith 15 = .ok (.getfield 9, 3) := by decide +kernel
theorem dX2_peelWith_18 : decode cX2_peelWith 18 = .ok (.iload_n 1, 1) := by decide +kernel
theorem dX2_peelWith_19 : decode cX2_peelWith 19 = .ok (.laload, 1) := by decide +kernel
theorem dX2_peelWith_20 : decode cX2_peelWith 20 = .ok (.aload_n 0, 1) := by decide +kernel
theorem dX2_peelWith_21 : decode cX2_peelWith 21 = .ok (.getfield 29, 3) := by decide +kernel
theorem dX2_peelWith_24 : decode cX2_peelWith 24 = .ok (.ldc2_w 47, 3) := by decide +kernel
theorem dX2_peelWith_27 : decode cX2_peelWith 27 = .ok (.lxor, 1) := by decide +kernel
theorem dX2_peelWith_28 : decode cX2_peelWith 28 = .ok (.land, 1) := by decide +kernel
theorem dX2_peelWith_29 : decode cX2_peelWith 29 = .ok (.invokestatic 55, 3) := by decide +kernel
theorem dX2_peelWith_32 : decode cX2_peelWith 32 = .ok (.istore_n 2, 1) := by decide +kernel
theorem dX2_peelWith_33 : decode cX2_peelWith 33 = .ok (.iload_n 2, 1) := by decide +kernel
theorem dX2_peelWith_34 : decode cX2_peelWith 34 = .ok (.bipush 38, 2) := by decide +kernel
theorem dX2_peelWith_36 : decode cX2_peelWith 36 = .ok (.if_icmp .ge 19, 3) := by decide +kernel
theorem dX2_peelWith_39 : decode cX2_peelWith 39 = .ok (.aload_n 0, 1) := by decide +kernel
theorem dX2_peelWith_40 : decode cX2_peelWith 40 = .ok (.getfield 26, 3) := by decide +kernel
theorem dX2_peelWith_43 : decode cX2_peelWith 43 = .ok (.ifCond .lt 12, 3) := by decide +kernel
theorem dX2_peelWith_46 : decode cX2_peelWith 46 = .ok (.aload_n 0, 1) := by decide +kernel
theorem dX2_peelWith_47 : decode cX2_peelWith 47 = .ok (.getfield 26, 3) := by decide +kernel
theorem dX2_peelWith_50 : decode cX2_peelWith 50 = .ok (.bipush 38, 2) := by decide +kernel
theorem dX2_peelWith_52 : decode cX2_peelWith 52 = .ok (.if_icmp .lt 4, 3) := by decide +kernel
theorem dX2_peelWith_55 : decode cX2_peelWith 55 = .ok (.return_, 1) := by decide +kernel
theorem dX2_peelWith_56 : decode cX2_peelWith 56 = .ok (.aload_n 0, 1) := by decide +kernel
theorem dX2_peelWith_57 : decode cX2_peelWith 57 = .ok (.getfield 15, 3) := by decide +kernel
theorem dX2_peelWith_60 : decode cX2_peelWith 60 = .ok (.aload_n 0, 1) := by decide +kernel
theorem dX2_peelWith_61 : decode cX2_peelWith 61 = .ok (.getfield 26, 3) := by decide +kernel
theorem dX2_peelWith_64 : decode cX2_peelWith 64 = .ok (.iload_n 2, 1) := by decide +kernel
theorem dX2_peelWith_65 : decode cX2_peelWith 65 = .ok (.iastore, 1) := by decide +kernel
theorem dX2_peelWith_66 : decode cX2_peelWith 66 = .ok (.aload_n 0, 1) := by decide +kernel
theorem dX2_peelWith_67 : decode cX2_peelWith 67 = .ok (.getfield 19, 3) := by decide +kernel
theorem dX2_peelWith_70 : decode cX2_peelWith 70 = .ok (.iload_n 2, 1) := by decide +kernel
theorem dX2_peelWith_71 : decode cX2_peelWith 71 = .ok (.iload_n 1, 1) := by decide +kernel
theorem dX2_peelWith_72 : decode cX2_peelWith 72 = .ok (.iastore, 1) := by decide +kernel
theorem dX2_peelWith_73 : decode cX2_peelWith 73 = .ok (.aload_n 0, 1) := by decide +kernel
theorem dX2_peelWith_74 : decode cX2_peelWith 74 = .ok (.dup, 1) := by decide +kernel
theorem dX2_peelWith_75 : decode cX2_peelWith 75 = .ok (.getfield 29, 3) := by decide +kernel
theorem dX2_peelWith_78 : decode cX2_peelWith 78 = .ok (.iload_n 2, 1) := by decide +kernel
theorem dX2_peelWith_79 : decode cX2_peelWith 79 = .ok (.invokestatic 58, 3) := by decide +kernel
theorem dX2_peelWith_82 : decode cX2_peelWith 82 = .ok (.lor, 1) := by decide +kernel
theorem dX2_peelWith_83 : decode cX2_peelWith 83 = .ok (.putfield 29, 3) := by decide +kernel
theorem dX2_peelWith_86 : decode cX2_peelWith 86 = .ok (.aload_n 0, 1) := by decide +kernel
theorem dX2_peelWith_87 : decode cX2_peelWith 87 = .ok (.dup, 1) := by decide +kernel
theorem dX2_peelWith_88 : decode cX2_peelWith 88 = .ok (.getfield 26, 3) := by decide +kernel
theorem dX2_peelWith_91 : decode cX2_peelWith 91 = .ok (.iconst 1, 1) := by decide +kernel
theorem dX2_peelWith_92 : decode cX2_peelWith 92 = .ok (.iadd, 1) := by decide +kernel
theorem dX2_peelWith_93 : decode cX2_peelWith 93 = .ok (.putfield 26, 3) := by decide +kernel
theorem dX2_peelWith_96 : decode cX2_peelWith 96 = .ok (.return_, 1) := by decide +kernel
theorem dX3_init_0 : decode cX3_init 0 = .ok (.aload_n 0, 1) := by decide +kernel
theorem dX3_init_1 : decode cX3_init 1 = .ok (.invokespecial 3, 3) := by decide +kernel
theorem dX3_init_4 : decode cX3_init 4 = .ok (.aload_n 0, 1) := by decide +kernel
theorem dX3_init_5 : decode cX3_init 5 = .ok (.bipush 32, 2) := by decide +kernel
theorem dX3_init_7 : decode cX3_init 7 = .ok (.newarray .int, 2) := by decide +kernel
theorem dX3_init_9 : decode cX3_init 9 = .ok (.putfield 9, 3) := by decide +kernel
theorem dX3_init_12 : decode cX3_init 12 = .ok (.return_, 1) := by decide +kernel
set_option maxRecDepth 20000 in
theorem ggX3_begin_J7_fill_53178 : GoodIn wsX3_begin wsJ7_fill_53178 := goodIn_r _ [7] (by decide +kernel) (by decide +kernel)
set_option maxRecDepth 20000 in
theorem gX3_begin_J7_fill_53178 : GoodIn wsX3_begin (va_wsS RX3 22 yJ7_fill_53178 wsJ7_fill_53178) := goodIn_app (goodIn_of _ (by decide +kernel)) ggX3_begin_J7_fill_53178
theorem dX3_begin_0 : decode cX3_begin 0 = .ok (.aload_n 0, 1) := by decide +kernel
theorem dX3_begin_1 : decode cX3_begin 1 = .ok (.iload_n 1, 1) := by decide +kernel
theorem dX3_begin_2 : decode cX3_begin 2 = .ok (.putfield 15, 3) := by decide +kernel
theorem dX3_begin_5 : decode cX3_begin 5 = .ok (.aload_n 0, 1) := by decide +kernel
theorem dX3_begin_6 : decode cX3_begin 6 = .ok (.iload_n 2, 1) := by decide +kernel
theorem dX3_begin_7 : decode cX3_begin 7 = .ok (.putfield 19, 3) := by decide +kernel
theorem dX3_begin_10 : decode cX3_begin 10 = .ok (.aload_n 0, 1) := by decide +kernel
theorem dX3_begin_11 : decode cX3_begin 11 = .ok (.getfield 9, 3) := by decide +kernel
theorem dX3_begin_14 : decode cX3_begin 14 = .ok (.iconst 0, 1) := by decide +kernel
theorem dX3_begin_15 : decode cX3_begin 15 = .ok (.invokestatic 22, 3) := by decide +kernel
theorem dX3_begin_18 : decode cX3_begin 18 = .ok (.return_, 1) := by decide +kernel
theorem dX3_sourceCount_0 : decode cX3_sourceCount 0 = .ok (.aload_n 0, 1) := by decide +kernel
theorem dX3_sourceCount_1 : decode cX3_sourceCount 1 = .ok (.getfield 15, 3) := by decide +kernel
theorem dX3_sourceCount_4 : decode cX3_sourceCount 4 = .ok (.ireturn, 1) := by decide +kernel
theorem dX3_parityCount_0 : decode cX3_parityCount 0 = .ok (.aload_n 0, 1) := by decide +kernel
theorem dX3_parityCount_1 : decode cX3_parityCount 1 = .ok (.getfield 19, 3) := by decide +kernel
theorem dX3_parityCount_4 : decode cX3_parityCount 4 = .ok (.ireturn, 1) := by decide +kernel
theorem dX3_blockCount_0 : decode cX3_blockCount 0 = .ok (.aload_n 0, 1) := by decide +kernel
theorem dX3_blockCount_1 : decode cX3_blockCount 1 = .ok (.getfield 15, 3) := by decide +kernel
theorem dX3_blockCount_4 : decode cX3_blockCount 4 = .ok (.aload_n 0, 1) := by decide +kernel
theorem dX3_blockCount_5 : decode cX3_blockCount 5 = .ok (.getfield 19, 3) := by decide +kernel
theorem dX3_blockCount_8 : decode cX3_blockCount 8 = .ok (.iadd, 1) := by decide +kernel
theorem dX3_blockCount_9 : decode cX3_blockCount 9 = .ok (.ireturn, 1) := by decide +kernel
theorem dX3_change_0 : decode cX3_change 0 = .ok (.iload_n 1, 1) := by decide +kernel
theorem dX3_change_1 : decode cX3_change 1 = .ok (.ifCond .lt 19, 3) := by decide +kernel
theorem dX3_change_4 : decode cX3_change 4 = .ok (.iload_n 1, 1) := by decide +kernel
theorem dX3_change_5 : decode cX3_change 5 = .ok (.aload_n 0, 1) := by decide +kernel
theorem dX3_change_6 : decode cX3_change 6 = .ok (.getfield 9, 3) := by decide +kernel
theorem dX3_change_9 : decode cX3_change 9 = .ok (.arraylength, 1) := by decide +kernel
theorem dX3_change_10 : decode cX3_change 10 = .ok (.if_icmp .ge 10, 3) := by decide +kernel
theorem dX3_change_13 : decode cX3_change 13 = .ok (.aload_n 0, 1) := by decide +kernel
theorem dX3_change_14 : decode cX3_change 14 = .ok (.getfield 9, 3) := by decide +kernel
theorem dX3_change_17 : decode cX3_change 17 = .ok (.iload_n 1, 1) := by decide +kernel
theorem dX3_change_18 : decode cX3_change 18 = .ok (.iload_n 2, 1) := by decide +kernel
theorem dX3_change_19 : decode cX3_change 19 = .ok (.iastore, 1) := by decide +kernel
theorem dX3_change_20 : decode cX3_change 20 = .ok (.return_, 1) := by decide +kernel
set_option maxRecDepth 20000 in
theorem ggX3_coveredBy_X5_setOf : GoodIn wsX3_coveredBy wsX5_setOf := goodIn_r _ [4] (by decide +kernel) (by decide +kernel)
set_option maxRecDepth 20000 in
theorem gX3_coveredBy_X5_setOf_n28 : GoodIn wsX3_coveredBy (wsX5_setOf) := ggX3_coveredBy_X5_setOf
theorem dX3_coveredBy_0 : decode cX3_coveredBy 0 = .ok (.lconst 0, 1) := by decide +kernel
theorem dX3_coveredBy_1 : decode cX3_coveredBy 1 = .ok (.lstore_n 2, 1) := by decide +kernel
theorem dX3_coveredBy_2 : decode cX3_coveredBy 2 = .ok (.iconst 0, 1) := by decide +kernel
theorem dX3_coveredBy_3 : decode cX3_coveredBy 3 = .ok (.istore 4, 2) := by decide +kernel
theorem dX3_coveredBy_5 : decode cX3_coveredBy 5 = .ok (.iload 4, 2) := by decide +kernel
theorem dX3_coveredBy_7 : decode cX3_coveredBy 7 = .ok (.aload_n 0, 1) := by decide +kernel
theorem dX3_coveredBy_8 : decode cX3_coveredBy 8 = .ok (.getfield 15, 3) := by decide +kernel
theorem dX3_coveredBy_11 : decode cX3_coveredBy 11 = .ok (.if_icmp .ge 28, 3) := by decide +kernel
theorem dX3_coveredBy_14 : decode cX3_coveredBy 14 = .ok (.iload 4, 2) := by decide +kernel
theorem dX3_coveredBy_16 : decode cX3_coveredBy 16 = .ok (.iconst 1, 1) := by decide +kernel
theorem dX3_coveredBy_17 : decode cX3_coveredBy 17 = .ok (.iadd, 1) := by decide +kernel
theorem dX3_coveredBy_18 : decode cX3_coveredBy 18 = .ok (.iload_n 1, 1) := by decide +kernel
theorem dX3_coveredBy_19 : decode cX3_coveredBy 19 = .ok (.ishr, 1) := by decide +kernel
theorem dX3_coveredBy_20 : decode cX3_coveredBy 20 = .ok (.iconst 1, 1) := by decide +kernel
theorem dX3_coveredBy_21 : decode cX3_coveredBy 21 = .ok (.iand, 1) := by decide +kernel
theorem dX3_coveredBy_22 : decode cX3_coveredBy 22 = .ok (.ifCond .eq 11, 3) := by decide +kernel
theorem dX3_coveredBy_25 : decode cX3_coveredBy 25 = .ok (.lload_n 2, 1) := by decide +kernel
theorem dX3_coveredBy_26 : decode cX3_coveredBy 26 = .ok (.iload 4, 2) := by decide +kernel
theorem dX3_coveredBy_28 : decode cX3_coveredBy 28 = .ok (.invokestatic 28, 3) := by decide +kernel
theorem dX3_coveredBy_31 : decode cX3_coveredBy 31 = .ok (.lor, 1) := by decide +kernel
theorem dX3_coveredBy_32 : decode cX3_coveredBy 32 = .ok (.lstore_n 2, 1) := by decide +kernel
theorem dX3_coveredBy_33 : decode cX3_coveredBy 33 = .ok (.iinc 4 1, 3) := by decide +kernel
theorem dX3_coveredBy_36 : decode cX3_coveredBy 36 = .ok (.goto (-31), 3) := by decide +kernel
theorem dX3_coveredBy_39 : decode cX3_coveredBy 39 = .ok (.lload_n 2, 1) := by decide +kernel
theorem dX3_coveredBy_40 : decode cX3_coveredBy 40 = .ok (.lreturn, 1) := by decide +kernel
set_option maxRecDepth 20000 in
theorem ggX3_valueOfBlock_X3_coveredBy : GoodIn wsX3_valueOfBlock wsX3_coveredBy := goodIn_r _ [6, 1, 7, 8, 9, 18, 19, 20] (by decide +kernel) (by decide +kernel)
set_option maxRecDepth 20000 in
theorem gX3_valueOfBlock_X3_coveredBy : GoodIn wsX3_valueOfBlock (wsV RX3 32 RX3 yX3_coveredBy wsX3_coveredBy) := goodIn_app (goodIn_of _ (by decide +kernel)) ggX3_valueOfBlock_X3_coveredBy
set_option maxRecDepth 20000 in
theorem ggX3_valueOfBlock_X3_valueOfSources : GoodIn wsX3_valueOfBlock wsX3_valueOfSources := goodIn_r _ [13, 1, 14, 15, 8, 16, 17, 7, 9, 18, 19, 20] (by decide +kernel) (by decide +kernel)
set_option maxRecDepth 20000 in
theorem gX3_valueOfBlock_X3_valueOfSources : GoodIn wsX3_valueOfBlock (wsV RX3 35 RX3 yX3_valueOfSources wsX3_valueOfSources) := goodIn_app (goodIn_of _ (by decide +kernel)) ggX3_valueOfBlock_X3_valueOfSources
set_option maxRecDepth 20000 in
theorem ggX3_valueOfBlock_X5_setOf : GoodIn wsX3_valueOfBlock wsX5_setOf := goodIn_r _ [9] (by decide +kernel) (by decide +kernel)
set_option maxRecDepth 20000 in
theorem gX3_valueOfBlock_X5_setOf_n28 : GoodIn wsX3_valueOfBlock (wsX5_setOf) := ggX3_valueOfBlock_X5_setOf
theorem dX3_valueOfBlock_0 : decode cX3_valueOfBlock 0 = .ok (.iload_n 1, 1) := by decide +kernel
theorem dX3_valueOfBlock_1 : decode cX3_valueOfBlock 1 = .ok (.aload_n 0, 1) := by decide +kernel
theorem dX3_valueOfBlock_2 : decode cX3_valueOfBlock 2 = .ok (.getfield 15, 3) := by decide +kernel
theorem dX3_valueOfBlock_5 : decode cX3_valueOfBlock 5 = .ok (.if_icmp .lt 18, 3) := by decide +kernel
theorem dX3_valueOfBlock_8 : decode cX3_valueOfBlock 8 = .ok (.aload_n 0, 1) := by decide +kernel
theorem dX3_valueOfBlock_9 : decode cX3_valueOfBlock 9 = .ok (.aload_n 0, 1) := by decide +kernel
theorem dX3_valueOfBlock_10 : decode cX3_valueOfBlock 10 = .ok (.iload_n 1, 1) := by decide +kernel
theorem dX3_valueOfBlock_11 : decode cX3_valueOfBlock 11 = .ok (.aload_n 0, 1) := by decide +kernel
theorem dX3_valueOfBlock_12 : decode cX3_valueOfBlock 12 = .ok (.getfield 15, 3) := by decide +kernel
theorem dX3_valueOfBlock_15 : decode cX3_valueOfBlock 15 = .ok (.isub, 1) := by decide +kernel
theorem dX3_valueOfBlock_16 : decode cX3_valueOfBlock 16 = .ok (.invokevirtual 32, 3) := by decide +kernel
theorem dX3_valueOfBlock_19 : decode cX3_valueOfBlock 19 = .ok (.invokevirtual 35, 3) := by decide +kernel
theorem dX3_valueOfBlock_22 : decode cX3_valueOfBlock 22 = .ok (.ireturn, 1) := by decide +kernel
theorem dX3_valueOfBlock_23 : decode cX3_valueOfBlock 23 = .ok (.aload_n 0, 1) := by decide +kernel
theorem dX3_valueOfBlock_24 : decode cX3_valueOfBlock 24 = .ok (.iload_n 1, 1) := by decide +kernel
theorem dX3_valueOfBlock_25 : decode cX3_valueOfBlock 25 = .ok (.invokestatic 28, 3) := by decide +kernel
theorem dX3_valueOfBlock_28 : decode cX3_valueOfBlock 28 = .ok (.invokevirtual 35, 3) := by decide +kernel
theorem dX3_valueOfBlock_31 : decode cX3_valueOfBlock 31 = .ok (.ireturn, 1) := by decide +kernel
set_option maxRecDepth 20000 in
theorem ggX3_valueOfSet_X3_valueOfSources : GoodIn wsX3_valueOfSet wsX3_valueOfSources := goodIn_r _ [6, 1, 7, 8, 9, 10, 11, 12, 13, 27, 28, 29] (by decide +kernel) (by decide +kernel)
set_option maxRecDepth 20000 in
theorem gX3_valueOfSet_X3_valueOfSources : GoodIn wsX3_valueOfSet (wsV RX3 35 RX3 yX3_valueOfSources wsX3_valueOfSources) := goodIn_app (goodIn_of _ (by decide +kernel)) ggX3_valueOfSet_X3_valueOfSources
set_option maxRecDepth 20000 in
theorem ggX3_valueOfSet_X3_blockCount : GoodIn wsX3_valueOfSet wsX3_blockCount := goodIn_r _ [17, 1, 18, 27, 28, 29] (by decide +kernel) (by decide +kernel)
set_option maxRecDepth 20000 in
theorem gX3_valueOfSet_X3_blockCount : GoodIn wsX3_valueOfSet (wsV RX3 39 RX3 yX3_blockCount wsX3_blockCount) := goodIn_app (goodIn_of _ (by decide +kernel)) ggX3_valueOfSet_X3_blockCount
set_option maxRecDepth 20000 in
theorem ggX3_valueOfSet_X5_holds : GoodIn wsX3_valueOfSet wsX5_holds := goodIn_r _ [10, 11, 12, 9, 13] (by decide +kernel) (by decide +kernel)
set_option maxRecDepth 20000 in
theorem gX3_valueOfSet_X5_holds_n43 : GoodIn wsX3_valueOfSet (wsX5_holds) := ggX3_valueOfSet_X5_holds
set_option maxRecDepth 20000 in
theorem ggX3_valueOfSet_X3_valueOfBlock : GoodIn wsX3_valueOfSet wsX3_valueOfBlock := goodIn_r _ [22, 1, 23, 24, 25, 5, 26, 12, 9, 13, 2, 3, 4, 6, 7, 8, 10, 11, 27, 28, 29] (by decide +kernel) (by decide +kernel)
set_option maxRecDepth 20000 in
theorem gX3_valueOfSet_X3_valueOfBlock : GoodIn wsX3_valueOfSet (wsV RX3 47 RX3 yX3_valueOfBlock wsX3_valueOfBlock) := goodIn_app (goodIn_of _ (by decide +kernel)) ggX3_valueOfSet_X3_valueOfBlock
theorem dX3_valueOfSet_0 : decode cX3_valueOfSet 0 = .ok (.aload_n 0, 1) := by decide +kernel
theorem dX3_valueOfSet_1 : decode cX3_valueOfSet 1 = .ok (.lload_n 1, 1) := by decide +kernel
theorem dX3_valueOfSet_2 : decode cX3_valueOfSet 2 = .ok (.invokevirtual 35, 3) := by decide +kernel
theorem dX3_valueOfSet_5 : decode cX3_valueOfSet 5 = .ok (.istore_n 3, 1) := by decide +kernel
theorem dX3_valueOfSet_6 : decode cX3_valueOfSet 6 = .ok (.aload_n 0, 1) := by decide +kernel
theorem dX3_valueOfSet_7 : decode cX3_valueOfSet 7 = .ok (.getfield 15, 3) := by decide +kernel
theorem dX3_valueOfSet_10 : decode cX3_valueOfSet 10 = .ok (.istore 4, 2) := by decide +kernel
theorem dX3_valueOfSet_12 : decode cX3_valueOfSet 12 = .ok (.iload 4, 2) := by decide +kernel
theorem dX3_valueOfSet_14 : decode cX3_valueOfSet 14 = .ok (.aload_n 0, 1) := by decide +kernel
theorem dX3_valueOfSet_15 : decode cX3_valueOfSet 15 = .ok (.invokevirtual 39, 3) := by decide +kernel
theorem dX3_valueOfSet_18 : decode cX3_valueOfSet 18 = .ok (.if_icmp .ge 27, 3) := by decide +kernel
theorem dX3_valueOfSet_21 : decode cX3_valueOfSet 21 = .ok (.lload_n 1, 1) := by decide +kernel
theorem dX3_valueOfSet_22 : decode cX3_valueOfSet 22 = .ok (.iload 4, 2) := by decide +kernel
theorem dX3_valueOfSet_24 : decode cX3_valueOfSet 24 = .ok (.invokestatic 43, 3) := by decide +kernel
theorem dX3_valueOfSet_27 : decode cX3_valueOfSet 27 = .ok (.ifCond .eq 12, 3) := by decide +kernel
theorem dX3_valueOfSet_30 : decode cX3_valueOfSet 30 = .ok (.iload_n 3, 1) := by decide +kernel
theorem dX3_valueOfSet_31 : decode cX3_valueOfSet 31 = .ok (.aload_n 0, 1) := by decide +kernel
theorem dX3_valueOfSet_32 : decode cX3_valueOfSet 32 = .ok (.iload 4, 2) := by decide +kernel
theorem dX3_valueOfSet_34 : decode cX3_valueOfSet 34 = .ok (.invokevirtual 47, 3) := by decide +kernel
theorem dX3_valueOfSet_37 : decode cX3_valueOfSet 37 = .ok (.ixor, 1) := by decide +kernel
theorem dX3_valueOfSet_38 : decode cX3_valueOfSet 38 = .ok (.istore_n 3, 1) := by decide +kernel
theorem dX3_valueOfSet_39 : decode cX3_valueOfSet 39 = .ok (.iinc 4 1, 3) := by decide +kernel
theorem dX3_valueOfSet_42 : decode cX3_valueOfSet 42 = .ok (.goto (-30), 3) := by decide +kernel
theorem dX3_valueOfSet_45 : decode cX3_valueOfSet 45 = .ok (.iload_n 3, 1) := by decide +kernel
theorem dX3_valueOfSet_46 : decode cX3_valueOfSet 46 = .ok (.ireturn, 1) := by decide +kernel
set_option maxRecDepth 20000 in
theorem ggX3_valueOfSources_X5_holds : GoodIn wsX3_valueOfSources wsX5_holds := goodIn_r _ [5, 6, 7, 4, 8] (by decide +kernel) (by decide +kernel)
set_option maxRecDepth 20000 in
theorem gX3_valueOfSources_X5_holds_n43 : GoodIn wsX3_valueOfSources (wsX5_holds) := ggX3_valueOfSources_X5_holds
theorem dX3_valueOfSources_0 : decode cX3_valueOfSources 0 = .ok (.iconst 0, 1) := by decide +kernel
theorem dX3_valueOfSources_1 : decode cX3_valueOfSources 1 = .ok (.istore_n 3, 1) := by decide +kernel
theorem dX3_valueOfSources_2 : decode cX3_valueOfSources 2 = .ok (.iconst 0, 1) := by decide +kernel
theorem dX3_valueOfSources_3 : decode cX3_valueOfSources 3 = .ok (.istore 4, 2) := by decide +kernel
theorem dX3_valueOfSources_5 : decode cX3_valueOfSources 5 = .ok (.iload 4, 2) := by decide +kernel
theorem dX3_valueOfSources_7 : decode cX3_valueOfSources 7 = .ok (.aload_n 0, 1) := by decide +kernel
theorem dX3_valueOfSources_8 : decode cX3_valueOfSources 8 = .ok (.getfield 15, 3) := by decide +kernel
theorem dX3_valueOfSources_11 : decode cX3_valueOfSources 11 = .ok (.if_icmp .ge 38, 3) := by decide +kernel
theorem dX3_valueOfSources_14 : decode cX3_valueOfSources 14 = .ok (.iload 4, 2) := by decide +kernel
theorem dX3_valueOfSources_16 : decode cX3_valueOfSources 16 = .ok (.aload_n 0, 1) := by decide +kernel
theorem dX3_valueOfSources_17 : decode cX3_valueOfSources 17 = .ok (.getfield 9, 3) := by decide +kernel
theorem dX3_valueOfSources_20 : decode cX3_valueOfSources 20 = .ok (.arraylength, 1) := by decide +kernel
theorem dX3_valueOfSources_21 : decode cX3_valueOfSources 21 = .ok (.if_icmp .ge 28, 3) := by decide +kernel
theorem dX3_valueOfSources_24 : decode cX3_valueOfSources 24 = .ok (.lload_n 1, 1) := by decide +kernel
theorem dX3_valueOfSources_25 : decode cX3_valueOfSources 25 = .ok (.iload 4, 2) := by decide +kernel
theorem dX3_valueOfSources_27 : decode cX3_valueOfSources 27 = .ok (.invokestatic 43, 3) := by decide +kernel
theorem dX3_valueOfSources_30 : decode cX3_valueOfSources 30 = .ok (.ifCond .eq 13, 3) := by decide +kernel
theorem dX3_valueOfSources_33 : decode cX3_valueOfSources 33 = .ok (.iload_n 3, 1) := by decide +kernel
theorem dX3_valueOfSources_34 : decode cX3_valueOfSources 34 = .ok (.aload_n 0, 1) := by decide +kernel
theorem dX3_valueOfSources_35 : decode cX3_valueOfSources 35 = .ok (.getfield 9, 3) := by decide +kernel
theorem dX3_valueOfSources_38 : decode cX3_valueOfSources 38 = .ok (.iload 4, 2) := by decide +kernel
theorem dX3_valueOfSources_40 : decode cX3_valueOfSources 40 = .ok (.iaload, 1) := by decide +kernel
theorem dX3_valueOfSources_41 : decode cX3_valueOfSources 41 = .ok (.ixor, 1) := by decide +kernel
theorem dX3_valueOfSources_42 : decode cX3_valueOfSources 42 = .ok (.istore_n 3, 1) := by decide +kernel
theorem dX3_valueOfSources_43 : decode cX3_valueOfSources 43 = .ok (.iinc 4 1, 3) := by decide +kernel
theorem dX3_valueOfSources_46 : decode cX3_valueOfSources 46 = .ok (.goto (-41), 3) := by decide +kernel
theorem dX3_valueOfSources_49 : decode cX3_valueOfSources 49 = .ok (.iload_n 3, 1) := by decide +kernel
theorem dX3_valueOfSources_50 : decode cX3_valueOfSources 50 = .ok (.ireturn, 1) := by decide +kernel
theorem dX4_init_0 : decode cX4_init 0 = .ok (.aload_n 0, 1) := by decide +kernel
theorem dX4_init_1 : decode cX4_init 1 = .ok (.invokespecial 3, 3) := by decide +kernel
theorem dX4_init_4 : decode cX4_init 4 = .ok (.aload_n 0, 1) := by decide +kernel
theorem dX4_init_5 : decode cX4_init 5 = .ok (.getstatic 9, 3) := by decide +kernel
theorem dX4_init_8 : decode cX4_init 8 = .ok (.invokevirtual 15, 3) := by decide +kernel
theorem dX4_init_11 : decode cX4_init 11 = .ok (.checkcast 16, 3) := by decide +kernel
theorem dX4_init_14 : decode cX4_init 14 = .ok (.putfield 20, 3) := by decide +kernel
theorem dX4_init_17 : decode cX4_init 17 = .ok (.return_, 1) := by decide +kernel
theorem dX4_sum_0 : decode cX4_sum 0 = .ok (.iconst 0, 1) := by decide +kernel
theorem dX4_sum_1 : decode cX4_sum 1 = .ok (.istore_n 1, 1) := by decide +kernel
theorem dX4_sum_2 : decode cX4_sum 2 = .ok (.iconst 0, 1) := by decide +kernel
theorem dX4_sum_3 : decode cX4_sum 3 = .ok (.istore_n 2, 1) := by decide +kernel
theorem dX4_sum_4 : decode cX4_sum 4 = .ok (.iload_n 2, 1) := by decide +kernel
theorem dX4_sum_5 : decode cX4_sum 5 = .ok (.aload_n 0, 1) := by decide +kernel
theorem dX4_sum_6 : decode cX4_sum 6 = .ok (.getfield 20, 3) := by decide +kernel
theorem dX4_sum_9 : decode cX4_sum 9 = .ok (.arraylength, 1) := by decide +kernel
theorem dX4_sum_10 : decode cX4_sum 10 = .ok (.if_icmp .ge 18, 3) := by decide +kernel
theorem dX4_sum_13 : decode cX4_sum 13 = .ok (.iload_n 1, 1) := by decide +kernel
theorem dX4_sum_14 : decode cX4_sum 14 = .ok (.aload_n 0, 1) := by decide +kernel
theorem dX4_sum_15 : decode cX4_sum 15 = .ok (.getfield 20, 3) := by decide +kernel
theorem dX4_sum_18 : decode cX4_sum 18 = .ok (.iload_n 2, 1) := by decide +kernel
theorem dX4_sum_19 : decode cX4_sum 19 = .ok (.iaload, 1) := by decide +kernel
theorem dX4_sum_20 : decode cX4_sum 20 = .ok (.iadd, 1) := by decide +kernel
theorem dX4_sum_21 : decode cX4_sum 21 = .ok (.istore_n 1, 1) := by decide +kernel
theorem dX4_sum_22 : decode cX4_sum 22 = .ok (.iinc 2 1, 3) := by decide +kernel
theorem dX4_sum_25 : decode cX4_sum 25 = .ok (.goto (-21), 3) := by decide +kernel
theorem dX4_sum_28 : decode cX4_sum 28 = .ok (.iload_n 1, 1) := by decide +kernel
theorem dX4_sum_29 : decode cX4_sum 29 = .ok (.ireturn, 1) := by decide +kernel
theorem dX4_weightOf_0 : decode cX4_weightOf 0 = .ok (.iload_n 1, 1) := by decide +kernel
theorem dX4_weightOf_1 : decode cX4_weightOf 1 = .ok (.iconst 1, 1) := by decide +kernel
theorem dX4_weightOf_2 : decode cX4_weightOf 2 = .ok (.isub, 1) := by decide +kernel
theorem dX4_weightOf_3 : decode cX4_weightOf 3 = .ok (.istore_n 2, 1) := by decide +kernel
theorem dX4_weightOf_4 : decode cX4_weightOf 4 = .ok (.iload_n 2, 1) := by decide +kernel
theorem dX4_weightOf_5 : decode cX4_weightOf 5 = .ok (.ifCond .lt 21, 3) := by decide +kernel
theorem dX4_weightOf_8 : decode cX4_weightOf 8 = .ok (.iload_n 2, 1) := by decide +kernel
theorem dX4_weightOf_9 : decode cX4_weightOf 9 = .ok (.aload_n 0, 1) := by decide +kernel
theorem dX4_weightOf_10 : decode cX4_weightOf 10 = .ok (.getfield 20, 3) := by decide +kernel
theorem dX4_weightOf_13 : decode cX4_weightOf 13 = .ok (.arraylength, 1) := by decide +kernel
theorem dX4_weightOf_14 : decode cX4_weightOf 14 = .ok (.if_icmp .ge 12, 3) := by decide +kernel
theorem dX4_weightOf_17 : decode cX4_weightOf 17 = .ok (.aload_n 0, 1) := by decide +kernel
theorem dX4_weightOf_18 : decode cX4_weightOf 18 = .ok (.getfield 20, 3) := by decide +kernel
theorem dX4_weightOf_21 : decode cX4_weightOf 21 = .ok (.iload_n 2, 1) := by decide +kernel
theorem dX4_weightOf_22 : decode cX4_weightOf 22 = .ok (.iaload, 1) := by decide +kernel
theorem dX4_weightOf_23 : decode cX4_weightOf 23 = .ok (.goto 4, 3) := by decide +kernel
theorem dX4_weightOf_26 : decode cX4_weightOf 26 = .ok (.iconst 0, 1) := by decide +kernel
theorem dX4_weightOf_27 : decode cX4_weightOf 27 = .ok (.ireturn, 1) := by decide +kernel
theorem dX4_change_0 : decode cX4_change 0 = .ok (.iload_n 1, 1) := by decide +kernel
theorem dX4_change_1 : decode cX4_change 1 = .ok (.iconst 1, 1) := by decide +kernel
theorem dX4_change_2 : decode cX4_change 2 = .ok (.isub, 1) := by decide +kernel
theorem dX4_change_3 : decode cX4_change 3 = .ok (.istore_n 3, 1) := by decide +kernel
theorem dX4_change_4 : decode cX4_change 4 = .ok (.iload_n 3, 1) := by decide +kernel
theorem dX4_change_5 : decode cX4_change 5 = .ok (.ifCond .lt 19, 3) := by decide +kernel
theorem dX4_change_8 : decode cX4_change 8 = .ok (.iload_n 3, 1) := by decide +kernel
theorem dX4_change_9 : decode cX4_change 9 = .ok (.aload_n 0, 1) := by decide +kernel
theorem dX4_change_10 : decode cX4_change 10 = .ok (.getfield 20, 3) := by decide +kernel
theorem dX4_change_13 : decode cX4_change 13 = .ok (.arraylength, 1) := by decide +kernel
theorem dX4_change_14 : decode cX4_change 14 = .ok (.if_icmp .ge 10, 3) := by decide +kernel
theorem dX4_change_17 : decode cX4_change 17 = .ok (.aload_n 0, 1) := by decide +kernel
theorem dX4_change_18 : decode cX4_change 18 = .ok (.getfield 20, 3) := by decide +kernel
theorem dX4_change_21 : decode cX4_change 21 = .ok (.iload_n 3, 1) := by decide +kernel
theorem dX4_change_22 : decode cX4_change 22 = .ok (.iload_n 2, 1) := by decide +kernel
theorem dX4_change_23 : decode cX4_change 23 = .ok (.iastore, 1) := by decide +kernel
theorem dX4_change_24 : decode cX4_change 24 = .ok (.return_, 1) := by decide +kernel
theorem dX4_degreeFor_0 : decode cX4_degreeFor 0 = .ok (.iconst 0, 1) := by decide +kernel
theorem dX4_degreeFor_1 : decode cX4_degreeFor 1 = .ok (.istore_n 2, 1) := by decide +kernel
theorem dX4_degreeFor_2 : decode cX4_degreeFor 2 = .ok (.iconst 0, 1) := by decide +kernel
theorem dX4_degreeFor_3 : decode cX4_degreeFor 3 = .ok (.istore_n 3, 1) := by decide +kernel
theorem dX4_degreeFor_4 : decode cX4_degreeFor 4 = .ok (.iload_n 3, 1) := by decide +kernel
theorem dX4_degreeFor_5 : decode cX4_degreeFor 5 = .ok (.aload_n 0, 1) := by decide +kernel
theorem dX4_degreeFor_6 : decode cX4_degreeFor 6 = .ok (.getfield 20, 3) := by decide +kernel
theorem dX4_degreeFor_9 : decode cX4_degreeFor 9 = .ok (.arraylength, 1) := by decide +kernel
theorem dX4_degreeFor_10 : decode cX4_degreeFor 10 = .ok (.if_icmp .ge 27, 3) := by decide +kernel
theorem dX4_degreeFor_13 : decode cX4_degreeFor 13 = .ok (.iload_n 2, 1) := by decide +kernel
theorem dX4_degreeFor_14 : decode cX4_degreeFor 14 = .ok (.aload_n 0, 1) := by decide +kernel
theorem dX4_degreeFor_15 : decode cX4_degreeFor 15 = .ok (.getfield 20, 3) := by decide +kernel
theorem dX4_degreeFor_18 : decode cX4_degreeFor 18 = .ok (.iload_n 3, 1) := by decide +kernel
theorem dX4_degreeFor_19 : decode cX4_degreeFor 19 = .ok (.iaload, 1) := by decide +kernel
theorem dX4_degreeFor_20 : decode cX4_degreeFor 20 = .ok (.iadd, 1) := by decide +kernel
theorem dX4_degreeFor_21 : decode cX4_degreeFor 21 = .ok (.istore_n 2, 1) := by decide +kernel
theorem dX4_degreeFor_22 : decode cX4_degreeFor 22 = .ok (.iload_n 2, 1) := by decide +kernel
theorem dX4_degreeFor_23 : decode cX4_degreeFor 23 = .ok (.iload_n 1, 1) := by decide +kernel
theorem dX4_degreeFor_24 : decode cX4_degreeFor 24 = .ok (.if_icmp .le 7, 3) := by decide +kernel
theorem dX4_degreeFor_27 : decode cX4_degreeFor 27 = .ok (.iload_n 3, 1) := by decide +kernel
theorem dX4_degreeFor_28 : decode cX4_degreeFor 28 = .ok (.iconst 1, 1) := by decide +kernel
theorem dX4_degreeFor_29 : decode cX4_degreeFor 29 = .ok (.iadd, 1) := by decide +kernel
theorem dX4_degreeFor_30 : decode cX4_degreeFor 30 = .ok (.ireturn, 1) := by decide +kernel
theorem dX4_degreeFor_31 : decode cX4_degreeFor 31 = .ok (.iinc 3 1, 3) := by decide +kernel
theorem dX4_degreeFor_34 : decode cX4_degreeFor 34 = .ok (.goto (-30), 3) := by decide +kernel
theorem dX4_degreeFor_37 : decode cX4_degreeFor 37 = .ok (.bipush 12, 2) := by decide +kernel
theorem dX4_degreeFor_39 : decode cX4_degreeFor 39 = .ok (.ireturn, 1) := by decide +kernel
set_option maxRecDepth 20000 in
theorem ggX5_init_X4_init : GoodIn wsX5_init wsX4_init := goodIn_r _ [25, 26, 2, 3, 27, 28, 29, 30, 31, 32, 33, 34, 140] (by decide +kernel) (by decide +kernel)
set_option maxRecDepth 20000 in
theorem gX5_init_X4_init_n11 : GoodIn wsX5_init (wsX4_init) := ggX5_init_X4_init
set_option maxRecDepth 20000 in
theorem ggX5_init_X3_init : GoodIn wsX5_init wsX3_init := goodIn_r _ [36, 37, 2, 3, 38, 39, 146, 147, 148] (by decide +kernel) (by decide +kernel)
set_option maxRecDepth 20000 in
theorem gX5_init_X3_init_n18 : GoodIn wsX5_init (wsX3_init) := ggX5_init_X3_init
set_option maxRecDepth 20000 in
theorem ggX5_init_X2_init : GoodIn wsX5_init wsX2_init := goodIn_r _ [41, 42, 2, 3, 43, 44, 38, 45, 46, 149, 150, 151, 152, 153, 154] (by decide +kernel) (by decide +kernel)
set_option maxRecDepth 20000 in
theorem gX5_init_X2_init_n25 : GoodIn wsX5_init (wsX2_init) := ggX5_init_X2_init
set_option maxRecDepth 20000 in
theorem ggX5_init_X1_init : GoodIn wsX5_init wsX1_init := goodIn_r _ [48, 49, 2, 3, 43, 50, 38, 51, 155, 156, 157] (by decide +kernel) (by decide +kernel)
set_option maxRecDepth 20000 in
theorem gX5_init_X1_init_n32 : GoodIn wsX5_init (wsX1_init) := ggX5_init_X1_init
set_option maxRecDepth 20000 in
theorem ggX5_init_X0_init : GoodIn wsX5_init wsX0_init := goodIn_r _ [53, 54, 2, 3, 38, 55, 158, 159, 160, 161] (by decide +kernel) (by decide +kernel)
set_option maxRecDepth 20000 in
theorem gX5_init_X0_init_n39 : GoodIn wsX5_init (wsX0_init) := ggX5_init_X0_init
set_option maxRecDepth 20000 in
theorem ggX5_init_X5_beginTransfer : GoodIn wsX5_init wsX5_beginTransfer := goodIn_r _ [60, 11, 15, 19, 61, 62, 63, 10, 64, 65, 66, 39, 67, 68, 69, 70, 71, 72, 73, 14, 74, 75, 76, 77, 46, 78, 79, 80, 81, 18, 82, 83, 50, 51, 84, 85, 86, 87, 88, 89, 59, 90, 91, 92, 93, 94, 95, 96, 97, 98, 99, 100, 101, 102, 44, 103, 104, 105, 106, 107, 108, 109, 110, 111, 112, 113, 114, 115, 116, 117, 118, 119, 120, 121, 122, 123, 124, 125, 126, 127, 128, 129, 130, 131, 132, 133, 134, 135, 136, 137, 138, 139, 45, 141, 142, 143, 144, 145, 146, 147, 148, 149, 150, 151, 152, 153, 154, 155, 156, 157] (by decide +kernel) (by decide +kernel)
set_option maxRecDepth 20000 in
theorem gX5_init_X5_beginTransfer : GoodIn wsX5_init (wsV RX5 44 RX5 yX5_beginTransfer wsX5_beginTransfer) := goodIn_app (goodIn_of _ (by decide +kernel)) ggX5_init_X5_beginTransfer

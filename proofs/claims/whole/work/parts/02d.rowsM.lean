theorem dX6_init_0 : decode cX6_init 0 = .ok (.aload_n 0, 1) := by decide +kernel
theorem dX6_init_1 : decode cX6_init 1 = .ok (.invokespecial 1, 3) := by decide +kernel
theorem dX6_init_4 : decode cX6_init 4 = .ok (.aload_n 0, 1) := by decide +kernel
theorem dX6_init_5 : decode cX6_init 5 = .ok (.bipush 13, 2) := by decide +kernel
theorem dX6_init_7 : decode cX6_init 7 = .ok (.newarray .int, 2) := by decide +kernel
theorem dX6_init_9 : decode cX6_init 9 = .ok (.putfield 7, 3) := by decide +kernel
theorem dX6_init_12 : decode cX6_init 12 = .ok (.aload_n 0, 1) := by decide +kernel
theorem dX6_init_13 : decode cX6_init 13 = .ok (.iconst 1, 1) := by decide +kernel
theorem dX6_init_14 : decode cX6_init 14 = .ok (.putfield 13, 3) := by decide +kernel
theorem dX6_init_17 : decode cX6_init 17 = .ok (.aload_n 0, 1) := by decide +kernel
theorem dX6_init_18 : decode cX6_init 18 = .ok (.iconst 1, 1) := by decide +kernel
theorem dX6_init_19 : decode cX6_init 19 = .ok (.putfield 17, 3) := by decide +kernel
theorem dX6_init_22 : decode cX6_init 22 = .ok (.aload_n 0, 1) := by decide +kernel
theorem dX6_init_23 : decode cX6_init 23 = .ok (.bipush 32, 2) := by decide +kernel
theorem dX6_init_25 : decode cX6_init 25 = .ok (.newarray .int, 2) := by decide +kernel
theorem dX6_init_27 : decode cX6_init 27 = .ok (.putfield 20, 3) := by decide +kernel
theorem dX6_init_30 : decode cX6_init 30 = .ok (.aload_n 0, 1) := by decide +kernel
theorem dX6_init_31 : decode cX6_init 31 = .ok (.bipush 126, 2) := by decide +kernel
theorem dX6_init_33 : decode cX6_init 33 = .ok (.newarray .long, 2) := by decide +kernel
theorem dX6_init_35 : decode cX6_init 35 = .ok (.putfield 23, 3) := by decide +kernel
theorem dX6_init_38 : decode cX6_init 38 = .ok (.aload_n 0, 1) := by decide +kernel
theorem dX6_init_39 : decode cX6_init 39 = .ok (.bipush 126, 2) := by decide +kernel
theorem dX6_init_41 : decode cX6_init 41 = .ok (.newarray .int, 2) := by decide +kernel
theorem dX6_init_43 : decode cX6_init 43 = .ok (.putfield 27, 3) := by decide +kernel
theorem dX6_init_46 : decode cX6_init 46 = .ok (.aload_n 0, 1) := by decide +kernel
theorem dX6_init_47 : decode cX6_init 47 = .ok (.bipush 38, 2) := by decide +kernel
theorem dX6_init_49 : decode cX6_init 49 = .ok (.newarray .int, 2) := by decide +kernel
theorem dX6_init_51 : decode cX6_init 51 = .ok (.putfield 30, 3) := by decide +kernel
theorem dX6_init_54 : decode cX6_init 54 = .ok (.aload_n 0, 1) := by decide +kernel
theorem dX6_init_55 : decode cX6_init 55 = .ok (.bipush 38, 2) := by decide +kernel
theorem dX6_init_57 : decode cX6_init 57 = .ok (.newarray .int, 2) := by decide +kernel
theorem dX6_init_59 : decode cX6_init 59 = .ok (.putfield 33, 3) := by decide +kernel
theorem dX6_init_62 : decode cX6_init 62 = .ok (.aload_n 0, 1) := by decide +kernel
theorem dX6_init_63 : decode cX6_init 63 = .ok (.bipush 38, 2) := by decide +kernel
theorem dX6_init_65 : decode cX6_init 65 = .ok (.newarray .long, 2) := by decide +kernel
theorem dX6_init_67 : decode cX6_init 67 = .ok (.putfield 36, 3) := by decide +kernel
theorem dX6_init_70 : decode cX6_init 70 = .ok (.aload_n 0, 1) := by decide +kernel
theorem dX6_init_71 : decode cX6_init 71 = .ok (.bipush 38, 2) := by decide +kernel
theorem dX6_init_73 : decode cX6_init 73 = .ok (.newarray .int, 2) := by decide +kernel
theorem dX6_init_75 : decode cX6_init 75 = .ok (.putfield 39, 3) := by decide +kernel
theorem dX6_init_78 : decode cX6_init 78 = .ok (.aload_n 0, 1) := by decide +kernel
theorem dX6_init_79 : decode cX6_init 79 = .ok (.bipush 38, 2) := by decide +kernel
theorem dX6_init_81 : decode cX6_init 81 = .ok (.newarray .long, 2) := by decide +kernel
theorem dX6_init_83 : decode cX6_init 83 = .ok (.putfield 42, 3) := by decide +kernel
theorem dX6_init_86 : decode cX6_init 86 = .ok (.aload_n 0, 1) := by decide +kernel
theorem dX6_init_87 : decode cX6_init 87 = .ok (.bipush 38, 2) := by decide +kernel
theorem dX6_init_89 : decode cX6_init 89 = .ok (.newarray .int, 2) := by decide +kernel
theorem dX6_init_91 : decode cX6_init 91 = .ok (.putfield 45, 3) := by decide +kernel
theorem dX6_init_94 : decode cX6_init 94 = .ok (.aload_n 0, 1) := by decide +kernel
theorem dX6_init_95 : decode cX6_init 95 = .ok (.bipush 38, 2) := by decide +kernel
theorem dX6_init_97 : decode cX6_init 97 = .ok (.newarray .int, 2) := by decide +kernel
theorem dX6_init_99 : decode cX6_init 99 = .ok (.putfield 48, 3) := by decide +kernel
theorem dX6_init_102 : decode cX6_init 102 = .ok (.aload_n 0, 1) := by decide +kernel
theorem dX6_init_103 : decode cX6_init 103 = .ok (.getfield 7, 3) := by decide +kernel
theorem dX6_init_106 : decode cX6_init 106 = .ok (.iconst 1, 1) := by decide +kernel
theorem dX6_init_107 : decode cX6_init 107 = .ok (.iconst 3, 1) := by decide +kernel
theorem dX6_init_108 : decode cX6_init 108 = .ok (.iastore, 1) := by decide +kernel
theorem dX6_init_109 : decode cX6_init 109 = .ok (.aload_n 0, 1) := by decide +kernel
theorem dX6_init_110 : decode cX6_init 110 = .ok (.getfield 7, 3) := by decide +kernel
theorem dX6_init_113 : decode cX6_init 113 = .ok (.iconst 2, 1) := by decide +kernel
theorem dX6_init_114 : decode cX6_init 114 = .ok (.bipush 20, 2) := by decide +kernel
theorem dX6_init_116 : decode cX6_init 116 = .ok (.iastore, 1) := by decide +kernel
theorem dX6_init_117 : decode cX6_init 117 = .ok (.aload_n 0, 1) := by decide +kernel
theorem dX6_init_118 : decode cX6_init 118 = .ok (.getfield 7, 3) := by decide +kernel
theorem dX6_init_121 : decode cX6_init 121 = .ok (.iconst 3, 1) := by decide +kernel
theorem dX6_init_122 : decode cX6_init 122 = .ok (.bipush 8, 2) := by decide +kernel
theorem dX6_init_124 : decode cX6_init 124 = .ok (.iastore, 1) := by decide +kernel
theorem dX6_init_125 : decode cX6_init 125 = .ok (.aload_n 0, 1) := by decide +kernel
theorem dX6_init_126 : decode cX6_init 126 = .ok (.getfield 7, 3) := by decide +kernel
theorem dX6_init_129 : decode cX6_init 129 = .ok (.iconst 4, 1) := by decide +kernel
theorem dX6_init_130 : decode cX6_init 130 = .ok (.iconst 4, 1) := by decide +kernel
theorem dX6_init_131 : decode cX6_init 131 = .ok (.iastore, 1) := by decide +kernel
theorem dX6_init_132 : decode cX6_init 132 = .ok (.aload_n 0, 1) := by decide +kernel
theorem dX6_init_133 : decode cX6_init 133 = .ok (.getfield 7, 3) := by decide +kernel
theorem dX6_init_136 : decode cX6_init 136 = .ok (.iconst 5, 1) := by decide +kernel
theorem dX6_init_137 : decode cX6_init 137 = .ok (.iconst 3, 1) := by decide +kernel
theorem dX6_init_138 : decode cX6_init 138 = .ok (.iastore, 1) := by decide +kernel
theorem dX6_init_139 : decode cX6_init 139 = .ok (.aload_n 0, 1) := by decide +kernel
theorem dX6_init_140 : decode cX6_init 140 = .ok (.getfield 7, 3) := by decide +kernel
theorem dX6_init_143 : decode cX6_init 143 = .ok (.bipush 6, 2) := by decide +kernel
theorem dX6_init_145 : decode cX6_init 145 = .ok (.iconst 2, 1) := by decide +kernel
theorem dX6_init_146 : decode cX6_init 146 = .ok (.iastore, 1) := by decide +kernel
theorem dX6_init_147 : decode cX6_init 147 = .ok (.bipush 7, 2) := by decide +kernel
theorem dX6_init_149 : decode cX6_init 149 = .ok (.istore_n 1, 1) := by decide +kernel
theorem dX6_init_150 : decode cX6_init 150 = .ok (.iload_n 1, 1) := by decide +kernel
theorem dX6_init_151 : decode cX6_init 151 = .ok (.bipush 12, 2) := by decide +kernel
theorem dX6_init_153 : decode cX6_init 153 = .ok (.if_icmp .gt 16, 3) := by decide +kernel
theorem dX6_init_156 : decode cX6_init 156 = .ok (.aload_n 0, 1) := by decide +kernel
theorem dX6_init_157 : decode cX6_init 157 = .ok (.getfield 7, 3) := by decide +kernel
theorem dX6_init_160 : decode cX6_init 160 = .ok (.iload_n 1, 1) := by decide +kernel
theorem dX6_init_161 : decode cX6_init 161 = .ok (.iconst 1, 1) := by decide +kernel
theorem dX6_init_162 : decode cX6_init 162 = .ok (.iastore, 1) := by decide +kernel
theorem dX6_init_163 : decode cX6_init 163 = .ok (.iinc 1 1, 3) := by decide +kernel
theorem dX6_init_166 : decode cX6_init 166 = .ok (.goto (-16), 3) := by decide +kernel
theorem dX6_init_169 : decode cX6_init 169 = .ok (.aload_n 0, 1) := by decide +kernel
theorem dX6_init_170 : decode cX6_init 170 = .ok (.invokevirtual 51, 3) := by decide +kernel
theorem dX6_init_173 : decode cX6_init 173 = .ok (.return_, 1) := by decide +kernel
theorem dX6_thrown_0 : decode cX6_thrown 0 = .ok (.aload_n 0, 1) := by decide +kernel
theorem dX6_thrown_1 : decode cX6_thrown 1 = .ok (.getfield 54, 3) := by decide +kernel
theorem dX6_thrown_4 : decode cX6_thrown 4 = .ok (.ireturn, 1) := by decide +kernel
theorem dX6_refused_0 : decode cX6_refused 0 = .ok (.aload_n 0, 1) := by decide +kernel
theorem dX6_refused_1 : decode cX6_refused 1 = .ok (.iload_n 1, 1) := by decide +kernel
theorem dX6_refused_2 : decode cX6_refused 2 = .ok (.putfield 54, 3) := by decide +kernel
theorem dX6_refused_5 : decode cX6_refused 5 = .ok (.iload_n 1, 1) := by decide +kernel
theorem dX6_refused_6 : decode cX6_refused 6 = .ok (.ifCond .eq 7, 3) := by decide +kernel
theorem dX6_refused_9 : decode cX6_refused 9 = .ok (.iconst 1, 1) := by decide +kernel
theorem dX6_refused_10 : decode cX6_refused 10 = .ok (.goto 4, 3) := by decide +kernel
theorem dX6_refused_13 : decode cX6_refused 13 = .ok (.iconst 0, 1) := by decide +kernel
theorem dX6_refused_14 : decode cX6_refused 14 = .ok (.ireturn, 1) := by decide +kernel
theorem dX6_told_0 : decode cX6_told 0 = .ok (.aload_n 0, 1) := by decide +kernel
theorem dX6_told_1 : decode cX6_told 1 = .ok (.iconst 0, 1) := by decide +kernel
theorem dX6_told_2 : decode cX6_told 2 = .ok (.putfield 54, 3) := by decide +kernel
theorem dX6_told_5 : decode cX6_told 5 = .ok (.iload_n 1, 1) := by decide +kernel
theorem dX6_told_6 : decode cX6_told 6 = .ok (.ireturn, 1) := by decide +kernel
theorem dX6_within_0 : decode cX6_within 0 = .ok (.iload_n 0, 1) := by decide +kernel
theorem dX6_within_1 : decode cX6_within 1 = .ok (.iload_n 1, 1) := by decide +kernel
theorem dX6_within_2 : decode cX6_within 2 = .ok (.if_icmp .lt 12, 3) := by decide +kernel
theorem dX6_within_5 : decode cX6_within 5 = .ok (.iload_n 0, 1) := by decide +kernel
theorem dX6_within_6 : decode cX6_within 6 = .ok (.iload_n 2, 1) := by decide +kernel
theorem dX6_within_7 : decode cX6_within 7 = .ok (.if_icmp .gt 7, 3) := by decide +kernel
theorem dX6_within_10 : decode cX6_within 10 = .ok (.iconst 1, 1) := by decide +kernel
theorem dX6_within_11 : decode cX6_within 11 = .ok (.goto 4, 3) := by decide +kernel
theorem dX6_within_14 : decode cX6_within 14 = .ok (.iconst 0, 1) := by decide +kernel
theorem dX6_within_15 : decode cX6_within 15 = .ok (.ireturn, 1) := by decide +kernel
set_option maxRecDepth 20000 in
theorem ggX6_isBlock_X6_within : GoodIn wsX6_isBlock wsX6_within := goodIn_r _ [5] (by decide +kernel) (by decide +kernel)
set_option maxRecDepth 20000 in
theorem gX6_isBlock_X6_within : GoodIn wsX6_isBlock (va_wsS RX6 57 yX6_within wsX6_within) := goodIn_app (goodIn_of _ (by decide +kernel)) ggX6_isBlock_X6_within
theorem dX6_isBlock_0 : decode cX6_isBlock 0 = .ok (.iload_n 1, 1) := by decide +kernel
theorem dX6_isBlock_1 : decode cX6_isBlock 1 = .ok (.iconst 0, 1) := by decide +kernel
theorem dX6_isBlock_2 : decode cX6_isBlock 2 = .ok (.aload_n 0, 1) := by decide +kernel
theorem dX6_isBlock_3 : decode cX6_isBlock 3 = .ok (.getfield 17, 3) := by decide +kernel
theorem dX6_isBlock_6 : decode cX6_isBlock 6 = .ok (.iconst 1, 1) := by decide +kernel
theorem dX6_isBlock_7 : decode cX6_isBlock 7 = .ok (.isub, 1) := by decide +kernel
theorem dX6_isBlock_8 : decode cX6_isBlock 8 = .ok (.invokestatic 57, 3) := by decide +kernel
theorem dX6_isBlock_11 : decode cX6_isBlock 11 = .ok (.ireturn, 1) := by decide +kernel
set_option maxRecDepth 20000 in
theorem ggX6_noBlock_X6_isBlock : GoodIn wsX6_noBlock wsX6_isBlock := goodIn_r _ [5, 6, 7, 8, 4, 9, 15, 16, 17, 18, 19, 20, 21, 22, 23, 24, 25, 26, 27, 28, 29, 30, 31, 32, 33, 34, 35, 36] (by decide +kernel) (by decide +kernel)
set_option maxRecDepth 20000 in
theorem gX6_noBlock_X6_isBlock : GoodIn wsX6_noBlock (wsV RX6 61 RX6 yX6_isBlock wsX6_isBlock) := goodIn_app (goodIn_of _ (by decide +kernel)) ggX6_noBlock_X6_isBlock
set_option maxRecDepth 20000 in
theorem ggX6_noBlock_X6_refused : GoodIn wsX6_noBlock wsX6_refused := goodIn_r _ [13, 14, 15, 16, 17, 18, 19, 20, 21, 22, 23, 24, 25, 26, 27, 28, 29, 30, 31, 32, 33, 34, 35, 36] (by decide +kernel) (by decide +kernel)
set_option maxRecDepth 20000 in
theorem gX6_noBlock_X6_refused : GoodIn wsX6_noBlock (wsV RX6 65 RX6 yX6_refused wsX6_refused) := goodIn_app (goodIn_of _ (by decide +kernel)) ggX6_noBlock_X6_refused
theorem dX6_noBlock_0 : decode cX6_noBlock 0 = .ok (.aload_n 0, 1) := by decide +kernel
theorem dX6_noBlock_1 : decode cX6_noBlock 1 = .ok (.aload_n 0, 1) := by decide +kernel
theorem dX6_noBlock_2 : decode cX6_noBlock 2 = .ok (.iload_n 1, 1) := by decide +kernel
theorem dX6_noBlock_3 : decode cX6_noBlock 3 = .ok (.invokevirtual 61, 3) := by decide +kernel
theorem dX6_noBlock_6 : decode cX6_noBlock 6 = .ok (.ifCond .eq 7, 3) := by decide +kernel
theorem dX6_noBlock_9 : decode cX6_noBlock 9 = .ok (.iconst 0, 1) := by decide +kernel
theorem dX6_noBlock_10 : decode cX6_noBlock 10 = .ok (.goto 4, 3) := by decide +kernel
theorem dX6_noBlock_13 : decode cX6_noBlock 13 = .ok (.iconst 1, 1) := by decide +kernel
theorem dX6_noBlock_14 : decode cX6_noBlock 14 = .ok (.invokevirtual 65, 3) := by decide +kernel
theorem dX6_noBlock_17 : decode cX6_noBlock 17 = .ok (.ireturn, 1) := by decide +kernel
theorem dX6_clear_0 : decode cX6_clear 0 = .ok (.aload_n 0, 1) := by decide +kernel
theorem dX6_clear_1 : decode cX6_clear 1 = .ok (.iconst 0, 1) := by decide +kernel
theorem dX6_clear_2 : decode cX6_clear 2 = .ok (.putfield 68, 3) := by decide +kernel
theorem dX6_clear_5 : decode cX6_clear 5 = .ok (.aload_n 0, 1) := by decide +kernel
theorem dX6_clear_6 : decode cX6_clear 6 = .ok (.iconst 0, 1) := by decide +kernel
theorem dX6_clear_7 : decode cX6_clear 7 = .ok (.putfield 71, 3) := by decide +kernel
theorem dX6_clear_10 : decode cX6_clear 10 = .ok (.aload_n 0, 1) := by decide +kernel
theorem dX6_clear_11 : decode cX6_clear 11 = .ok (.iconst 0, 1) := by decide +kernel
theorem dX6_clear_12 : decode cX6_clear 12 = .ok (.putfield 74, 3) := by decide +kernel
theorem dX6_clear_15 : decode cX6_clear 15 = .ok (.aload_n 0, 1) := by decide +kernel
theorem dX6_clear_16 : decode cX6_clear 16 = .ok (.lconst 0, 1) := by decide +kernel
theorem dX6_clear_17 : decode cX6_clear 17 = .ok (.putfield 77, 3) := by decide +kernel
theorem dX6_clear_20 : decode cX6_clear 20 = .ok (.iconst 0, 1) := by decide +kernel
theorem dX6_clear_21 : decode cX6_clear 21 = .ok (.istore_n 1, 1) := by decide +kernel
theorem dX6_clear_22 : decode cX6_clear 22 = .ok (.iload_n 1, 1) := by decide +kernel
theorem dX6_clear_23 : decode cX6_clear 23 = .ok (.bipush 38, 2) := by decide +kernel
theorem dX6_clear_25 : decode cX6_clear 25 = .ok (.if_icmp .ge 30, 3) := by decide +kernel
theorem dX6_clear_28 : decode cX6_clear 28 = .ok (.aload_n 0, 1) := by decide +kernel
theorem dX6_clear_29 : decode cX6_clear 29 = .ok (.getfield 33, 3) := by decide +kernel
theorem dX6_clear_32 : decode cX6_clear 32 = .ok (.iload_n 1, 1) := by decide +kernel
theorem dX6_clear_33 : decode cX6_clear 33 = .ok (.iconst (-1), 1) := by decide +kernel
theorem dX6_clear_34 : decode cX6_clear 34 = .ok (.iastore, 1) := by decide +kernel
theorem dX6_clear_35 : decode cX6_clear 35 = .ok (.aload_n 0, 1) := by decide +kernel
theorem dX6_clear_36 : decode cX6_clear 36 = .ok (.getfield 36, 3) := by decide +kernel
theorem dX6_clear_39 : decode cX6_clear 39 = .ok (.iload_n 1, 1) := by decide +kernel
theorem dX6_clear_40 : decode cX6_clear 40 = .ok (.lconst 0, 1) := by decide +kernel
theorem dX6_clear_41 : decode cX6_clear 41 = .ok (.lastore, 1) := by decide +kernel
theorem dX6_clear_42 : decode cX6_clear 42 = .ok (.aload_n 0, 1) := by decide +kernel
theorem dX6_clear_43 : decode cX6_clear 43 = .ok (.getfield 39, 3) := by decide +kernel
theorem dX6_clear_46 : decode cX6_clear 46 = .ok (.iload_n 1, 1) := by decide +kernel
theorem dX6_clear_47 : decode cX6_clear 47 = .ok (.iconst 0, 1) := by decide +kernel
theorem dX6_clear_48 : decode cX6_clear 48 = .ok (.iastore, 1) := by decide +kernel
theorem dX6_clear_49 : decode cX6_clear 49 = .ok (.iinc 1 1, 3) := by decide +kernel
theorem dX6_clear_52 : decode cX6_clear 52 = .ok (.goto (-30), 3) := by decide +kernel
theorem dX6_clear_55 : decode cX6_clear 55 = .ok (.return_, 1) := by decide +kernel
theorem dX6_covers_0 : decode cX6_covers 0 = .ok (.iload_n 1, 1) := by decide +kernel
theorem dX6_covers_1 : decode cX6_covers 1 = .ok (.iconst 1, 1) := by decide +kernel
theorem dX6_covers_2 : decode cX6_covers 2 = .ok (.iadd, 1) := by decide +kernel
theorem dX6_covers_3 : decode cX6_covers 3 = .ok (.iload_n 0, 1) := by decide +kernel
theorem dX6_covers_4 : decode cX6_covers 4 = .ok (.ishr, 1) := by decide +kernel
theorem dX6_covers_5 : decode cX6_covers 5 = .ok (.iconst 1, 1) := by decide +kernel
theorem dX6_covers_6 : decode cX6_covers 6 = .ok (.iand, 1) := by decide +kernel
theorem dX6_covers_7 : decode cX6_covers 7 = .ok (.iconst 1, 1) := by decide +kernel
theorem dX6_covers_8 : decode cX6_covers 8 = .ok (.if_icmp .ne 7, 3) := by decide +kernel
theorem dX6_covers_11 : decode cX6_covers 11 = .ok (.iconst 1, 1) := by decide +kernel
theorem dX6_covers_12 : decode cX6_covers 12 = .ok (.goto 4, 3) := by decide +kernel
theorem dX6_covers_15 : decode cX6_covers 15 = .ok (.iconst 0, 1) := by decide +kernel
theorem dX6_covers_16 : decode cX6_covers 16 = .ok (.ireturn, 1) := by decide +kernel
set_option maxRecDepth 20000 in
theorem ggX6_valueAt_X6_covers : GoodIn wsX6_valueAt wsX6_covers := goodIn_r _ [6] (by decide +kernel) (by decide +kernel)
set_option maxRecDepth 20000 in
theorem gX6_valueAt_X6_covers : GoodIn wsX6_valueAt (va_wsS RX6 81 yX6_covers wsX6_covers) := goodIn_app (goodIn_of _ (by decide +kernel)) ggX6_valueAt_X6_covers
theorem dX6_valueAt_0 : decode cX6_valueAt 0 = .ok (.iload_n 1, 1) := by decide +kernel
theorem dX6_valueAt_1 : decode cX6_valueAt 1 = .ok (.aload_n 0, 1) := by decide +kernel
theorem dX6_valueAt_2 : decode cX6_valueAt 2 = .ok (.getfield 13, 3) := by decide +kernel
theorem dX6_valueAt_5 : decode cX6_valueAt 5 = .ok (.if_icmp .ge 10, 3) := by decide +kernel
theorem dX6_valueAt_8 : decode cX6_valueAt 8 = .ok (.aload_n 0, 1) := by decide +kernel
theorem dX6_valueAt_9 : decode cX6_valueAt 9 = .ok (.getfield 20, 3) := by decide +kernel
theorem dX6_valueAt_12 : decode cX6_valueAt 12 = .ok (.iload_n 1, 1) := by decide +kernel
theorem dX6_valueAt_13 : decode cX6_valueAt 13 = .ok (.iaload, 1) := by decide +kernel
theorem dX6_valueAt_14 : decode cX6_valueAt 14 = .ok (.ireturn, 1) := by decide +kernel
theorem dX6_valueAt_15 : decode cX6_valueAt 15 = .ok (.iconst 0, 1) := by decide +kernel
theorem dX6_valueAt_16 : decode cX6_valueAt 16 = .ok (.istore_n 2, 1) := by decide +kernel
theorem dX6_valueAt_17 : decode cX6_valueAt 17 = .ok (.iconst 0, 1) := by decide +kernel
theorem dX6_valueAt_18 : decode cX6_valueAt 18 = .ok (.istore_n 3, 1) := by decide +kernel
theorem dX6_valueAt_19 : decode cX6_valueAt 19 = .ok (.iload_n 3, 1) := by decide +kernel
theorem dX6_valueAt_20 : decode cX6_valueAt 20 = .ok (.aload_n 0, 1) := by decide +kernel
theorem dX6_valueAt_21 : decode cX6_valueAt 21 = .ok (.getfield 13, 3) := by decide +kernel
theorem dX6_valueAt_24 : decode cX6_valueAt 24 = .ok (.if_icmp .ge 35, 3) := by decide +kernel
theorem dX6_valueAt_27 : decode cX6_valueAt 27 = .ok (.iload_n 2, 1) := by decide +kernel
theorem dX6_valueAt_28 : decode cX6_valueAt 28 = .ok (.iload_n 1, 1) := by decide +kernel
theorem dX6_valueAt_29 : decode cX6_valueAt 29 = .ok (.aload_n 0, 1) := by decide +kernel
theorem dX6_valueAt_30 : decode cX6_valueAt 30 = .ok (.getfield 13, 3) := by decide +kernel
theorem dX6_valueAt_33 : decode cX6_valueAt 33 = .ok (.isub, 1) := by decide +kernel
theorem dX6_valueAt_34 : decode cX6_valueAt 34 = .ok (.iload_n 3, 1) := by decide +kernel
theorem dX6_valueAt_35 : decode cX6_valueAt 35 = .ok (.invokestatic 81, 3) := by decide +kernel
theorem dX6_valueAt_38 : decode cX6_valueAt 38 = .ok (.ifCond .eq 12, 3) := by decide +kernel
theorem dX6_valueAt_41 : decode cX6_valueAt 41 = .ok (.aload_n 0, 1) := by decide +kernel
theorem dX6_valueAt_42 : decode cX6_valueAt 42 = .ok (.getfield 20, 3) := by decide +kernel
theorem dX6_valueAt_45 : decode cX6_valueAt 45 = .ok (.iload_n 3, 1) := by decide +kernel
theorem dX6_valueAt_46 : decode cX6_valueAt 46 = .ok (.iaload, 1) := by decide +kernel
theorem dX6_valueAt_47 : decode cX6_valueAt 47 = .ok (.goto 4, 3) := by decide +kernel
theorem dX6_valueAt_50 : decode cX6_valueAt 50 = .ok (.iconst 0, 1) := by decide +kernel
theorem dX6_valueAt_51 : decode cX6_valueAt 51 = .ok (.ixor, 1) := by decide +kernel
theorem dX6_valueAt_52 : decode cX6_valueAt 52 = .ok (.istore_n 2, 1) := by decide +kernel
theorem dX6_valueAt_53 : decode cX6_valueAt 53 = .ok (.iinc 3 1, 3) := by decide +kernel
theorem dX6_valueAt_56 : decode cX6_valueAt 56 = .ok (.goto (-37), 3) := by decide +kernel
theorem dX6_valueAt_59 : decode cX6_valueAt 59 = .ok (.iload_n 2, 1) := by decide +kernel
theorem dX6_valueAt_60 : decode cX6_valueAt 60 = .ok (.ireturn, 1) := by decide +kernel
theorem dX6_draw_0 : decode cX6_draw 0 = .ok (.aload_n 0, 1) := by decide +kernel
theorem dX6_draw_1 : decode cX6_draw 1 = .ok (.aload_n 0, 1) := by decide +kernel
theorem dX6_draw_2 : decode cX6_draw 2 = .ok (.getfield 85, 3) := by decide +kernel
theorem dX6_draw_5 : decode cX6_draw 5 = .ok (.ldc2_w 88, 3) := by decide +kernel
theorem dX6_draw_8 : decode cX6_draw 8 = .ok (.lmul, 1) := by decide +kernel
theorem dX6_draw_9 : decode cX6_draw 9 = .ok (.ldc2_w 90, 3) := by decide +kernel
theorem dX6_draw_12 : decode cX6_draw 12 = .ok (.ladd, 1) := by decide +kernel
theorem dX6_draw_13 : decode cX6_draw 13 = .ok (.putfield 85, 3) := by decide +kernel
theorem dX6_draw_16 : decode cX6_draw 16 = .ok (.aload_n 0, 1) := by decide +kernel
theorem dX6_draw_17 : decode cX6_draw 17 = .ok (.getfield 85, 3) := by decide +kernel
theorem dX6_draw_20 : decode cX6_draw 20 = .ok (.bipush 33, 2) := by decide +kernel
theorem dX6_draw_22 : decode cX6_draw 22 = .ok (.lushr, 1) := by decide +kernel
theorem dX6_draw_23 : decode cX6_draw 23 = .ok (.iload_n 1, 1) := by decide +kernel
theorem dX6_draw_24 : decode cX6_draw 24 = .ok (.i2l, 1) := by decide +kernel
theorem dX6_draw_25 : decode cX6_draw 25 = .ok (.lrem, 1) := by decide +kernel
theorem dX6_draw_26 : decode cX6_draw 26 = .ok (.l2i, 1) := by decide +kernel
theorem dX6_draw_27 : decode cX6_draw 27 = .ok (.ireturn, 1) := by decide +kernel
set_option maxRecDepth 20000 in
theorem ggX6_drawDrop_X6_draw : GoodIn wsX6_drawDrop wsX6_draw := goodIn_r _ [10, 1, 11, 12, 13, 14, 15, 16, 17, 18, 19, 20, 21, 22, 23, 24, 25, 26, 27, 28, 29, 30, 31, 32, 33, 34] (by decide +kernel) (by decide +kernel)
set_option maxRecDepth 20000 in
theorem gX6_drawDrop_X6_draw : GoodIn wsX6_drawDrop (wsV RX6 92 RX6 yX6_draw wsX6_draw) := goodIn_app (goodIn_of _ (by decide +kernel)) ggX6_drawDrop_X6_draw
theorem dX6_drawDrop_0 : decode cX6_drawDrop 0 = .ok (.aload_n 0, 1) := by decide +kernel
theorem dX6_drawDrop_1 : decode cX6_drawDrop 1 = .ok (.iload_n 1, 1) := by decide +kernel
theorem dX6_drawDrop_2 : decode cX6_drawDrop 2 = .ok (.i2l, 1) := by decide +kernel
theorem dX6_drawDrop_3 : decode cX6_drawDrop 3 = .ok (.putfield 85, 3) := by decide +kernel
theorem dX6_drawDrop_6 : decode cX6_drawDrop 6 = .ok (.iconst 0, 1) := by decide +kernel
theorem dX6_drawDrop_7 : decode cX6_drawDrop 7 = .ok (.istore_n 2, 1) := by decide +kernel
theorem dX6_drawDrop_8 : decode cX6_drawDrop 8 = .ok (.iconst 1, 1) := by decide +kernel
theorem dX6_drawDrop_9 : decode cX6_drawDrop 9 = .ok (.istore_n 3, 1) := by decide +kernel
theorem dX6_drawDrop_10 : decode cX6_drawDrop 10 = .ok (.iload_n 3, 1) := by decide +kernel
theorem dX6_drawDrop_11 : decode cX6_drawDrop 11 = .ok (.bipush 12, 2) := by decide +kernel
theorem dX6_drawDrop_13 : decode cX6_drawDrop 13 = .ok (.if_icmp .gt 18, 3) := by decide +kernel
theorem dX6_drawDrop_16 : decode cX6_drawDrop 16 = .ok (.iload_n 2, 1) := by decide +kernel
theorem dX6_drawDrop_17 : decode cX6_drawDrop 17 = .ok (.aload_n 0, 1) := by decide +kernel
theorem dX6_drawDrop_18 : decode cX6_drawDrop 18 = .ok (.getfield 7, 3) := by decide +kernel
theorem dX6_drawDrop_21 : decode cX6_drawDrop 21 = .ok (.iload_n 3, 1) := by decide +kernel
theorem dX6_drawDrop_22 : decode cX6_drawDrop 22 = .ok (.iaload, 1) := by decide +kernel
theorem dX6_drawDrop_23 : decode cX6_drawDrop 23 = .ok (.iadd, 1) := by decide +kernel
theorem dX6_drawDrop_24 : decode cX6_drawDrop 24 = .ok (.istore_n 2, 1) := by decide +kernel
theorem dX6_drawDrop_25 : decode cX6_drawDrop 25 = .ok (.iinc 3 1, 3) := by decide +kernel
theorem dX6_drawDrop_28 : decode cX6_drawDrop 28 = .ok (.goto (-18), 3) := by decide +kernel
theorem dX6_drawDrop_31 : decode cX6_drawDrop 31 = .ok (.aload_n 0, 1) := by decide +kernel
theorem dX6_drawDrop_32 : decode cX6_drawDrop 32 = .ok (.iload_n 2, 1) := by decide +kernel
theorem dX6_drawDrop_33 : decode cX6_drawDrop 33 = .ok (.invokevirtual 92, 3) := by decide +kernel
theorem dX6_drawDrop_36 : decode cX6_drawDrop 36 = .ok (.istore_n 3, 1) := by decide +kernel
theorem dX6_drawDrop_37 : decode cX6_drawDrop 37 = .ok (.iconst 0, 1) := by decide +kernel
theorem dX6_drawDrop_38 : decode cX6_drawDrop 38 = .ok (.istore 4, 2) := by decide +kernel
theorem dX6_drawDrop_40 : decode cX6_drawDrop 40 = .ok (.iconst 0, 1) := by decide +kernel
theorem dX6_drawDrop_41 : decode cX6_drawDrop 41 = .ok (.istore 5, 2) := by decide +kernel
theorem dX6_drawDrop_43 : decode cX6_drawDrop 43 = .ok (.iload 5, 2) := by decide +kernel
theorem dX6_drawDrop_45 : decode cX6_drawDrop 45 = .ok (.iload_n 3, 1) := by decide +kernel
theorem dX6_drawDrop_46 : decode cX6_drawDrop 46 = .ok (.if_icmp .gt 21, 3) := by decide +kernel
theorem dX6_drawDrop_49 : decode cX6_drawDrop 49 = .ok (.iinc 4 1, 3) := by decide +kernel
theorem dX6_drawDrop_52 : decode cX6_drawDrop 52 = .ok (.iload 5, 2) := by decide +kernel
theorem dX6_drawDrop_54 : decode cX6_drawDrop 54 = .ok (.aload_n 0, 1) := by decide +kernel
theorem dX6_drawDrop_55 : decode cX6_drawDrop 55 = .ok (.getfield 7, 3) := by decide +kernel
theorem dX6_drawDrop_58 : decode cX6_drawDrop 58 = .ok (.iload 4, 2) := by decide +kernel
theorem dX6_drawDrop_60 : decode cX6_drawDrop 60 = .ok (.iaload, 1) := by decide +kernel
theorem dX6_drawDrop_61 : decode cX6_drawDrop 61 = .ok (.iadd, 1) := by decide +kernel
theorem dX6_drawDrop_62 : decode cX6_drawDrop 62 = .ok (.istore 5, 2) := by decide +kernel
theorem dX6_drawDrop_64 : decode cX6_drawDrop 64 = .ok (.goto (-21), 3) := by decide +kernel
theorem dX6_drawDrop_67 : decode cX6_drawDrop 67 = .ok (.aload_n 0, 1) := by decide +kernel
theorem dX6_drawDrop_68 : decode cX6_drawDrop 68 = .ok (.iload 4, 2) := by decide +kernel
theorem dX6_drawDrop_70 : decode cX6_drawDrop 70 = .ok (.aload_n 0, 1) := by decide +kernel
theorem dX6_drawDrop_71 : decode cX6_drawDrop 71 = .ok (.getfield 17, 3) := by decide +kernel
theorem dX6_drawDrop_74 : decode cX6_drawDrop 74 = .ok (.if_icmp .ge 8, 3) := by decide +kernel
theorem dX6_drawDrop_77 : decode cX6_drawDrop 77 = .ok (.iload 4, 2) := by decide +kernel
theorem dX6_drawDrop_79 : decode cX6_drawDrop 79 = .ok (.goto 7, 3) := by decide +kernel
theorem dX6_drawDrop_82 : decode cX6_drawDrop 82 = .ok (.aload_n 0, 1) := by decide +kernel
theorem dX6_drawDrop_83 : decode cX6_drawDrop 83 = .ok (.getfield 17, 3) := by decide +kernel
theorem dX6_drawDrop_86 : decode cX6_drawDrop 86 = .ok (.putfield 96, 3) := by decide +kernel
theorem dX6_drawDrop_89 : decode cX6_drawDrop 89 = .ok (.iconst 0, 1) := by decide +kernel
theorem dX6_drawDrop_90 : decode cX6_drawDrop 90 = .ok (.istore 6, 2) := by decide +kernel
theorem dX6_drawDrop_92 : decode cX6_drawDrop 92 = .ok (.iload 6, 2) := by decide +kernel
theorem dX6_drawDrop_94 : decode cX6_drawDrop 94 = .ok (.aload_n 0, 1) := by decide +kernel
theorem dX6_drawDrop_95 : decode cX6_drawDrop 95 = .ok (.getfield 17, 3) := by decide +kernel
theorem dX6_drawDrop_98 : decode cX6_drawDrop 98 = .ok (.if_icmp .ge 18, 3) := by decide +kernel
theorem dX6_drawDrop_101 : decode cX6_drawDrop 101 = .ok (.aload_n 0, 1) := by decide +kernel
theorem dX6_drawDrop_102 : decode cX6_drawDrop 102 = .ok (.getfield 48, 3) := by decide +kernel
theorem dX6_drawDrop_105 : decode cX6_drawDrop 105 = .ok (.iload 6, 2) := by decide +kernel
theorem dX6_drawDrop_107 : decode cX6_drawDrop 107 = .ok (.iload 6, 2) := by decide +kernel
theorem dX6_drawDrop_109 : decode cX6_drawDrop 109 = .ok (.iastore, 1) := by decide +kernel
theorem dX6_drawDrop_110 : decode cX6_drawDrop 110 = .ok (.iinc 6 1, 3) := by decide +kernel
theorem dX6_drawDrop_113 : decode cX6_drawDrop 113 = .ok (.goto (-21), 3) := by decide +kernel
theorem dX6_drawDrop_116 : decode cX6_drawDrop 116 = .ok (.iconst 0, 1) := by decide +kernel
theorem dX6_drawDrop_117 : decode cX6_drawDrop 117 = .ok (.istore 6, 2) := by decide +kernel
theorem dX6_drawDrop_119 : decode cX6_drawDrop 119 = .ok (.iload 6, 2) := by decide +kernel
theorem dX6_drawDrop_121 : decode cX6_drawDrop 121 = .ok (.aload_n 0, 1) := by decide +kernel
theorem dX6_drawDrop_122 : decode cX6_drawDrop 122 = .ok (.getfield 96, 3) := by decide +kernel
theorem dX6_drawDrop_125 : decode cX6_drawDrop 125 = .ok (.if_icmp .ge 57, 3) := by decide +kernel
theorem dX6_drawDrop_128 : decode cX6_drawDrop 128 = .ok (.iload 6, 2) := by decide +kernel
theorem dX6_drawDrop_130 : decode cX6_drawDrop 130 = .ok (.aload_n 0, 1) := by decide +kernel
theorem dX6_drawDrop_131 : decode cX6_drawDrop 131 = .ok (.aload_n 0, 1) := by decide +kernel
theorem dX6_drawDrop_132 : decode cX6_drawDrop 132 = .ok (.getfield 17, 3) := by decide +kernel
theorem dX6_drawDrop_135 : decode cX6_drawDrop 135 = .ok (.iload 6, 2) := by decide +kernel
theorem dX6_drawDrop_137 : decode cX6_drawDrop 137 = .ok (.isub, 1) := by decide +kernel
theorem dX6_drawDrop_138 : decode cX6_drawDrop 138 = .ok (.invokevirtual 92, 3) := by decide +kernel
theorem dX6_drawDrop_141 : decode cX6_drawDrop 141 = .ok (.iadd, 1) := by decide +kernel
theorem dX6_drawDrop_142 : decode cX6_drawDrop 142 = .ok (.istore 7, 2) := by decide +kernel
theorem dX6_drawDrop_144 : decode cX6_drawDrop 144 = .ok (.aload_n 0, 1) := by decide +kernel
theorem dX6_drawDrop_145 : decode cX6_drawDrop 145 = .ok (.getfield 48, 3) := by decide +kernel
theorem dX6_drawDrop_148 : decode cX6_drawDrop 148 = .ok (.iload 6, 2) := by decide +kernel
theorem dX6_drawDrop_150 : decode cX6_drawDrop 150 = .ok (.iaload, 1) := by decide +kernel
theorem dX6_drawDrop_151 : decode cX6_drawDrop 151 = .ok (.istore 8, 2) := by decide +kernel
theorem dX6_drawDrop_153 : decode cX6_drawDrop 153 = .ok (.aload_n 0, 1) := by decide +kernel
theorem dX6_drawDrop_154 : decode cX6_drawDrop 154 = .ok (.getfield 48, 3) := by decide +kernel
theorem dX6_drawDrop_157 : decode cX6_drawDrop 157 = .ok (.iload 6, 2) := by decide +kernel
theorem dX6_drawDrop_159 : decode cX6_drawDrop 159 = .ok (.aload_n 0, 1) := by decide +kernel
theorem dX6_drawDrop_160 : decode cX6_drawDrop 160 = .ok (.getfield 48, 3) := by decide +kernel
theorem dX6_drawDrop_163 : decode cX6_drawDrop 163 = .ok (.iload 7, 2) := by decide +kernel
theorem dX6_drawDrop_165 : decode cX6_drawDrop 165 = .ok (.iaload, 1) := by decide +kernel
theorem dX6_drawDrop_166 : decode cX6_drawDrop 166 = .ok (.iastore, 1) := by decide +kernel
theorem dX6_drawDrop_167 : decode cX6_drawDrop 167 = .ok (.aload_n 0, 1) := by decide +kernel
theorem dX6_drawDrop_168 : decode cX6_drawDrop 168 = .ok (.getfield 48, 3) := by decide +kernel
theorem dX6_drawDrop_171 : decode cX6_drawDrop 171 = .ok (.iload 7, 2) := by decide +kernel
theorem dX6_drawDrop_173 : decode cX6_drawDrop 173 = .ok (.iload 8, 2) := by decide +kernel
theorem dX6_drawDrop_175 : decode cX6_drawDrop 175 = .ok (.iastore, 1) := by decide +kernel
theorem dX6_drawDrop_176 : decode cX6_drawDrop 176 = .ok (.iinc 6 1, 3) := by decide +kernel
theorem dX6_drawDrop_179 : decode cX6_drawDrop 179 = .ok (.goto (-60), 3) := by decide +kernel
theorem dX6_drawDrop_182 : decode cX6_drawDrop 182 = .ok (.return_, 1) := by decide +kernel
set_option maxRecDepth 20000 in
theorem ggX6_maskOf_X6_drawDrop : GoodIn wsX6_maskOf wsX6_drawDrop := goodIn_r _ [7, 8, 9, 10, 1, 2, 11, 12, 13, 6, 14, 15, 16, 17, 18, 19, 20, 21, 22, 23, 24, 25, 26, 27, 28, 29, 30, 31, 32, 33, 34, 35, 36, 37, 38] (by decide +kernel) (by decide +kernel)
set_option maxRecDepth 20000 in
theorem gX6_maskOf_X6_drawDrop : GoodIn wsX6_maskOf (wsV RX6 99 RX6 yX6_drawDrop wsX6_drawDrop) := goodIn_app (goodIn_of _ (by decide +kernel)) ggX6_maskOf_X6_drawDrop
theorem dX6_maskOf_0 : decode cX6_maskOf 0 = .ok (.aload_n 0, 1) := by decide +kernel
theorem dX6_maskOf_1 : decode cX6_maskOf 1 = .ok (.iload_n 1, 1) := by decide +kernel
theorem dX6_maskOf_2 : decode cX6_maskOf 2 = .ok (.invokevirtual 99, 3) := by decide +kernel
theorem dX6_maskOf_5 : decode cX6_maskOf 5 = .ok (.lconst 0, 1) := by decide +kernel
theorem dX6_maskOf_6 : decode cX6_maskOf 6 = .ok (.lstore_n 2, 1) := by decide +kernel
theorem dX6_maskOf_7 : decode cX6_maskOf 7 = .ok (.iconst 0, 1) := by decide +kernel
theorem dX6_maskOf_8 : decode cX6_maskOf 8 = .ok (.istore 4, 2) := by decide +kernel
theorem dX6_maskOf_10 : decode cX6_maskOf 10 = .ok (.iload 4, 2) := by decide +kernel
theorem dX6_maskOf_12 : decode cX6_maskOf 12 = .ok (.aload_n 0, 1) := by decide +kernel
theorem dX6_maskOf_13 : decode cX6_maskOf 13 = .ok (.getfield 96, 3) := by decide +kernel
theorem dX6_maskOf_16 : decode cX6_maskOf 16 = .ok (.if_icmp .ge 21, 3) := by decide +kernel
theorem dX6_maskOf_19 : decode cX6_maskOf 19 = .ok (.lload_n 2, 1) := by decide +kernel
theorem dX6_maskOf_20 : decode cX6_maskOf 20 = .ok (.lconst 1, 1) := by decide +kernel
theorem dX6_maskOf_21 : decode cX6_maskOf 21 = .ok (.aload_n 0, 1) := by decide +kernel
theorem dX6_maskOf_22 : decode cX6_maskOf 22 = .ok (.getfield 48, 3) := by decide +kernel
theorem dX6_maskOf_25 : decode cX6_maskOf 25 = .ok (.iload 4, 2) := by decide +kernel
theorem dX6_maskOf_27 : decode cX6_maskOf 27 = .ok (.iaload, 1) := by decide +kernel
theorem dX6_maskOf_28 : decode cX6_maskOf 28 = .ok (.lshl, 1) := by decide +kernel
theorem dX6_maskOf_29 : decode cX6_maskOf 29 = .ok (.lor, 1) := by decide +kernel
theorem dX6_maskOf_30 : decode cX6_maskOf 30 = .ok (.lstore_n 2, 1) := by decide +kernel
theorem dX6_maskOf_31 : decode cX6_maskOf 31 = .ok (.iinc 4 1, 3) := by decide +kernel
theorem dX6_maskOf_34 : decode cX6_maskOf 34 = .ok (.goto (-24), 3) := by decide +kernel
theorem dX6_maskOf_37 : decode cX6_maskOf 37 = .ok (.lload_n 2, 1) := by decide +kernel
theorem dX6_maskOf_38 : decode cX6_maskOf 38 = .ok (.lreturn, 1) := by decide +kernel
set_option maxRecDepth 20000 in
theorem ggX6_numberOf_X6_drawDrop : GoodIn wsX6_numberOf wsX6_drawDrop := goodIn_r _ [7, 8, 9, 10, 1, 2, 11, 12, 13, 6, 14, 15, 16, 26, 27, 28, 29, 30, 31, 32, 33, 34, 35, 36, 37, 38, 39, 40, 41, 42, 43, 44, 45, 46, 47] (by decide +kernel) (by decide +kernel)
set_option maxRecDepth 20000 in
theorem gX6_numberOf_X6_drawDrop : GoodIn wsX6_numberOf (wsV RX6 99 RX6 yX6_drawDrop wsX6_drawDrop) := goodIn_app (goodIn_of _ (by decide +kernel)) ggX6_numberOf_X6_drawDrop
set_option maxRecDepth 20000 in
theorem ggX6_numberOf_X6_valueAt : GoodIn wsX6_numberOf wsX6_valueAt := goodIn_r _ [20, 21, 22, 23, 24, 6, 25, 26, 27, 28, 29, 30, 31, 32, 33, 34, 35, 36, 37, 38, 39, 40, 41, 42, 43, 44, 45, 46, 47] (by decide +kernel) (by decide +kernel)
set_option maxRecDepth 20000 in
theorem gX6_numberOf_X6_valueAt : GoodIn wsX6_numberOf (wsV RX6 103 RX6 yX6_valueAt wsX6_valueAt) := goodIn_app (goodIn_of _ (by decide +kernel)) ggX6_numberOf_X6_valueAt
theorem dX6_numberOf_0 : decode cX6_numberOf 0 = .ok (.aload_n 0, 1) := by decide +kernel
theorem dX6_numberOf_1 : decode cX6_numberOf 1 = .ok (.iload_n 1, 1) := by decide +kernel
theorem dX6_numberOf_2 : decode cX6_numberOf 2 = .ok (.invokevirtual 99, 3) := by decide +kernel
theorem dX6_numberOf_5 : decode cX6_numberOf 5 = .ok (.iconst 0, 1) := by decide +kernel
theorem dX6_numberOf_6 : decode cX6_numberOf 6 = .ok (.istore_n 2, 1) := by decide +kernel
theorem dX6_numberOf_7 : decode cX6_numberOf 7 = .ok (.iconst 0, 1) := by decide +kernel
theorem dX6_numberOf_8 : decode cX6_numberOf 8 = .ok (.istore_n 3, 1) := by decide +kernel
theorem dX6_numberOf_9 : decode cX6_numberOf 9 = .ok (.iload_n 3, 1) := by decide +kernel
theorem dX6_numberOf_10 : decode cX6_numberOf 10 = .ok (.aload_n 0, 1) := by decide +kernel
theorem dX6_numberOf_11 : decode cX6_numberOf 11 = .ok (.getfield 96, 3) := by decide +kernel
theorem dX6_numberOf_14 : decode cX6_numberOf 14 = .ok (.if_icmp .ge 22, 3) := by decide +kernel
theorem dX6_numberOf_17 : decode cX6_numberOf 17 = .ok (.iload_n 2, 1) := by decide +kernel
theorem dX6_numberOf_18 : decode cX6_numberOf 18 = .ok (.aload_n 0, 1) := by decide +kernel
theorem dX6_numberOf_19 : decode cX6_numberOf 19 = .ok (.aload_n 0, 1) := by decide +kernel
theorem dX6_numberOf_20 : decode cX6_numberOf 20 = .ok (.getfield 48, 3) := by decide +kernel
theorem dX6_numberOf_23 : decode cX6_numberOf 23 = .ok (.iload_n 3, 1) := by decide +kernel
theorem dX6_numberOf_24 : decode cX6_numberOf 24 = .ok (.iaload, 1) := by decide +kernel
theorem dX6_numberOf_25 : decode cX6_numberOf 25 = .ok (.invokevirtual 103, 3) := by decide +kernel
theorem dX6_numberOf_28 : decode cX6_numberOf 28 = .ok (.ixor, 1) := by decide +kernel
theorem dX6_numberOf_29 : decode cX6_numberOf 29 = .ok (.istore_n 2, 1) := by decide +kernel
theorem dX6_numberOf_30 : decode cX6_numberOf 30 = .ok (.iinc 3 1, 3) := by decide +kernel
theorem dX6_numberOf_33 : decode cX6_numberOf 33 = .ok (.goto (-24), 3) := by decide +kernel
theorem dX6_numberOf_36 : decode cX6_numberOf 36 = .ok (.iload_n 2, 1) := by decide +kernel
theorem dX6_numberOf_37 : decode cX6_numberOf 37 = .ok (.ireturn, 1) := by decide +kernel
theorem dX6_reduce_0 : decode cX6_reduce 0 = .ok (.aload_n 0, 1) := by decide +kernel
theorem dX6_reduce_1 : decode cX6_reduce 1 = .ok (.lload_n 1, 1) := by decide +kernel
theorem dX6_reduce_2 : decode cX6_reduce 2 = .ok (.putfield 106, 3) := by decide +kernel
theorem dX6_reduce_5 : decode cX6_reduce 5 = .ok (.aload_n 0, 1) := by decide +kernel
theorem dX6_reduce_6 : decode cX6_reduce 6 = .ok (.iload_n 3, 1) := by decide +kernel
theorem dX6_reduce_7 : decode cX6_reduce 7 = .ok (.putfield 109, 3) := by decide +kernel
theorem dX6_reduce_10 : decode cX6_reduce 10 = .ok (.iconst 0, 1) := by decide +kernel
theorem dX6_reduce_11 : decode cX6_reduce 11 = .ok (.istore 4, 2) := by decide +kernel
theorem dX6_reduce_13 : decode cX6_reduce 13 = .ok (.iload 4, 2) := by decide +kernel
theorem dX6_reduce_15 : decode cX6_reduce 15 = .ok (.aload_n 0, 1) := by decide +kernel
theorem dX6_reduce_16 : decode cX6_reduce 16 = .ok (.getfield 17, 3) := by decide +kernel
theorem dX6_reduce_19 : decode cX6_reduce 19 = .ok (.if_icmp .ge 67, 3) := by decide +kernel
theorem dX6_reduce_22 : decode cX6_reduce 22 = .ok (.aload_n 0, 1) := by decide +kernel
theorem dX6_reduce_23 : decode cX6_reduce 23 = .ok (.getfield 106, 3) := by decide +kernel
theorem dX6_reduce_26 : decode cX6_reduce 26 = .ok (.iload 4, 2) := by decide +kernel
theorem dX6_reduce_28 : decode cX6_reduce 28 = .ok (.lshr, 1) := by decide +kernel
theorem dX6_reduce_29 : decode cX6_reduce 29 = .ok (.lconst 1, 1) := by decide +kernel
theorem dX6_reduce_30 : decode cX6_reduce 30 = .ok (.land, 1) := by decide +kernel
theorem dX6_reduce_31 : decode cX6_reduce 31 = .ok (.lconst 1, 1) := by decide +kernel
theorem dX6_reduce_32 : decode cX6_reduce 32 = .ok (.lcmp, 1) := by decide +kernel
theorem dX6_reduce_33 : decode cX6_reduce 33 = .ok (.ifCond .ne 47, 3) := by decide +kernel
theorem dX6_reduce_36 : decode cX6_reduce 36 = .ok (.aload_n 0, 1) := by decide +kernel
theorem dX6_reduce_37 : decode cX6_reduce 37 = .ok (.getfield 36, 3) := by decide +kernel
theorem dX6_reduce_40 : decode cX6_reduce 40 = .ok (.iload 4, 2) := by decide +kernel
theorem dX6_reduce_42 : decode cX6_reduce 42 = .ok (.laload, 1) := by decide +kernel
theorem dX6_reduce_43 : decode cX6_reduce 43 = .ok (.lconst 0, 1) := by decide +kernel
theorem dX6_reduce_44 : decode cX6_reduce 44 = .ok (.lcmp, 1) := by decide +kernel
theorem dX6_reduce_45 : decode cX6_reduce 45 = .ok (.ifCond .eq 35, 3) := by decide +kernel
theorem dX6_reduce_48 : decode cX6_reduce 48 = .ok (.aload_n 0, 1) := by decide +kernel
theorem dX6_reduce_49 : decode cX6_reduce 49 = .ok (.dup, 1) := by decide +kernel
theorem dX6_reduce_50 : decode cX6_reduce 50 = .ok (.getfield 106, 3) := by decide +kernel
theorem dX6_reduce_53 : decode cX6_reduce 53 = .ok (.aload_n 0, 1) := by decide +kernel
theorem dX6_reduce_54 : decode cX6_reduce 54 = .ok (.getfield 36, 3) := by decide +kernel
theorem dX6_reduce_57 : decode cX6_reduce 57 = .ok (.iload 4, 2) := by decide +kernel
theorem dX6_reduce_59 : decode cX6_reduce 59 = .ok (.laload, 1) := by decide +kernel
theorem dX6_reduce_60 : decode cX6_reduce 60 = .ok (.lxor, 1) := by decide +kernel
theorem dX6_reduce_61 : decode cX6_reduce 61 = .ok (.putfield 106, 3) := by decide +kernel
theorem dX6_reduce_64 : decode cX6_reduce 64 = .ok (.aload_n 0, 1) := by decide +kernel
theorem dX6_reduce_65 : decode cX6_reduce 65 = .ok (.dup, 1) := by decide +kernel
theorem dX6_reduce_66 : decode cX6_reduce 66 = .ok (.getfield 109, 3) := by decide +kernel
theorem dX6_reduce_69 : decode cX6_reduce 69 = .ok (.aload_n 0, 1) := by decide +kernel
theorem dX6_reduce_70 : decode cX6_reduce 70 = .ok (.getfield 39, 3) := by decide +kernel
theorem dX6_reduce_73 : decode cX6_reduce 73 = .ok (.iload 4, 2) := by decide +kernel
theorem dX6_reduce_75 : decode cX6_reduce 75 = .ok (.iaload, 1) := by decide +kernel
theorem dX6_reduce_76 : decode cX6_reduce 76 = .ok (.ixor, 1) := by decide +kernel
theorem dX6_reduce_77 : decode cX6_reduce 77 = .ok (.putfield 109, 3) := by decide +kernel
theorem dX6_reduce_80 : decode cX6_reduce 80 = .ok (.iinc 4 1, 3) := by decide +kernel
theorem dX6_reduce_83 : decode cX6_reduce 83 = .ok (.goto (-70), 3) := by decide +kernel
theorem dX6_reduce_86 : decode cX6_reduce 86 = .ok (.return_, 1) := by decide +kernel
theorem dX6_layRow_0 : decode cX6_layRow 0 = .ok (.aload_n 0, 1) := by decide +kernel
theorem dX6_layRow_1 : decode cX6_layRow 1 = .ok (.getfield 106, 3) := by decide +kernel
theorem dX6_layRow_4 : decode cX6_layRow 4 = .ok (.lconst 0, 1) := by decide +kernel
theorem dX6_layRow_5 : decode cX6_layRow 5 = .ok (.lcmp, 1) := by decide +kernel
theorem dX6_layRow_6 : decode cX6_layRow 6 = .ok (.ifCond .ne 4, 3) := by decide +kernel
theorem dX6_layRow_9 : decode cX6_layRow 9 = .ok (.return_, 1) := by decide +kernel
theorem dX6_layRow_10 : decode cX6_layRow 10 = .ok (.iconst 0, 1) := by decide +kernel
theorem dX6_layRow_11 : decode cX6_layRow 11 = .ok (.istore_n 1, 1) := by decide +kernel
theorem dX6_layRow_12 : decode cX6_layRow 12 = .ok (.aload_n 0, 1) := by decide +kernel
theorem dX6_layRow_13 : decode cX6_layRow 13 = .ok (.getfield 106, 3) := by decide +kernel
theorem dX6_layRow_16 : decode cX6_layRow 16 = .ok (.iload_n 1, 1) := by decide +kernel
theorem dX6_layRow_17 : decode cX6_layRow 17 = .ok (.lshr, 1) := by decide +kernel
theorem dX6_layRow_18 : decode cX6_layRow 18 = .ok (.lconst 1, 1) := by decide +kernel
theorem dX6_layRow_19 : decode cX6_layRow 19 = .ok (.land, 1) := by decide +kernel
theorem dX6_layRow_20 : decode cX6_layRow 20 = .ok (.lconst 0, 1) := by decide +kernel
theorem dX6_layRow_21 : decode cX6_layRow 21 = .ok (.lcmp, 1) := by decide +kernel
theorem dX6_layRow_22 : decode cX6_layRow 22 = .ok (.ifCond .ne 9, 3) := by decide +kernel
theorem dX6_layRow_25 : decode cX6_layRow 25 = .ok (.iinc 1 1, 3) := by decide +kernel
theorem dX6_layRow_28 : decode cX6_layRow 28 = .ok (.goto (-16), 3) := by decide +kernel
theorem dX6_layRow_31 : decode cX6_layRow 31 = .ok (.iconst 0, 1) := by decide +kernel
theorem dX6_layRow_32 : decode cX6_layRow 32 = .ok (.istore_n 2, 1) := by decide +kernel
theorem dX6_layRow_33 : decode cX6_layRow 33 = .ok (.iload_n 2, 1) := by decide +kernel
theorem dX6_layRow_34 : decode cX6_layRow 34 = .ok (.aload_n 0, 1) := by decide +kernel
theorem dX6_layRow_35 : decode cX6_layRow 35 = .ok (.getfield 17, 3) := by decide +kernel
theorem dX6_layRow_38 : decode cX6_layRow 38 = .ok (.if_icmp .ge 50, 3) := by decide +kernel
theorem dX6_layRow_41 : decode cX6_layRow 41 = .ok (.aload_n 0, 1) := by decide +kernel
theorem dX6_layRow_42 : decode cX6_layRow 42 = .ok (.getfield 36, 3) := by decide +kernel
theorem dX6_layRow_45 : decode cX6_layRow 45 = .ok (.iload_n 2, 1) := by decide +kernel
theorem dX6_layRow_46 : decode cX6_layRow 46 = .ok (.laload, 1) := by decide +kernel
theorem dX6_layRow_47 : decode cX6_layRow 47 = .ok (.iload_n 1, 1) := by decide +kernel
theorem dX6_layRow_48 : decode cX6_layRow 48 = .ok (.lshr, 1) := by decide +kernel
theorem dX6_layRow_49 : decode cX6_layRow 49 = .ok (.lconst 1, 1) := by decide +kernel
theorem dX6_layRow_50 : decode cX6_layRow 50 = .ok (.land, 1) := by decide +kernel
theorem dX6_layRow_51 : decode cX6_layRow 51 = .ok (.lconst 1, 1) := by decide +kernel
theorem dX6_layRow_52 : decode cX6_layRow 52 = .ok (.lcmp, 1) := by decide +kernel
theorem dX6_layRow_53 : decode cX6_layRow 53 = .ok (.ifCond .ne 29, 3) := by decide +kernel
theorem dX6_layRow_56 : decode cX6_layRow 56 = .ok (.aload_n 0, 1) := by decide +kernel
theorem dX6_layRow_57 : decode cX6_layRow 57 = .ok (.getfield 36, 3) := by decide +kernel
theorem dX6_layRow_60 : decode cX6_layRow 60 = .ok (.iload_n 2, 1) := by decide +kernel
theorem dX6_layRow_61 : decode cX6_layRow 61 = .ok (.dup2, 1) := by decide +kernel
theorem dX6_layRow_62 : decode cX6_layRow 62 = .ok (.laload, 1) := by decide +kernel
theorem dX6_layRow_63 : decode cX6_layRow 63 = .ok (.aload_n 0, 1) := by decide +kernel
theorem dX6_layRow_64 : decode cX6_layRow 64 = .ok (.getfield 106, 3) := by decide +kernel
theorem dX6_layRow_67 : decode cX6_layRow 67 = .ok (.lxor, 1) := by decide +kernel
theorem dX6_layRow_68 : decode cX6_layRow 68 = .ok (.lastore, 1) := by decide +kernel
theorem dX6_layRow_69 : decode cX6_layRow 69 = .ok (.aload_n 0, 1) := by decide +kernel
theorem dX6_layRow_70 : decode cX6_layRow 70 = .ok (.getfield 39, 3) := by decide +kernel
theorem dX6_layRow_73 : decode cX6_layRow 73 = .ok (.iload_n 2, 1) := by decide +kernel
theorem dX6_layRow_74 : decode cX6_layRow 74 = .ok (.dup2, 1) := by decide +kernel
theorem dX6_layRow_75 : decode cX6_layRow 75 = .ok (.iaload, 1) := by decide +kernel
theorem dX6_layRow_76 : decode cX6_layRow 76 = .ok (.aload_n 0, 1) := by decide +kernel
theorem dX6_layRow_77 : decode cX6_layRow 77 = .ok (.getfield 109, 3) := by decide +kernel
theorem dX6_layRow_80 : decode cX6_layRow 80 = .ok (.ixor, 1) := by decide +kernel
theorem dX6_layRow_81 : decode cX6_layRow 81 = .ok (.iastore, 1) := by decide +kernel
theorem dX6_layRow_82 : decode cX6_layRow 82 = .ok (.iinc 2 1, 3) := by decide +kernel
theorem dX6_layRow_85 : decode cX6_layRow 85 = .ok (.goto (-52), 3) := by decide +kernel
theorem dX6_layRow_88 : decode cX6_layRow 88 = .ok (.aload_n 0, 1) := by decide +kernel
theorem dX6_layRow_89 : decode cX6_layRow 89 = .ok (.getfield 36, 3) := by decide +kernel
theorem dX6_layRow_92 : decode cX6_layRow 92 = .ok (.iload_n 1, 1) := by decide +kernel
theorem dX6_layRow_93 : decode cX6_layRow 93 = .ok (.aload_n 0, 1) := by decide +kernel
theorem dX6_layRow_94 : decode cX6_layRow 94 = .ok (.getfield 106, 3) := by decide +kernel
theorem dX6_layRow_97 : decode cX6_layRow 97 = .ok (.lastore, 1) := by decide +kernel
theorem dX6_layRow_98 : decode cX6_layRow 98 = .ok (.aload_n 0, 1) := by decide +kernel
theorem dX6_layRow_99 : decode cX6_layRow 99 = .ok (.getfield 39, 3) := by decide +kernel
theorem dX6_layRow_102 : decode cX6_layRow 102 = .ok (.iload_n 1, 1) := by decide +kernel
theorem dX6_layRow_103 : decode cX6_layRow 103 = .ok (.aload_n 0, 1) := by decide +kernel
theorem dX6_layRow_104 : decode cX6_layRow 104 = .ok (.getfield 109, 3) := by decide +kernel
theorem dX6_layRow_107 : decode cX6_layRow 107 = .ok (.iastore, 1) := by decide +kernel
theorem dX6_layRow_108 : decode cX6_layRow 108 = .ok (.return_, 1) := by decide +kernel
set_option maxRecDepth 20000 in
theorem ggX6_addEquation_X6_reduce : GoodIn wsX6_addEquation wsX6_reduce := goodIn_r _ [8, 9, 10, 11, 12, 13, 18, 19, 20, 21, 22, 23, 24, 25, 26, 27, 28, 29, 30, 31, 32, 33, 34, 35, 36, 37, 38, 39] (by decide +kernel) (by decide +kernel)
set_option maxRecDepth 20000 in
theorem gX6_addEquation_X6_reduce : GoodIn wsX6_addEquation (wsV RX6 112 RX6 yX6_reduce wsX6_reduce) := goodIn_app (goodIn_of _ (by decide +kernel)) ggX6_addEquation_X6_reduce
set_option maxRecDepth 20000 in
theorem ggX6_addEquation_X6_layRow : GoodIn wsX6_addEquation wsX6_layRow := goodIn_r _ [17, 9, 11, 12, 13, 10, 18, 19, 20, 21, 22, 23, 24, 25, 26, 27, 28, 29, 30, 31, 32, 33, 34, 35, 36, 37, 38, 39] (by decide +kernel) (by decide +kernel)
set_option maxRecDepth 20000 in
theorem gX6_addEquation_X6_layRow : GoodIn wsX6_addEquation (wsV RX6 116 RX6 yX6_layRow wsX6_layRow) := goodIn_app (goodIn_of _ (by decide +kernel)) ggX6_addEquation_X6_layRow
theorem dX6_addEquation_0 : decode cX6_addEquation 0 = .ok (.aload_n 0, 1) := by decide +kernel
theorem dX6_addEquation_1 : decode cX6_addEquation 1 = .ok (.getfield 23, 3) := by decide +kernel
theorem dX6_addEquation_4 : decode cX6_addEquation 4 = .ok (.aload_n 0, 1) := by decide +kernel
theorem dX6_addEquation_5 : decode cX6_addEquation 5 = .ok (.getfield 68, 3) := by decide +kernel
theorem dX6_addEquation_8 : decode cX6_addEquation 8 = .ok (.lload_n 1, 1) := by decide +kernel
theorem dX6_addEquation_9 : decode cX6_addEquation 9 = .ok (.lastore, 1) := by decide +kernel
theorem dX6_addEquation_10 : decode cX6_addEquation 10 = .ok (.aload_n 0, 1) := by decide +kernel
theorem dX6_addEquation_11 : decode cX6_addEquation 11 = .ok (.getfield 27, 3) := by decide +kernel
theorem dX6_addEquation_14 : decode cX6_addEquation 14 = .ok (.aload_n 0, 1) := by decide +kernel
theorem dX6_addEquation_15 : decode cX6_addEquation 15 = .ok (.getfield 68, 3) := by decide +kernel
theorem dX6_addEquation_18 : decode cX6_addEquation 18 = .ok (.iload_n 3, 1) := by decide +kernel
theorem dX6_addEquation_19 : decode cX6_addEquation 19 = .ok (.iastore, 1) := by decide +kernel
theorem dX6_addEquation_20 : decode cX6_addEquation 20 = .ok (.aload_n 0, 1) := by decide +kernel
theorem dX6_addEquation_21 : decode cX6_addEquation 21 = .ok (.dup, 1) := by decide +kernel
theorem dX6_addEquation_22 : decode cX6_addEquation 22 = .ok (.getfield 68, 3) := by decide +kernel
theorem dX6_addEquation_25 : decode cX6_addEquation 25 = .ok (.iconst 1, 1) := by decide +kernel
theorem dX6_addEquation_26 : decode cX6_addEquation 26 = .ok (.iadd, 1) := by decide +kernel
theorem dX6_addEquation_27 : decode cX6_addEquation 27 = .ok (.putfield 68, 3) := by decide +kernel
theorem dX6_addEquation_30 : decode cX6_addEquation 30 = .ok (.aload_n 0, 1) := by decide +kernel
theorem dX6_addEquation_31 : decode cX6_addEquation 31 = .ok (.lload_n 1, 1) := by decide +kernel
theorem dX6_addEquation_32 : decode cX6_addEquation 32 = .ok (.iload_n 3, 1) := by decide +kernel
theorem dX6_addEquation_33 : decode cX6_addEquation 33 = .ok (.invokevirtual 112, 3) := by decide +kernel
theorem dX6_addEquation_36 : decode cX6_addEquation 36 = .ok (.aload_n 0, 1) := by decide +kernel
theorem dX6_addEquation_37 : decode cX6_addEquation 37 = .ok (.invokevirtual 116, 3) := by decide +kernel
theorem dX6_addEquation_40 : decode cX6_addEquation 40 = .ok (.return_, 1) := by decide +kernel
theorem dX6_peel_0 : decode cX6_peel 0 = .ok (.aload_n 0, 1) := by decide +kernel
theorem dX6_peel_1 : decode cX6_peel 1 = .ok (.getfield 74, 3) := by decide +kernel
theorem dX6_peel_4 : decode cX6_peel 4 = .ok (.istore_n 1, 1) := by decide +kernel
theorem dX6_peel_5 : decode cX6_peel 5 = .ok (.iconst 1, 1) := by decide +kernel
theorem dX6_peel_6 : decode cX6_peel 6 = .ok (.istore_n 2, 1) := by decide +kernel
theorem dX6_peel_7 : decode cX6_peel 7 = .ok (.iload_n 2, 1) := by decide +kernel
theorem dX6_peel_8 : decode cX6_peel 8 = .ok (.ifCond .eq 135, 3) := by decide +kernel
theorem dX6_peel_11 : decode cX6_peel 11 = .ok (.iconst 0, 1) := by decide +kernel
theorem dX6_peel_12 : decode cX6_peel 12 = .ok (.istore_n 2, 1) := by decide +kernel
theorem dX6_peel_13 : decode cX6_peel 13 = .ok (.iconst 0, 1) := by decide +kernel
theorem dX6_peel_14 : decode cX6_peel 14 = .ok (.istore_n 3, 1) := by decide +kernel
theorem dX6_peel_15 : decode cX6_peel 15 = .ok (.iload_n 3, 1) := by decide +kernel
theorem dX6_peel_16 : decode cX6_peel 16 = .ok (.aload_n 0, 1) := by decide +kernel
theorem dX6_peel_17 : decode cX6_peel 17 = .ok (.getfield 68, 3) := by decide +kernel
theorem dX6_peel_20 : decode cX6_peel 20 = .ok (.if_icmp .ge 120, 3) := by decide +kernel
theorem dX6_peel_23 : decode cX6_peel 23 = .ok (.iload_n 2, 1) := by decide +kernel
theorem dX6_peel_24 : decode cX6_peel 24 = .ok (.ifCond .ne 116, 3) := by decide +kernel
theorem dX6_peel_27 : decode cX6_peel 27 = .ok (.aload_n 0, 1) := by decide +kernel
theorem dX6_peel_28 : decode cX6_peel 28 = .ok (.getfield 23, 3) := by decide +kernel
theorem dX6_peel_31 : decode cX6_peel 31 = .ok (.iload_n 3, 1) := by decide +kernel
theorem dX6_peel_32 : decode cX6_peel 32 = .ok (.laload, 1) := by decide +kernel
theorem dX6_peel_33 : decode cX6_peel 33 = .ok (.aload_n 0, 1) := by decide +kernel
theorem dX6_peel_34 : decode cX6_peel 34 = .ok (.getfield 77, 3) := by decide +kernel
theorem dX6_peel_37 : decode cX6_peel 37 = .ok (.ldc2_w 119, 3) := by decide +kernel
theorem dX6_peel_40 : decode cX6_peel 40 = .ok (.lxor, 1) := by decide +kernel
theorem dX6_peel_41 : decode cX6_peel 41 = .ok (.land, 1) := by decide +kernel
theorem dX6_peel_42 : decode cX6_peel 42 = .ok (.lstore 4, 2) := by decide +kernel
theorem dX6_peel_44 : decode cX6_peel 44 = .ok (.lload 4, 2) := by decide +kernel
theorem dX6_peel_46 : decode cX6_peel 46 = .ok (.lconst 0, 1) := by decide +kernel
theorem dX6_peel_47 : decode cX6_peel 47 = .ok (.lcmp, 1) := by decide +kernel
theorem dX6_peel_48 : decode cX6_peel 48 = .ok (.ifCond .eq 19, 3) := by decide +kernel
theorem dX6_peel_51 : decode cX6_peel 51 = .ok (.lload 4, 2) := by decide +kernel
theorem dX6_peel_53 : decode cX6_peel 53 = .ok (.lload 4, 2) := by decide +kernel
theorem dX6_peel_55 : decode cX6_peel 55 = .ok (.lconst 1, 1) := by decide +kernel
theorem dX6_peel_56 : decode cX6_peel 56 = .ok (.lsub, 1) := by decide +kernel
theorem dX6_peel_57 : decode cX6_peel 57 = .ok (.land, 1) := by decide +kernel
theorem dX6_peel_58 : decode cX6_peel 58 = .ok (.lconst 0, 1) := by decide +kernel
theorem dX6_peel_59 : decode cX6_peel 59 = .ok (.lcmp, 1) := by decide +kernel
theorem dX6_peel_60 : decode cX6_peel 60 = .ok (.ifCond .ne 7, 3) := by decide +kernel
theorem dX6_peel_63 : decode cX6_peel 63 = .ok (.iconst 1, 1) := by decide +kernel
theorem dX6_peel_64 : decode cX6_peel 64 = .ok (.goto 4, 3) := by decide +kernel
theorem dX6_peel_67 : decode cX6_peel 67 = .ok (.iconst 0, 1) := by decide +kernel
theorem dX6_peel_68 : decode cX6_peel 68 = .ok (.istore_n 2, 1) := by decide +kernel
theorem dX6_peel_69 : decode cX6_peel 69 = .ok (.iload_n 2, 1) := by decide +kernel
theorem dX6_peel_70 : decode cX6_peel 70 = .ok (.ifCond .eq 64, 3) := by decide +kernel
theorem dX6_peel_73 : decode cX6_peel 73 = .ok (.iconst 0, 1) := by decide +kernel
theorem dX6_peel_74 : decode cX6_peel 74 = .ok (.istore 6, 2) := by decide +kernel
theorem dX6_peel_76 : decode cX6_peel 76 = .ok (.lload 4, 2) := by decide +kernel
theorem dX6_peel_78 : decode cX6_peel 78 = .ok (.iload 6, 2) := by decide +kernel
theorem dX6_peel_80 : decode cX6_peel 80 = .ok (.lshr, 1) := by decide +kernel
theorem dX6_peel_81 : decode cX6_peel 81 = .ok (.lconst 1, 1) := by decide +kernel
theorem dX6_peel_82 : decode cX6_peel 82 = .ok (.land, 1) := by decide +kernel
theorem dX6_peel_83 : decode cX6_peel 83 = .ok (.lconst 0, 1) := by decide +kernel
theorem dX6_peel_84 : decode cX6_peel 84 = .ok (.lcmp, 1) := by decide +kernel
theorem dX6_peel_85 : decode cX6_peel 85 = .ok (.ifCond .ne 9, 3) := by decide +kernel
theorem dX6_peel_88 : decode cX6_peel 88 = .ok (.iinc 6 1, 3) := by decide +kernel
theorem dX6_peel_91 : decode cX6_peel 91 = .ok (.goto (-15), 3) := by decide +kernel
theorem dX6_peel_94 : decode cX6_peel 94 = .ok (.aload_n 0, 1) := by decide +kernel
theorem dX6_peel_95 : decode cX6_peel 95 = .ok (.getfield 30, 3) := by decide +kernel
theorem dX6_peel_98 : decode cX6_peel 98 = .ok (.aload_n 0, 1) := by decide +kernel
theorem dX6_peel_99 : decode cX6_peel 99 = .ok (.getfield 74, 3) := by decide +kernel
theorem dX6_peel_102 : decode cX6_peel 102 = .ok (.iload 6, 2) := by decide +kernel
theorem dX6_peel_104 : decode cX6_peel 104 = .ok (.iastore, 1) := by decide +kernel
theorem dX6_peel_105 : decode cX6_peel 105 = .ok (.aload_n 0, 1) := by decide +kernel
theorem dX6_peel_106 : decode cX6_peel 106 = .ok (.getfield 33, 3) := by decide +kernel
theorem dX6_peel_109 : decode cX6_peel 109 = .ok (.iload 6, 2) := by decide +kernel
theorem dX6_peel_111 : decode cX6_peel 111 = .ok (.iload_n 3, 1) := by decide +kernel
theorem dX6_peel_112 : decode cX6_peel 112 = .ok (.iastore, 1) := by decide +kernel
theorem dX6_peel_113 : decode cX6_peel 113 = .ok (.aload_n 0, 1) := by decide +kernel
theorem dX6_peel_114 : decode cX6_peel 114 = .ok (.dup, 1) := by decide +kernel
theorem dX6_peel_115 : decode cX6_peel 115 = .ok (.getfield 74, 3) := by decide +kernel
theorem dX6_peel_118 : decode cX6_peel 118 = .ok (.iconst 1, 1) := by decide +kernel
theorem dX6_peel_119 : decode cX6_peel 119 = .ok (.iadd, 1) := by decide +kernel
theorem dX6_peel_120 : decode cX6_peel 120 = .ok (.putfield 74, 3) := by decide +kernel
theorem dX6_peel_123 : decode cX6_peel 123 = .ok (.aload_n 0, 1) := by decide +kernel
theorem dX6_peel_124 : decode cX6_peel 124 = .ok (.dup, 1) := by decide +kernel
theorem dX6_peel_125 : decode cX6_peel 125 = .ok (.getfield 77, 3) := by decide +kernel
theorem dX6_peel_128 : decode cX6_peel 128 = .ok (.lload 4, 2) := by decide +kernel
theorem dX6_peel_130 : decode cX6_peel 130 = .ok (.lor, 1) := by decide +kernel
theorem dX6_peel_131 : decode cX6_peel 131 = .ok (.putfield 77, 3) := by decide +kernel
theorem dX6_peel_134 : decode cX6_peel 134 = .ok (.iinc 3 1, 3) := by decide +kernel
theorem dX6_peel_137 : decode cX6_peel 137 = .ok (.goto (-122), 3) := by decide +kernel
theorem dX6_peel_140 : decode cX6_peel 140 = .ok (.goto (-133), 3) := by decide +kernel
theorem dX6_peel_143 : decode cX6_peel 143 = .ok (.aload_n 0, 1) := by decide +kernel
theorem dX6_peel_144 : decode cX6_peel 144 = .ok (.getfield 74, 3) := by decide +kernel
theorem dX6_peel_147 : decode cX6_peel 147 = .ok (.iload_n 1, 1) := by decide +kernel
theorem dX6_peel_148 : decode cX6_peel 148 = .ok (.isub, 1) := by decide +kernel
theorem dX6_peel_149 : decode cX6_peel 149 = .ok (.ireturn, 1) := by decide +kernel
theorem dX6_rankOf_0 : decode cX6_rankOf 0 = .ok (.iconst 0, 1) := by decide +kernel
theorem dX6_rankOf_1 : decode cX6_rankOf 1 = .ok (.istore_n 1, 1) := by decide +kernel
theorem dX6_rankOf_2 : decode cX6_rankOf 2 = .ok (.iconst 0, 1) := by decide +kernel
theorem dX6_rankOf_3 : decode cX6_rankOf 3 = .ok (.istore_n 2, 1) := by decide +kernel
theorem dX6_rankOf_4 : decode cX6_rankOf 4 = .ok (.iload_n 2, 1) := by decide +kernel
theorem dX6_rankOf_5 : decode cX6_rankOf 5 = .ok (.aload_n 0, 1) := by decide +kernel
theorem dX6_rankOf_6 : decode cX6_rankOf 6 = .ok (.getfield 17, 3) := by decide +kernel
theorem dX6_rankOf_9 : decode cX6_rankOf 9 = .ok (.if_icmp .ge 28, 3) := by decide +kernel
theorem dX6_rankOf_12 : decode cX6_rankOf 12 = .ok (.iload_n 1, 1) := by decide +kernel
theorem dX6_rankOf_13 : decode cX6_rankOf 13 = .ok (.aload_n 0, 1) := by decide +kernel
theorem dX6_rankOf_14 : decode cX6_rankOf 14 = .ok (.getfield 36, 3) := by decide +kernel
theorem dX6_rankOf_17 : decode cX6_rankOf 17 = .ok (.iload_n 2, 1) := by decide +kernel
theorem dX6_rankOf_18 : decode cX6_rankOf 18 = .ok (.laload, 1) := by decide +kernel
theorem dX6_rankOf_19 : decode cX6_rankOf 19 = .ok (.lconst 0, 1) := by decide +kernel
theorem dX6_rankOf_20 : decode cX6_rankOf 20 = .ok (.lcmp, 1) := by decide +kernel
theorem dX6_rankOf_21 : decode cX6_rankOf 21 = .ok (.ifCond .eq 7, 3) := by decide +kernel
theorem dX6_rankOf_24 : decode cX6_rankOf 24 = .ok (.iconst 1, 1) := by decide +kernel
theorem dX6_rankOf_25 : decode cX6_rankOf 25 = .ok (.goto 4, 3) := by decide +kernel
theorem dX6_rankOf_28 : decode cX6_rankOf 28 = .ok (.iconst 0, 1) := by decide +kernel
theorem dX6_rankOf_29 : decode cX6_rankOf 29 = .ok (.iadd, 1) := by decide +kernel
theorem dX6_rankOf_30 : decode cX6_rankOf 30 = .ok (.istore_n 1, 1) := by decide +kernel
theorem dX6_rankOf_31 : decode cX6_rankOf 31 = .ok (.iinc 2 1, 3) := by decide +kernel
theorem dX6_rankOf_34 : decode cX6_rankOf 34 = .ok (.goto (-30), 3) := by decide +kernel
theorem dX6_rankOf_37 : decode cX6_rankOf 37 = .ok (.iload_n 1, 1) := by decide +kernel
theorem dX6_rankOf_38 : decode cX6_rankOf 38 = .ok (.ireturn, 1) := by decide +kernel
theorem dX6_determinedMany_0 : decode cX6_determinedMany 0 = .ok (.iconst 0, 1) := by decide +kernel
theorem dX6_determinedMany_1 : decode cX6_determinedMany 1 = .ok (.istore_n 1, 1) := by decide +kernel
theorem dX6_determinedMany_2 : decode cX6_determinedMany 2 = .ok (.iconst 0, 1) := by decide +kernel
theorem dX6_determinedMany_3 : decode cX6_determinedMany 3 = .ok (.istore_n 2, 1) := by decide +kernel
theorem dX6_determinedMany_4 : decode cX6_determinedMany 4 = .ok (.iload_n 2, 1) := by decide +kernel
theorem dX6_determinedMany_5 : decode cX6_determinedMany 5 = .ok (.aload_n 0, 1) := by decide +kernel
theorem dX6_determinedMany_6 : decode cX6_determinedMany 6 = .ok (.getfield 17, 3) := by decide +kernel
theorem dX6_determinedMany_9 : decode cX6_determinedMany 9 = .ok (.if_icmp .ge 30, 3) := by decide +kernel
theorem dX6_determinedMany_12 : decode cX6_determinedMany 12 = .ok (.iload_n 1, 1) := by decide +kernel
theorem dX6_determinedMany_13 : decode cX6_determinedMany 13 = .ok (.aload_n 0, 1) := by decide +kernel
theorem dX6_determinedMany_14 : decode cX6_determinedMany 14 = .ok (.getfield 36, 3) := by decide +kernel
theorem dX6_determinedMany_17 : decode cX6_determinedMany 17 = .ok (.iload_n 2, 1) := by decide +kernel
theorem dX6_determinedMany_18 : decode cX6_determinedMany 18 = .ok (.laload, 1) := by decide +kernel
theorem dX6_determinedMany_19 : decode cX6_determinedMany 19 = .ok (.lconst 1, 1) := by decide +kernel
theorem dX6_determinedMany_20 : decode cX6_determinedMany 20 = .ok (.iload_n 2, 1) := by decide +kernel
theorem dX6_determinedMany_21 : decode cX6_determinedMany 21 = .ok (.lshl, 1) := by decide +kernel
theorem dX6_determinedMany_22 : decode cX6_determinedMany 22 = .ok (.lcmp, 1) := by decide +kernel
theorem dX6_determinedMany_23 : decode cX6_determinedMany 23 = .ok (.ifCond .ne 7, 3) := by decide +kernel
theorem dX6_determinedMany_26 : decode cX6_determinedMany 26 = .ok (.iconst 1, 1) := by decide +kernel
theorem dX6_determinedMany_27 : decode cX6_determinedMany 27 = .ok (.goto 4, 3) := by decide +kernel
theorem dX6_determinedMany_30 : decode cX6_determinedMany 30 = .ok (.iconst 0, 1) := by decide +kernel
theorem dX6_determinedMany_31 : decode cX6_determinedMany 31 = .ok (.iadd, 1) := by decide +kernel
theorem dX6_determinedMany_32 : decode cX6_determinedMany 32 = .ok (.istore_n 1, 1) := by decide +kernel
theorem dX6_determinedMany_33 : decode cX6_determinedMany 33 = .ok (.iinc 2 1, 3) := by decide +kernel
theorem dX6_determinedMany_36 : decode cX6_determinedMany 36 = .ok (.goto (-32), 3) := by decide +kernel
theorem dX6_determinedMany_39 : decode cX6_determinedMany 39 = .ok (.iload_n 1, 1) := by decide +kernel
theorem dX6_determinedMany_40 : decode cX6_determinedMany 40 = .ok (.ireturn, 1) := by decide +kernel
set_option maxRecDepth 20000 in
theorem ggX6_start_X6_within : GoodIn wsX6_start wsX6_within := goodIn_r _ [7] (by decide +kernel) (by decide +kernel)
set_option maxRecDepth 20000 in
theorem gX6_start_X6_within : GoodIn wsX6_start (va_wsS RX6 57 yX6_within wsX6_within) := goodIn_app (goodIn_of _ (by decide +kernel)) ggX6_start_X6_within
set_option maxRecDepth 20000 in
theorem ggX6_start_X6_refused : GoodIn wsX6_start wsX6_refused := goodIn_r _ [11, 12, 49, 50, 51, 52, 53, 54, 55, 56, 57, 58, 59, 60, 61, 62, 63, 64, 65, 66, 67, 68, 69, 70] (by decide +kernel) (by decide +kernel)
set_option maxRecDepth 20000 in
theorem gX6_start_X6_refused : GoodIn wsX6_start (wsV RX6 65 RX6 yX6_refused wsX6_refused) := goodIn_app (goodIn_of _ (by decide +kernel)) ggX6_start_X6_refused
set_option maxRecDepth 20000 in
theorem ggX6_start_X6_clear : GoodIn wsX6_start wsX6_clear := goodIn_r _ [16, 17, 18, 19, 20, 21, 22, 23, 49, 50, 51, 52, 53, 54, 55, 56, 57, 58, 59, 60, 61, 62, 63, 64, 65, 66, 67, 68, 69, 70] (by decide +kernel) (by decide +kernel)
set_option maxRecDepth 20000 in
theorem gX6_start_X6_clear : GoodIn wsX6_start (wsV RX6 51 RX6 yX6_clear wsX6_clear) := goodIn_app (goodIn_of _ (by decide +kernel)) ggX6_start_X6_clear
set_option maxRecDepth 20000 in
theorem ggX6_start_X6_covers : GoodIn wsX6_start wsX6_covers := goodIn_r _ [26] (by decide +kernel) (by decide +kernel)
set_option maxRecDepth 20000 in
theorem gX6_start_X6_covers : GoodIn wsX6_start (va_wsS RX6 81 yX6_covers wsX6_covers) := goodIn_app (goodIn_of _ (by decide +kernel)) ggX6_start_X6_covers
set_option maxRecDepth 20000 in
theorem ggX6_start_X6_addEquation : GoodIn wsX6_start wsX6_addEquation := goodIn_r _ [30, 31, 17, 32, 33, 34, 35, 6, 36, 37, 38, 2, 22, 23, 39, 40, 41, 42, 49, 50, 51, 52, 53, 54, 55, 56, 57, 58, 59, 60, 61, 62, 63, 64, 65, 66, 67, 68, 69, 70] (by decide +kernel) (by decide +kernel)
set_option maxRecDepth 20000 in
theorem gX6_start_X6_addEquation : GoodIn wsX6_start (wsV RX6 121 RX6 yX6_addEquation wsX6_addEquation) := goodIn_app (goodIn_of _ (by decide +kernel)) ggX6_start_X6_addEquation
set_option maxRecDepth 20000 in
theorem ggX6_start_X6_peel : GoodIn wsX6_start wsX6_peel := goodIn_r _ [46, 19, 17, 31, 20, 47, 48, 21, 49, 50, 51, 52, 53, 54, 55, 56, 57, 58, 59, 60, 61, 62, 63, 64, 65, 66, 67, 68, 69, 70] (by decide +kernel) (by decide +kernel)
set_option maxRecDepth 20000 in
theorem gX6_start_X6_peel : GoodIn wsX6_start (wsV RX6 124 RX6 yX6_peel wsX6_peel) := goodIn_app (goodIn_of _ (by decide +kernel)) ggX6_start_X6_peel
theorem dX6_start_0 : decode cX6_start 0 = .ok (.aload_n 0, 1) := by decide +kernel
theorem dX6_start_1 : decode cX6_start 1 = .ok (.iload_n 1, 1) := by decide +kernel
theorem dX6_start_2 : decode cX6_start 2 = .ok (.iconst 1, 1) := by decide +kernel
theorem dX6_start_3 : decode cX6_start 3 = .ok (.bipush 32, 2) := by decide +kernel
theorem dX6_start_5 : decode cX6_start 5 = .ok (.invokestatic 57, 3) := by decide +kernel
theorem dX6_start_8 : decode cX6_start 8 = .ok (.ifCond .eq 17, 3) := by decide +kernel
theorem dX6_start_11 : decode cX6_start 11 = .ok (.iload_n 2, 1) := by decide +kernel
theorem dX6_start_12 : decode cX6_start 12 = .ok (.iconst 0, 1) := by decide +kernel
theorem dX6_start_13 : decode cX6_start 13 = .ok (.bipush 6, 2) := by decide +kernel
theorem dX6_start_15 : decode cX6_start 15 = .ok (.invokestatic 57, 3) := by decide +kernel
theorem dX6_start_18 : decode cX6_start 18 = .ok (.ifCond .eq 7, 3) := by decide +kernel
theorem dX6_start_21 : decode cX6_start 21 = .ok (.iconst 0, 1) := by decide +kernel
theorem dX6_start_22 : decode cX6_start 22 = .ok (.goto 4, 3) := by decide +kernel
theorem dX6_start_25 : decode cX6_start 25 = .ok (.iconst 1, 1) := by decide +kernel
theorem dX6_start_26 : decode cX6_start 26 = .ok (.invokevirtual 65, 3) := by decide +kernel
theorem dX6_start_29 : decode cX6_start 29 = .ok (.ifCond .eq 5, 3) := by decide +kernel
theorem dX6_start_32 : decode cX6_start 32 = .ok (.iconst 0, 1) := by decide +kernel
theorem dX6_start_33 : decode cX6_start 33 = .ok (.ireturn, 1) := by decide +kernel
theorem dX6_start_34 : decode cX6_start 34 = .ok (.aload_n 0, 1) := by decide +kernel
theorem dX6_start_35 : decode cX6_start 35 = .ok (.iload_n 1, 1) := by decide +kernel
theorem dX6_start_36 : decode cX6_start 36 = .ok (.putfield 13, 3) := by decide +kernel
theorem dX6_start_39 : decode cX6_start 39 = .ok (.aload_n 0, 1) := by decide +kernel
theorem dX6_start_40 : decode cX6_start 40 = .ok (.iload_n 1, 1) := by decide +kernel
theorem dX6_start_41 : decode cX6_start 41 = .ok (.iload_n 2, 1) := by decide +kernel
theorem dX6_start_42 : decode cX6_start 42 = .ok (.iadd, 1) := by decide +kernel
theorem dX6_start_43 : decode cX6_start 43 = .ok (.putfield 17, 3) := by decide +kernel
theorem dX6_start_46 : decode cX6_start 46 = .ok (.iconst 0, 1) := by decide +kernel
theorem dX6_start_47 : decode cX6_start 47 = .ok (.istore_n 3, 1) := by decide +kernel
theorem dX6_start_48 : decode cX6_start 48 = .ok (.iload_n 3, 1) := by decide +kernel
theorem dX6_start_49 : decode cX6_start 49 = .ok (.bipush 32, 2) := by decide +kernel
theorem dX6_start_51 : decode cX6_start 51 = .ok (.if_icmp .ge 16, 3) := by decide +kernel
theorem dX6_start_54 : decode cX6_start 54 = .ok (.aload_n 0, 1) := by decide +kernel
theorem dX6_start_55 : decode cX6_start 55 = .ok (.getfield 20, 3) := by decide +kernel
theorem dX6_start_58 : decode cX6_start 58 = .ok (.iload_n 3, 1) := by decide +kernel
theorem dX6_start_59 : decode cX6_start 59 = .ok (.iconst 0, 1) := by decide +kernel
theorem dX6_start_60 : decode cX6_start 60 = .ok (.iastore, 1) := by decide +kernel
theorem dX6_start_61 : decode cX6_start 61 = .ok (.iinc 3 1, 3) := by decide +kernel
theorem dX6_start_64 : decode cX6_start 64 = .ok (.goto (-16), 3) := by decide +kernel
theorem dX6_start_67 : decode cX6_start 67 = .ok (.aload_n 0, 1) := by decide +kernel
theorem dX6_start_68 : decode cX6_start 68 = .ok (.invokevirtual 51, 3) := by decide +kernel
theorem dX6_start_71 : decode cX6_start 71 = .ok (.iconst 0, 1) := by decide +kernel
theorem dX6_start_72 : decode cX6_start 72 = .ok (.istore_n 3, 1) := by decide +kernel
theorem dX6_start_73 : decode cX6_start 73 = .ok (.iload_n 3, 1) := by decide +kernel
theorem dX6_start_74 : decode cX6_start 74 = .ok (.iload_n 2, 1) := by decide +kernel
theorem dX6_start_75 : decode cX6_start 75 = .ok (.if_icmp .ge 60, 3) := by decide +kernel
theorem dX6_start_78 : decode cX6_start 78 = .ok (.lconst 1, 1) := by decide +kernel
theorem dX6_start_79 : decode cX6_start 79 = .ok (.iload_n 1, 1) := by decide +kernel
theorem dX6_start_80 : decode cX6_start 80 = .ok (.iload_n 3, 1) := by decide +kernel
theorem dX6_start_81 : decode cX6_start 81 = .ok (.iadd, 1) := by decide +kernel
theorem dX6_start_82 : decode cX6_start 82 = .ok (.lshl, 1) := by decide +kernel
theorem dX6_start_83 : decode cX6_start 83 = .ok (.lstore 4, 2) := by decide +kernel
theorem dX6_start_85 : decode cX6_start 85 = .ok (.iconst 0, 1) := by decide +kernel
theorem dX6_start_86 : decode cX6_start 86 = .ok (.istore 6, 2) := by decide +kernel
theorem dX6_start_88 : decode cX6_start 88 = .ok (.iload 6, 2) := by decide +kernel
theorem dX6_start_90 : decode cX6_start 90 = .ok (.iload_n 1, 1) := by decide +kernel
theorem dX6_start_91 : decode cX6_start 91 = .ok (.if_icmp .ge 31, 3) := by decide +kernel
theorem dX6_start_94 : decode cX6_start 94 = .ok (.lload 4, 2) := by decide +kernel
theorem dX6_start_96 : decode cX6_start 96 = .ok (.iload_n 3, 1) := by decide +kernel
theorem dX6_start_97 : decode cX6_start 97 = .ok (.iload 6, 2) := by decide +kernel
theorem dX6_start_99 : decode cX6_start 99 = .ok (.invokestatic 81, 3) := by decide +kernel
theorem dX6_start_102 : decode cX6_start 102 = .ok (.ifCond .eq 10, 3) := by decide +kernel
theorem dX6_start_105 : decode cX6_start 105 = .ok (.lconst 1, 1) := by decide +kernel
theorem dX6_start_106 : decode cX6_start 106 = .ok (.iload 6, 2) := by decide +kernel
theorem dX6_start_108 : decode cX6_start 108 = .ok (.lshl, 1) := by decide +kernel
theorem dX6_start_109 : decode cX6_start 109 = .ok (.goto 4, 3) := by decide +kernel
theorem dX6_start_112 : decode cX6_start 112 = .ok (.lconst 0, 1) := by decide +kernel
theorem dX6_start_113 : decode cX6_start 113 = .ok (.lor, 1) := by decide +kernel
theorem dX6_start_114 : decode cX6_start 114 = .ok (.lstore 4, 2) := by decide +kernel
theorem dX6_start_116 : decode cX6_start 116 = .ok (.iinc 6 1, 3) := by decide +kernel
theorem dX6_start_119 : decode cX6_start 119 = .ok (.goto (-31), 3) := by decide +kernel
theorem dX6_start_122 : decode cX6_start 122 = .ok (.aload_n 0, 1) := by decide +kernel
theorem dX6_start_123 : decode cX6_start 123 = .ok (.lload 4, 2) := by decide +kernel
theorem dX6_start_125 : decode cX6_start 125 = .ok (.iconst 0, 1) := by decide +kernel
theorem dX6_start_126 : decode cX6_start 126 = .ok (.invokevirtual 121, 3) := by decide +kernel
theorem dX6_start_129 : decode cX6_start 129 = .ok (.iinc 3 1, 3) := by decide +kernel
theorem dX6_start_132 : decode cX6_start 132 = .ok (.goto (-59), 3) := by decide +kernel
theorem dX6_start_135 : decode cX6_start 135 = .ok (.aload_n 0, 1) := by decide +kernel
theorem dX6_start_136 : decode cX6_start 136 = .ok (.invokevirtual 124, 3) := by decide +kernel
theorem dX6_start_139 : decode cX6_start 139 = .ok (.ireturn, 1) := by decide +kernel
set_option maxRecDepth 20000 in
theorem ggX6_setWeight_X6_within : GoodIn wsX6_setWeight wsX6_within := goodIn_r _ [5] (by decide +kernel) (by decide +kernel)
set_option maxRecDepth 20000 in
theorem gX6_setWeight_X6_within : GoodIn wsX6_setWeight (va_wsS RX6 57 yX6_within wsX6_within) := goodIn_app (goodIn_of _ (by decide +kernel)) ggX6_setWeight_X6_within
set_option maxRecDepth 20000 in
theorem ggX6_setWeight_X6_refused : GoodIn wsX6_setWeight wsX6_refused := goodIn_r _ [9, 10, 11, 12, 13, 14, 15, 16, 17, 18, 19, 20, 21, 22, 23, 24, 25, 26, 27, 28, 29, 30, 31, 32] (by decide +kernel) (by decide +kernel)
set_option maxRecDepth 20000 in
theorem gX6_setWeight_X6_refused : GoodIn wsX6_setWeight (wsV RX6 65 RX6 yX6_refused wsX6_refused) := goodIn_app (goodIn_of _ (by decide +kernel)) ggX6_setWeight_X6_refused
theorem dX6_setWeight_0 : decode cX6_setWeight 0 = .ok (.iload_n 1, 1) := by decide +kernel
theorem dX6_setWeight_1 : decode cX6_setWeight 1 = .ok (.iconst 1, 1) := by decide +kernel
theorem dX6_setWeight_2 : decode cX6_setWeight 2 = .ok (.bipush 12, 2) := by decide +kernel
theorem dX6_setWeight_4 : decode cX6_setWeight 4 = .ok (.invokestatic 57, 3) := by decide +kernel
theorem dX6_setWeight_7 : decode cX6_setWeight 7 = .ok (.ifCond .eq 18, 3) := by decide +kernel
theorem dX6_setWeight_10 : decode cX6_setWeight 10 = .ok (.iload_n 2, 1) := by decide +kernel
theorem dX6_setWeight_11 : decode cX6_setWeight 11 = .ok (.iconst 0, 1) := by decide +kernel
theorem dX6_setWeight_12 : decode cX6_setWeight 12 = .ok (.sipush 1000, 3) := by decide +kernel
theorem dX6_setWeight_15 : decode cX6_setWeight 15 = .ok (.invokestatic 57, 3) := by decide +kernel
theorem dX6_setWeight_18 : decode cX6_setWeight 18 = .ok (.ifCond .eq 7, 3) := by decide +kernel
theorem dX6_setWeight_21 : decode cX6_setWeight 21 = .ok (.iconst 1, 1) := by decide +kernel
theorem dX6_setWeight_22 : decode cX6_setWeight 22 = .ok (.goto 4, 3) := by decide +kernel
theorem dX6_setWeight_25 : decode cX6_setWeight 25 = .ok (.iconst 0, 1) := by decide +kernel
theorem dX6_setWeight_26 : decode cX6_setWeight 26 = .ok (.istore_n 3, 1) := by decide +kernel
theorem dX6_setWeight_27 : decode cX6_setWeight 27 = .ok (.iconst 0, 1) := by decide +kernel
theorem dX6_setWeight_28 : decode cX6_setWeight 28 = .ok (.istore 4, 2) := by decide +kernel
theorem dX6_setWeight_30 : decode cX6_setWeight 30 = .ok (.iconst 1, 1) := by decide +kernel
theorem dX6_setWeight_31 : decode cX6_setWeight 31 = .ok (.istore 5, 2) := by decide +kernel
theorem dX6_setWeight_33 : decode cX6_setWeight 33 = .ok (.iload 5, 2) := by decide +kernel
theorem dX6_setWeight_35 : decode cX6_setWeight 35 = .ok (.bipush 12, 2) := by decide +kernel
theorem dX6_setWeight_37 : decode cX6_setWeight 37 = .ok (.if_icmp .gt 31, 3) := by decide +kernel
theorem dX6_setWeight_40 : decode cX6_setWeight 40 = .ok (.iload 4, 2) := by decide +kernel
theorem dX6_setWeight_42 : decode cX6_setWeight 42 = .ok (.iload 5, 2) := by decide +kernel
theorem dX6_setWeight_44 : decode cX6_setWeight 44 = .ok (.iload_n 1, 1) := by decide +kernel
theorem dX6_setWeight_45 : decode cX6_setWeight 45 = .ok (.if_icmp .ne 7, 3) := by decide +kernel
theorem dX6_setWeight_48 : decode cX6_setWeight 48 = .ok (.iconst 0, 1) := by decide +kernel
theorem dX6_setWeight_49 : decode cX6_setWeight 49 = .ok (.goto 10, 3) := by decide +kernel
theorem dX6_setWeight_52 : decode cX6_setWeight 52 = .ok (.aload_n 0, 1) := by decide +kernel
theorem dX6_setWeight_53 : decode cX6_setWeight 53 = .ok (.getfield 7, 3) := by decide +kernel
theorem dX6_setWeight_56 : decode cX6_setWeight 56 = .ok (.iload 5, 2) := by decide +kernel
theorem dX6_setWeight_58 : decode cX6_setWeight 58 = .ok (.iaload, 1) := by decide +kernel
theorem dX6_setWeight_59 : decode cX6_setWeight 59 = .ok (.iadd, 1) := by decide +kernel
theorem dX6_setWeight_60 : decode cX6_setWeight 60 = .ok (.istore 4, 2) := by decide +kernel
theorem dX6_setWeight_62 : decode cX6_setWeight 62 = .ok (.iinc 5 1, 3) := by decide +kernel
theorem dX6_setWeight_65 : decode cX6_setWeight 65 = .ok (.goto (-32), 3) := by decide +kernel
theorem dX6_setWeight_68 : decode cX6_setWeight 68 = .ok (.aload_n 0, 1) := by decide +kernel
theorem dX6_setWeight_69 : decode cX6_setWeight 69 = .ok (.iload_n 3, 1) := by decide +kernel
theorem dX6_setWeight_70 : decode cX6_setWeight 70 = .ok (.ifCond .ne 7, 3) := by decide +kernel
theorem dX6_setWeight_73 : decode cX6_setWeight 73 = .ok (.iconst 1, 1) := by decide +kernel
theorem dX6_setWeight_74 : decode cX6_setWeight 74 = .ok (.goto 15, 3) := by decide +kernel
theorem dX6_setWeight_77 : decode cX6_setWeight 77 = .ok (.iload 4, 2) := by decide +kernel
theorem dX6_setWeight_79 : decode cX6_setWeight 79 = .ok (.iload_n 2, 1) := by decide +kernel
theorem dX6_setWeight_80 : decode cX6_setWeight 80 = .ok (.iadd, 1) := by decide +kernel
theorem dX6_setWeight_81 : decode cX6_setWeight 81 = .ok (.ifCond .ne 7, 3) := by decide +kernel
theorem dX6_setWeight_84 : decode cX6_setWeight 84 = .ok (.iconst 2, 1) := by decide +kernel
theorem dX6_setWeight_85 : decode cX6_setWeight 85 = .ok (.goto 4, 3) := by decide +kernel
theorem dX6_setWeight_88 : decode cX6_setWeight 88 = .ok (.iconst 0, 1) := by decide +kernel
theorem dX6_setWeight_89 : decode cX6_setWeight 89 = .ok (.invokevirtual 65, 3) := by decide +kernel
theorem dX6_setWeight_92 : decode cX6_setWeight 92 = .ok (.ifCond .eq 5, 3) := by decide +kernel
theorem dX6_setWeight_95 : decode cX6_setWeight 95 = .ok (.iconst 0, 1) := by decide +kernel
theorem dX6_setWeight_96 : decode cX6_setWeight 96 = .ok (.ireturn, 1) := by decide +kernel
theorem dX6_setWeight_97 : decode cX6_setWeight 97 = .ok (.aload_n 0, 1) := by decide +kernel
theorem dX6_setWeight_98 : decode cX6_setWeight 98 = .ok (.getfield 7, 3) := by decide +kernel
theorem dX6_setWeight_101 : decode cX6_setWeight 101 = .ok (.iload_n 1, 1) := by decide +kernel
theorem dX6_setWeight_102 : decode cX6_setWeight 102 = .ok (.iaload, 1) := by decide +kernel
theorem dX6_setWeight_103 : decode cX6_setWeight 103 = .ok (.istore 5, 2) := by decide +kernel
theorem dX6_setWeight_105 : decode cX6_setWeight 105 = .ok (.aload_n 0, 1) := by decide +kernel
theorem dX6_setWeight_106 : decode cX6_setWeight 106 = .ok (.getfield 7, 3) := by decide +kernel
theorem dX6_setWeight_109 : decode cX6_setWeight 109 = .ok (.iload_n 1, 1) := by decide +kernel
theorem dX6_setWeight_110 : decode cX6_setWeight 110 = .ok (.iload_n 2, 1) := by decide +kernel
theorem dX6_setWeight_111 : decode cX6_setWeight 111 = .ok (.iastore, 1) := by decide +kernel
theorem dX6_setWeight_112 : decode cX6_setWeight 112 = .ok (.iload 5, 2) := by decide +kernel
theorem dX6_setWeight_114 : decode cX6_setWeight 114 = .ok (.ireturn, 1) := by decide +kernel
set_option maxRecDepth 20000 in
theorem ggX6_setBlock_X6_within : GoodIn wsX6_setBlock wsX6_within := goodIn_r _ [6] (by decide +kernel) (by decide +kernel)
set_option maxRecDepth 20000 in
theorem gX6_setBlock_X6_within : GoodIn wsX6_setBlock (va_wsS RX6 57 yX6_within wsX6_within) := goodIn_app (goodIn_of _ (by decide +kernel)) ggX6_setBlock_X6_within
set_option maxRecDepth 20000 in
theorem ggX6_setBlock_X6_refused : GoodIn wsX6_setBlock wsX6_refused := goodIn_r _ [10, 11, 12, 13, 14, 15, 16, 17, 18, 19, 20, 21, 22, 23, 24, 25, 26, 27, 28, 29, 30, 31, 32, 33] (by decide +kernel) (by decide +kernel)
set_option maxRecDepth 20000 in
theorem gX6_setBlock_X6_refused : GoodIn wsX6_setBlock (wsV RX6 65 RX6 yX6_refused wsX6_refused) := goodIn_app (goodIn_of _ (by decide +kernel)) ggX6_setBlock_X6_refused
theorem dX6_setBlock_0 : decode cX6_setBlock 0 = .ok (.aload_n 0, 1) := by decide +kernel
theorem dX6_setBlock_1 : decode cX6_setBlock 1 = .ok (.iload_n 1, 1) := by decide +kernel
theorem dX6_setBlock_2 : decode cX6_setBlock 2 = .ok (.iconst 0, 1) := by decide +kernel
theorem dX6_setBlock_3 : decode cX6_setBlock 3 = .ok (.aload_n 0, 1) := by decide +kernel
theorem dX6_setBlock_4 : decode cX6_setBlock 4 = .ok (.getfield 13, 3) := by decide +kernel
theorem dX6_setBlock_7 : decode cX6_setBlock 7 = .ok (.iconst 1, 1) := by decide +kernel
theorem dX6_setBlock_8 : decode cX6_setBlock 8 = .ok (.isub, 1) := by decide +kernel
theorem dX6_setBlock_9 : decode cX6_setBlock 9 = .ok (.invokestatic 57, 3) := by decide +kernel
theorem dX6_setBlock_12 : decode cX6_setBlock 12 = .ok (.ifCond .eq 7, 3) := by decide +kernel
theorem dX6_setBlock_15 : decode cX6_setBlock 15 = .ok (.iconst 0, 1) := by decide +kernel
theorem dX6_setBlock_16 : decode cX6_setBlock 16 = .ok (.goto 4, 3) := by decide +kernel
theorem dX6_setBlock_19 : decode cX6_setBlock 19 = .ok (.iconst 1, 1) := by decide +kernel
theorem dX6_setBlock_20 : decode cX6_setBlock 20 = .ok (.invokevirtual 65, 3) := by decide +kernel
theorem dX6_setBlock_23 : decode cX6_setBlock 23 = .ok (.ifCond .eq 5, 3) := by decide +kernel
theorem dX6_setBlock_26 : decode cX6_setBlock 26 = .ok (.iconst 0, 1) := by decide +kernel
theorem dX6_setBlock_27 : decode cX6_setBlock 27 = .ok (.ireturn, 1) := by decide +kernel
theorem dX6_setBlock_28 : decode cX6_setBlock 28 = .ok (.aload_n 0, 1) := by decide +kernel
theorem dX6_setBlock_29 : decode cX6_setBlock 29 = .ok (.getfield 20, 3) := by decide +kernel
theorem dX6_setBlock_32 : decode cX6_setBlock 32 = .ok (.iload_n 1, 1) := by decide +kernel
theorem dX6_setBlock_33 : decode cX6_setBlock 33 = .ok (.iaload, 1) := by decide +kernel
theorem dX6_setBlock_34 : decode cX6_setBlock 34 = .ok (.istore_n 3, 1) := by decide +kernel
theorem dX6_setBlock_35 : decode cX6_setBlock 35 = .ok (.aload_n 0, 1) := by decide +kernel
theorem dX6_setBlock_36 : decode cX6_setBlock 36 = .ok (.getfield 20, 3) := by decide +kernel
theorem dX6_setBlock_39 : decode cX6_setBlock 39 = .ok (.iload_n 1, 1) := by decide +kernel
theorem dX6_setBlock_40 : decode cX6_setBlock 40 = .ok (.iload_n 2, 1) := by decide +kernel
theorem dX6_setBlock_41 : decode cX6_setBlock 41 = .ok (.iastore, 1) := by decide +kernel
theorem dX6_setBlock_42 : decode cX6_setBlock 42 = .ok (.iload_n 3, 1) := by decide +kernel
theorem dX6_setBlock_43 : decode cX6_setBlock 43 = .ok (.ireturn, 1) := by decide +kernel
set_option maxRecDepth 20000 in
theorem ggX6_blocks_X6_told : GoodIn wsX6_blocks wsX6_told := goodIn_r _ [6, 7, 8, 9, 10, 11, 12, 13, 14, 15, 16, 17, 18, 19, 20, 21, 22, 23, 24, 25, 26, 27, 28, 29] (by decide +kernel) (by decide +kernel)
set_option maxRecDepth 20000 in
theorem gX6_blocks_X6_told : GoodIn wsX6_blocks (wsV RX6 128 RX6 yX6_told wsX6_told) := goodIn_app (goodIn_of _ (by decide +kernel)) ggX6_blocks_X6_told
theorem dX6_blocks_0 : decode cX6_blocks 0 = .ok (.aload_n 0, 1) := by decide +kernel
theorem dX6_blocks_1 : decode cX6_blocks 1 = .ok (.aload_n 0, 1) := by decide +kernel
theorem dX6_blocks_2 : decode cX6_blocks 2 = .ok (.getfield 17, 3) := by decide +kernel
theorem dX6_blocks_5 : decode cX6_blocks 5 = .ok (.invokevirtual 128, 3) := by decide +kernel
theorem dX6_blocks_8 : decode cX6_blocks 8 = .ok (.ireturn, 1) := by decide +kernel
set_option maxRecDepth 20000 in
theorem ggX6_blockAt_X6_noBlock : GoodIn wsX6_blockAt wsX6_noBlock := goodIn_r _ [5, 6, 7, 8, 4, 9, 10, 11, 12, 13, 14, 15, 16, 17, 18, 28, 29, 30, 31, 32, 33, 34, 35, 36, 37, 38, 39, 40, 41, 42, 43, 44, 45, 46, 47, 48, 49] (by decide +kernel) (by decide +kernel)
set_option maxRecDepth 20000 in
theorem gX6_blockAt_X6_noBlock : GoodIn wsX6_blockAt (wsV RX6 131 RX6 yX6_noBlock wsX6_noBlock) := goodIn_app (goodIn_of _ (by decide +kernel)) ggX6_blockAt_X6_noBlock
set_option maxRecDepth 20000 in
theorem ggX6_blockAt_X6_valueAt : GoodIn wsX6_blockAt wsX6_valueAt := goodIn_r _ [22, 23, 24, 25, 26, 4, 27, 28, 29, 30, 31, 32, 33, 34, 35, 36, 37, 38, 39, 40, 41, 42, 43, 44, 45, 46, 47, 48, 49] (by decide +kernel) (by decide +kernel)
set_option maxRecDepth 20000 in
theorem gX6_blockAt_X6_valueAt : GoodIn wsX6_blockAt (wsV RX6 103 RX6 yX6_valueAt wsX6_valueAt) := goodIn_app (goodIn_of _ (by decide +kernel)) ggX6_blockAt_X6_valueAt
theorem dX6_blockAt_0 : decode cX6_blockAt 0 = .ok (.aload_n 0, 1) := by decide +kernel
theorem dX6_blockAt_1 : decode cX6_blockAt 1 = .ok (.iload_n 1, 1) := by decide +kernel
theorem dX6_blockAt_2 : decode cX6_blockAt 2 = .ok (.invokevirtual 131, 3) := by decide +kernel
theorem dX6_blockAt_5 : decode cX6_blockAt 5 = .ok (.ifCond .eq 7, 3) := by decide +kernel
theorem dX6_blockAt_8 : decode cX6_blockAt 8 = .ok (.iconst 0, 1) := by decide +kernel
theorem dX6_blockAt_9 : decode cX6_blockAt 9 = .ok (.goto 8, 3) := by decide +kernel
theorem dX6_blockAt_12 : decode cX6_blockAt 12 = .ok (.aload_n 0, 1) := by decide +kernel
theorem dX6_blockAt_13 : decode cX6_blockAt 13 = .ok (.iload_n 1, 1) := by decide +kernel
theorem dX6_blockAt_14 : decode cX6_blockAt 14 = .ok (.invokevirtual 103, 3) := by decide +kernel
theorem dX6_blockAt_17 : decode cX6_blockAt 17 = .ok (.ireturn, 1) := by decide +kernel
set_option maxRecDepth 20000 in
theorem ggX6_degree_X6_drawDrop : GoodIn wsX6_degree wsX6_drawDrop := goodIn_r _ [6, 7, 8, 9, 1, 10, 11, 12, 13, 5, 14, 15, 16, 22, 23, 24, 25, 26, 27, 28, 29, 30, 31, 32, 33, 34, 35, 36, 37, 38, 39, 40, 41, 42, 43] (by decide +kernel) (by decide +kernel)
set_option maxRecDepth 20000 in
theorem gX6_degree_X6_drawDrop : GoodIn wsX6_degree (wsV RX6 99 RX6 yX6_drawDrop wsX6_drawDrop) := goodIn_app (goodIn_of _ (by decide +kernel)) ggX6_degree_X6_drawDrop
set_option maxRecDepth 20000 in
theorem ggX6_degree_X6_told : GoodIn wsX6_degree wsX6_told := goodIn_r _ [20, 21, 22, 23, 24, 25, 26, 27, 28, 29, 30, 31, 32, 33, 34, 35, 36, 37, 38, 39, 40, 41, 42, 43] (by decide +kernel) (by decide +kernel)
set_option maxRecDepth 20000 in
theorem gX6_degree_X6_told : GoodIn wsX6_degree (wsV RX6 128 RX6 yX6_told wsX6_told) := goodIn_app (goodIn_of _ (by decide +kernel)) ggX6_degree_X6_told
theorem dX6_degree_0 : decode cX6_degree 0 = .ok (.aload_n 0, 1) := by decide +kernel
theorem dX6_degree_1 : decode cX6_degree 1 = .ok (.iload_n 1, 1) := by decide +kernel
theorem dX6_degree_2 : decode cX6_degree 2 = .ok (.invokevirtual 99, 3) := by decide +kernel
theorem dX6_degree_5 : decode cX6_degree 5 = .ok (.aload_n 0, 1) := by decide +kernel
theorem dX6_degree_6 : decode cX6_degree 6 = .ok (.aload_n 0, 1) := by decide +kernel
theorem dX6_degree_7 : decode cX6_degree 7 = .ok (.getfield 96, 3) := by decide +kernel
theorem dX6_degree_10 : decode cX6_degree 10 = .ok (.invokevirtual 128, 3) := by decide +kernel
theorem dX6_degree_13 : decode cX6_degree 13 = .ok (.ireturn, 1) := by decide +kernel
set_option maxRecDepth 20000 in
theorem ggX6_blockOf_X6_drawDrop : GoodIn wsX6_blockOf wsX6_drawDrop := goodIn_r _ [7, 8, 9, 10, 1, 2, 11, 12, 13, 6, 14, 15, 16, 25, 26, 27, 28, 29, 30, 31, 32, 33, 34, 35, 36, 37, 38, 39, 40, 41, 42, 43, 44, 45, 46] (by decide +kernel) (by decide +kernel)
set_option maxRecDepth 20000 in
theorem gX6_blockOf_X6_drawDrop : GoodIn wsX6_blockOf (wsV RX6 99 RX6 yX6_drawDrop wsX6_drawDrop) := goodIn_app (goodIn_of _ (by decide +kernel)) ggX6_blockOf_X6_drawDrop
set_option maxRecDepth 20000 in
theorem ggX6_blockOf_X6_within : GoodIn wsX6_blockOf wsX6_within := goodIn_r _ [19] (by decide +kernel) (by decide +kernel)
set_option maxRecDepth 20000 in
theorem gX6_blockOf_X6_within : GoodIn wsX6_blockOf (va_wsS RX6 57 yX6_within wsX6_within) := goodIn_app (goodIn_of _ (by decide +kernel)) ggX6_blockOf_X6_within
set_option maxRecDepth 20000 in
theorem ggX6_blockOf_X6_refused : GoodIn wsX6_blockOf wsX6_refused := goodIn_r _ [23, 24, 25, 26, 27, 28, 29, 30, 31, 32, 33, 34, 35, 36, 37, 38, 39, 40, 41, 42, 43, 44, 45, 46] (by decide +kernel) (by decide +kernel)
set_option maxRecDepth 20000 in
theorem gX6_blockOf_X6_refused : GoodIn wsX6_blockOf (wsV RX6 65 RX6 yX6_refused wsX6_refused) := goodIn_app (goodIn_of _ (by decide +kernel)) ggX6_blockOf_X6_refused
theorem dX6_blockOf_0 : decode cX6_blockOf 0 = .ok (.aload_n 0, 1) := by decide +kernel
theorem dX6_blockOf_1 : decode cX6_blockOf 1 = .ok (.iload_n 1, 1) := by decide +kernel
theorem dX6_blockOf_2 : decode cX6_blockOf 2 = .ok (.invokevirtual 99, 3) := by decide +kernel
theorem dX6_blockOf_5 : decode cX6_blockOf 5 = .ok (.aload_n 0, 1) := by decide +kernel
theorem dX6_blockOf_6 : decode cX6_blockOf 6 = .ok (.iload_n 2, 1) := by decide +kernel
theorem dX6_blockOf_7 : decode cX6_blockOf 7 = .ok (.iconst 0, 1) := by decide +kernel
theorem dX6_blockOf_8 : decode cX6_blockOf 8 = .ok (.aload_n 0, 1) := by decide +kernel
theorem dX6_blockOf_9 : decode cX6_blockOf 9 = .ok (.getfield 96, 3) := by decide +kernel
theorem dX6_blockOf_12 : decode cX6_blockOf 12 = .ok (.iconst 1, 1) := by decide +kernel
theorem dX6_blockOf_13 : decode cX6_blockOf 13 = .ok (.isub, 1) := by decide +kernel
theorem dX6_blockOf_14 : decode cX6_blockOf 14 = .ok (.invokestatic 57, 3) := by decide +kernel
theorem dX6_blockOf_17 : decode cX6_blockOf 17 = .ok (.ifCond .eq 7, 3) := by decide +kernel
theorem dX6_blockOf_20 : decode cX6_blockOf 20 = .ok (.iconst 0, 1) := by decide +kernel
theorem dX6_blockOf_21 : decode cX6_blockOf 21 = .ok (.goto 4, 3) := by decide +kernel
theorem dX6_blockOf_24 : decode cX6_blockOf 24 = .ok (.iconst 1, 1) := by decide +kernel
theorem dX6_blockOf_25 : decode cX6_blockOf 25 = .ok (.invokevirtual 65, 3) := by decide +kernel
theorem dX6_blockOf_28 : decode cX6_blockOf 28 = .ok (.ifCond .eq 7, 3) := by decide +kernel
theorem dX6_blockOf_31 : decode cX6_blockOf 31 = .ok (.iconst 0, 1) := by decide +kernel
theorem dX6_blockOf_32 : decode cX6_blockOf 32 = .ok (.goto 9, 3) := by decide +kernel
theorem dX6_blockOf_35 : decode cX6_blockOf 35 = .ok (.aload_n 0, 1) := by decide +kernel
theorem dX6_blockOf_36 : decode cX6_blockOf 36 = .ok (.getfield 48, 3) := by decide +kernel
theorem dX6_blockOf_39 : decode cX6_blockOf 39 = .ok (.iload_n 2, 1) := by decide +kernel
theorem dX6_blockOf_40 : decode cX6_blockOf 40 = .ok (.iaload, 1) := by decide +kernel
theorem dX6_blockOf_41 : decode cX6_blockOf 41 = .ok (.ireturn, 1) := by decide +kernel
set_option maxRecDepth 20000 in
theorem ggX6_valueOf_X6_numberOf : GoodIn wsX6_valueOf wsX6_numberOf := goodIn_r _ [5, 6, 7, 8, 9, 10, 4, 11, 12, 13, 14, 15, 16, 17, 18, 19, 20, 21, 22, 23, 24, 25, 26, 27, 28, 29, 35, 36, 37, 38, 39, 40, 41, 42, 43, 44, 45, 46, 47, 48, 49, 50, 51, 52, 53, 54, 55, 56] (by decide +kernel) (by decide +kernel)
set_option maxRecDepth 20000 in
theorem gX6_valueOf_X6_numberOf : GoodIn wsX6_valueOf (wsV RX6 134 RX6 yX6_numberOf wsX6_numberOf) := goodIn_app (goodIn_of _ (by decide +kernel)) ggX6_valueOf_X6_numberOf
set_option maxRecDepth 20000 in
theorem ggX6_valueOf_X6_told : GoodIn wsX6_valueOf wsX6_told := goodIn_r _ [33, 34, 35, 36, 37, 38, 39, 40, 41, 42, 43, 44, 45, 46, 47, 48, 49, 50, 51, 52, 53, 54, 55, 56] (by decide +kernel) (by decide +kernel)
set_option maxRecDepth 20000 in
theorem gX6_valueOf_X6_told : GoodIn wsX6_valueOf (wsV RX6 128 RX6 yX6_told wsX6_told) := goodIn_app (goodIn_of _ (by decide +kernel)) ggX6_valueOf_X6_told
theorem dX6_valueOf_0 : decode cX6_valueOf 0 = .ok (.aload_n 0, 1) := by decide +kernel
theorem dX6_valueOf_1 : decode cX6_valueOf 1 = .ok (.aload_n 0, 1) := by decide +kernel
theorem dX6_valueOf_2 : decode cX6_valueOf 2 = .ok (.iload_n 1, 1) := by decide +kernel
theorem dX6_valueOf_3 : decode cX6_valueOf 3 = .ok (.invokevirtual 134, 3) := by decide +kernel
theorem dX6_valueOf_6 : decode cX6_valueOf 6 = .ok (.invokevirtual 128, 3) := by decide +kernel
theorem dX6_valueOf_9 : decode cX6_valueOf 9 = .ok (.ireturn, 1) := by decide +kernel
set_option maxRecDepth 20000 in
theorem ggX6_isRefused_X6_maskOf : GoodIn wsX6_isRefused wsX6_maskOf := goodIn_r _ [8, 9, 10, 11, 12, 13, 7, 14, 15, 16, 17, 18, 19, 20, 21, 22, 23, 30, 31, 32, 33, 34, 35, 36, 37, 38, 39, 40, 41, 42, 43, 44, 45, 46, 47, 48, 49, 50, 51] (by decide +kernel) (by decide +kernel)
set_option maxRecDepth 20000 in
theorem gX6_isRefused_X6_maskOf : GoodIn wsX6_isRefused (wsV RX6 137 RX6 yX6_maskOf wsX6_maskOf) := goodIn_app (goodIn_of _ (by decide +kernel)) ggX6_isRefused_X6_maskOf
set_option maxRecDepth 20000 in
theorem ggX6_isRefused_X6_reduce : GoodIn wsX6_isRefused wsX6_reduce := goodIn_r _ [27, 2, 3, 17, 28, 29, 30, 31, 32, 33, 34, 35, 36, 37, 38, 39, 40, 41, 42, 43, 44, 45, 46, 47, 48, 49, 50, 51] (by decide +kernel) (by decide +kernel)
set_option maxRecDepth 20000 in
theorem gX6_isRefused_X6_reduce : GoodIn wsX6_isRefused (wsV RX6 112 RX6 yX6_reduce wsX6_reduce) := goodIn_app (goodIn_of _ (by decide +kernel)) ggX6_isRefused_X6_reduce
theorem dX6_isRefused_0 : decode cX6_isRefused 0 = .ok (.aload_n 0, 1) := by decide +kernel
theorem dX6_isRefused_1 : decode cX6_isRefused 1 = .ok (.aload_n 0, 1) := by decide +kernel
theorem dX6_isRefused_2 : decode cX6_isRefused 2 = .ok (.iload_n 1, 1) := by decide +kernel
theorem dX6_isRefused_3 : decode cX6_isRefused 3 = .ok (.invokevirtual 137, 3) := by decide +kernel
theorem dX6_isRefused_6 : decode cX6_isRefused 6 = .ok (.iload_n 2, 1) := by decide +kernel
theorem dX6_isRefused_7 : decode cX6_isRefused 7 = .ok (.invokevirtual 112, 3) := by decide +kernel
theorem dX6_isRefused_10 : decode cX6_isRefused 10 = .ok (.aload_n 0, 1) := by decide +kernel
theorem dX6_isRefused_11 : decode cX6_isRefused 11 = .ok (.getfield 71, 3) := by decide +kernel
theorem dX6_isRefused_14 : decode cX6_isRefused 14 = .ok (.bipush 120, 2) := by decide +kernel
theorem dX6_isRefused_16 : decode cX6_isRefused 16 = .ok (.if_icmp .eq 19, 3) := by decide +kernel
theorem dX6_isRefused_19 : decode cX6_isRefused 19 = .ok (.aload_n 0, 1) := by decide +kernel
theorem dX6_isRefused_20 : decode cX6_isRefused 20 = .ok (.getfield 106, 3) := by decide +kernel
theorem dX6_isRefused_23 : decode cX6_isRefused 23 = .ok (.lconst 0, 1) := by decide +kernel
theorem dX6_isRefused_24 : decode cX6_isRefused 24 = .ok (.lcmp, 1) := by decide +kernel
theorem dX6_isRefused_25 : decode cX6_isRefused 25 = .ok (.ifCond .ne 14, 3) := by decide +kernel
theorem dX6_isRefused_28 : decode cX6_isRefused 28 = .ok (.aload_n 0, 1) := by decide +kernel
theorem dX6_isRefused_29 : decode cX6_isRefused 29 = .ok (.getfield 109, 3) := by decide +kernel
theorem dX6_isRefused_32 : decode cX6_isRefused 32 = .ok (.ifCond .eq 7, 3) := by decide +kernel
theorem dX6_isRefused_35 : decode cX6_isRefused 35 = .ok (.iconst 1, 1) := by decide +kernel
theorem dX6_isRefused_36 : decode cX6_isRefused 36 = .ok (.goto 4, 3) := by decide +kernel
theorem dX6_isRefused_39 : decode cX6_isRefused 39 = .ok (.iconst 0, 1) := by decide +kernel
theorem dX6_isRefused_40 : decode cX6_isRefused 40 = .ok (.ireturn, 1) := by decide +kernel
set_option maxRecDepth 20000 in
theorem ggX6_take_X6_maskOf : GoodIn wsX6_take wsX6_maskOf := goodIn_r _ [6, 7, 8, 9, 10, 11, 5, 12, 13, 14, 15, 16, 17, 18, 19, 20, 21, 50, 51, 52, 53, 54, 55, 56, 57, 58, 59, 60, 61, 62, 63, 64, 65, 66, 67, 68, 69, 70, 71] (by decide +kernel) (by decide +kernel)
set_option maxRecDepth 20000 in
theorem gX6_take_X6_maskOf : GoodIn wsX6_take (wsV RX6 137 RX6 yX6_maskOf wsX6_maskOf) := goodIn_app (goodIn_of _ (by decide +kernel)) ggX6_take_X6_maskOf
set_option maxRecDepth 20000 in
theorem ggX6_take_X6_addEquation : GoodIn wsX6_take wsX6_addEquation := goodIn_r _ [25, 26, 27, 28, 29, 30, 31, 5, 32, 33, 34, 15, 35, 36, 37, 38, 39, 40, 50, 51, 52, 53, 54, 55, 56, 57, 58, 59, 60, 61, 62, 63, 64, 65, 66, 67, 68, 69, 70, 71] (by decide +kernel) (by decide +kernel)
set_option maxRecDepth 20000 in
theorem gX6_take_X6_addEquation : GoodIn wsX6_take (wsV RX6 121 RX6 yX6_addEquation wsX6_addEquation) := goodIn_app (goodIn_of _ (by decide +kernel)) ggX6_take_X6_addEquation
set_option maxRecDepth 20000 in
theorem ggX6_take_X6_peel : GoodIn wsX6_take wsX6_peel := goodIn_r _ [44, 45, 27, 26, 46, 47, 48, 49, 50, 51, 52, 53, 54, 55, 56, 57, 58, 59, 60, 61, 62, 63, 64, 65, 66, 67, 68, 69, 70, 71] (by decide +kernel) (by decide +kernel)
set_option maxRecDepth 20000 in
theorem gX6_take_X6_peel : GoodIn wsX6_take (wsV RX6 124 RX6 yX6_peel wsX6_peel) := goodIn_app (goodIn_of _ (by decide +kernel)) ggX6_take_X6_peel
theorem dX6_take_0 : decode cX6_take 0 = .ok (.aload_n 0, 1) := by decide +kernel
theorem dX6_take_1 : decode cX6_take 1 = .ok (.dup, 1) := by decide +kernel
theorem dX6_take_2 : decode cX6_take 2 = .ok (.getfield 71, 3) := by decide +kernel
theorem dX6_take_5 : decode cX6_take 5 = .ok (.iconst 1, 1) := by decide +kernel
theorem dX6_take_6 : decode cX6_take 6 = .ok (.iadd, 1) := by decide +kernel
theorem dX6_take_7 : decode cX6_take 7 = .ok (.putfield 71, 3) := by decide +kernel
theorem dX6_take_10 : decode cX6_take 10 = .ok (.aload_n 0, 1) := by decide +kernel
theorem dX6_take_11 : decode cX6_take 11 = .ok (.aload_n 0, 1) := by decide +kernel
theorem dX6_take_12 : decode cX6_take 12 = .ok (.iload_n 1, 1) := by decide +kernel
theorem dX6_take_13 : decode cX6_take 13 = .ok (.invokevirtual 137, 3) := by decide +kernel
theorem dX6_take_16 : decode cX6_take 16 = .ok (.iload_n 2, 1) := by decide +kernel
theorem dX6_take_17 : decode cX6_take 17 = .ok (.invokevirtual 121, 3) := by decide +kernel
theorem dX6_take_20 : decode cX6_take 20 = .ok (.aload_n 0, 1) := by decide +kernel
theorem dX6_take_21 : decode cX6_take 21 = .ok (.invokevirtual 124, 3) := by decide +kernel
theorem dX6_take_24 : decode cX6_take 24 = .ok (.ireturn, 1) := by decide +kernel
set_option maxRecDepth 20000 in
theorem ggX6_receive_X6_isRefused : GoodIn wsX6_receive wsX6_isRefused := goodIn_r _ [5, 6, 7, 8, 9, 10, 11, 4, 12, 13, 14, 15, 16, 17, 18, 19, 20, 21, 22, 23, 24, 25, 26, 27, 28, 29, 30, 31, 32, 33, 63, 64, 65, 66, 67, 68, 69, 70, 71, 72, 73, 74, 75, 76, 77, 78, 79, 80, 81, 82, 83, 84] (by decide +kernel) (by decide +kernel)
set_option maxRecDepth 20000 in
theorem gX6_receive_X6_isRefused : GoodIn wsX6_receive (wsV RX6 141 RX6 yX6_isRefused wsX6_isRefused) := goodIn_app (goodIn_of _ (by decide +kernel)) ggX6_receive_X6_isRefused
set_option maxRecDepth 20000 in
theorem ggX6_receive_X6_refused : GoodIn wsX6_receive wsX6_refused := goodIn_r _ [37, 38, 63, 64, 65, 66, 67, 68, 69, 70, 71, 72, 73, 74, 75, 76, 77, 78, 79, 80, 81, 82, 83, 84] (by decide +kernel) (by decide +kernel)
set_option maxRecDepth 20000 in
theorem gX6_receive_X6_refused : GoodIn wsX6_receive (wsV RX6 65 RX6 yX6_refused wsX6_refused) := goodIn_app (goodIn_of _ (by decide +kernel)) ggX6_receive_X6_refused
set_option maxRecDepth 20000 in
theorem ggX6_receive_X6_take : GoodIn wsX6_receive wsX6_take := goodIn_r _ [42, 6, 9, 10, 11, 4, 12, 13, 14, 15, 16, 17, 18, 19, 20, 21, 22, 23, 24, 25, 26, 27, 43, 44, 45, 46, 47, 48, 49, 28, 29, 30, 31, 7, 8, 32, 33, 50, 51, 52, 53, 54, 55, 56, 57, 58, 59, 60, 61, 62, 63, 64, 65, 66, 67, 68, 69, 70, 71, 72, 73, 74, 75, 76, 77, 78, 79, 80, 81, 82, 83, 84] (by decide +kernel) (by decide +kernel)
set_option maxRecDepth 20000 in
theorem gX6_receive_X6_take : GoodIn wsX6_receive (wsV RX6 144 RX6 yX6_take wsX6_take) := goodIn_app (goodIn_of _ (by decide +kernel)) ggX6_receive_X6_take
theorem dX6_receive_0 : decode cX6_receive 0 = .ok (.aload_n 0, 1) := by decide +kernel
theorem dX6_receive_1 : decode cX6_receive 1 = .ok (.aload_n 0, 1) := by decide +kernel
theorem dX6_receive_2 : decode cX6_receive 2 = .ok (.iload_n 1, 1) := by decide +kernel
theorem dX6_receive_3 : decode cX6_receive 3 = .ok (.iload_n 2, 1) := by decide +kernel
theorem dX6_receive_4 : decode cX6_receive 4 = .ok (.invokevirtual 141, 3) := by decide +kernel
theorem dX6_receive_7 : decode cX6_receive 7 = .ok (.ifCond .eq 7, 3) := by decide +kernel
theorem dX6_receive_10 : decode cX6_receive 10 = .ok (.iconst 1, 1) := by decide +kernel
theorem dX6_receive_11 : decode cX6_receive 11 = .ok (.goto 4, 3) := by decide +kernel
theorem dX6_receive_14 : decode cX6_receive 14 = .ok (.iconst 0, 1) := by decide +kernel
theorem dX6_receive_15 : decode cX6_receive 15 = .ok (.invokevirtual 65, 3) := by decide +kernel
theorem dX6_receive_18 : decode cX6_receive 18 = .ok (.ifCond .eq 7, 3) := by decide +kernel
theorem dX6_receive_21 : decode cX6_receive 21 = .ok (.iconst 0, 1) := by decide +kernel
theorem dX6_receive_22 : decode cX6_receive 22 = .ok (.goto 9, 3) := by decide +kernel
theorem dX6_receive_25 : decode cX6_receive 25 = .ok (.aload_n 0, 1) := by decide +kernel
theorem dX6_receive_26 : decode cX6_receive 26 = .ok (.iload_n 1, 1) := by decide +kernel
theorem dX6_receive_27 : decode cX6_receive 27 = .ok (.iload_n 2, 1) := by decide +kernel
theorem dX6_receive_28 : decode cX6_receive 28 = .ok (.invokevirtual 144, 3) := by decide +kernel
theorem dX6_receive_31 : decode cX6_receive 31 = .ok (.ireturn, 1) := by decide +kernel
set_option maxRecDepth 20000 in
theorem ggX6_receiveAll_X6_within : GoodIn wsX6_receiveAll wsX6_within := goodIn_r _ [4] (by decide +kernel) (by decide +kernel)
set_option maxRecDepth 20000 in
theorem gX6_receiveAll_X6_within : GoodIn wsX6_receiveAll (va_wsS RX6 57 yX6_within wsX6_within) := goodIn_app (goodIn_of _ (by decide +kernel)) ggX6_receiveAll_X6_within
set_option maxRecDepth 20000 in
theorem ggX6_receiveAll_X6_refused : GoodIn wsX6_receiveAll wsX6_refused := goodIn_r _ [8, 9, 79, 80, 81, 82, 83, 84, 85, 86, 87, 88, 89, 90, 91, 92, 93, 94, 95, 96, 97, 98, 99, 100] (by decide +kernel) (by decide +kernel)
set_option maxRecDepth 20000 in
theorem gX6_receiveAll_X6_refused : GoodIn wsX6_receiveAll (wsV RX6 65 RX6 yX6_refused wsX6_refused) := goodIn_app (goodIn_of _ (by decide +kernel)) ggX6_receiveAll_X6_refused
set_option maxRecDepth 20000 in
theorem ggX6_receiveAll_X6_numberOf : GoodIn wsX6_receiveAll wsX6_numberOf := goodIn_r _ [13, 14, 15, 16, 17, 18, 3, 19, 20, 21, 22, 23, 24, 25, 26, 27, 28, 29, 30, 31, 32, 33, 34, 35, 36, 37, 79, 80, 81, 82, 83, 84, 85, 86, 87, 88, 89, 90, 91, 92, 93, 94, 95, 96, 97, 98, 99, 100] (by decide +kernel) (by decide +kernel)
set_option maxRecDepth 20000 in
theorem gX6_receiveAll_X6_numberOf : GoodIn wsX6_receiveAll (wsV RX6 134 RX6 yX6_numberOf wsX6_numberOf) := goodIn_app (goodIn_of _ (by decide +kernel)) ggX6_receiveAll_X6_numberOf
set_option maxRecDepth 20000 in
theorem ggX6_receiveAll_X6_isRefused : GoodIn wsX6_receiveAll wsX6_isRefused := goodIn_r _ [41, 42, 43, 44, 45, 46, 47, 3, 48, 14, 15, 16, 17, 18, 19, 20, 21, 22, 23, 24, 25, 26, 27, 28, 49, 50, 51, 52, 53, 54, 79, 80, 81, 82, 83, 84, 85, 86, 87, 88, 89, 90, 91, 92, 93, 94, 95, 96, 97, 98, 99, 100] (by decide +kernel) (by decide +kernel)
set_option maxRecDepth 20000 in
theorem gX6_receiveAll_X6_isRefused : GoodIn wsX6_receiveAll (wsV RX6 141 RX6 yX6_isRefused wsX6_isRefused) := goodIn_app (goodIn_of _ (by decide +kernel)) ggX6_receiveAll_X6_isRefused
set_option maxRecDepth 20000 in
theorem ggX6_receiveAll_X6_take : GoodIn wsX6_receiveAll wsX6_take := goodIn_r _ [58, 42, 45, 46, 47, 3, 48, 14, 15, 16, 17, 18, 19, 20, 21, 22, 23, 24, 25, 26, 27, 28, 59, 60, 61, 62, 63, 64, 65, 49, 50, 51, 52, 43, 44, 53, 54, 66, 67, 68, 69, 70, 71, 72, 73, 74, 75, 76, 77, 78, 79, 80, 81, 82, 83, 84, 85, 86, 87, 88, 89, 90, 91, 92, 93, 94, 95, 96, 97, 98, 99, 100] (by decide +kernel) (by decide +kernel)
set_option maxRecDepth 20000 in
theorem gX6_receiveAll_X6_take : GoodIn wsX6_receiveAll (wsV RX6 144 RX6 yX6_take wsX6_take) := goodIn_app (goodIn_of _ (by decide +kernel)) ggX6_receiveAll_X6_take
theorem dX6_receiveAll_0 : decode cX6_receiveAll 0 = .ok (.aload_n 0, 1) := by decide +kernel
theorem dX6_receiveAll_1 : decode cX6_receiveAll 1 = .ok (.iload_n 2, 1) := by decide +kernel
theorem dX6_receiveAll_2 : decode cX6_receiveAll 2 = .ok (.iconst 1, 1) := by decide +kernel
theorem dX6_receiveAll_3 : decode cX6_receiveAll 3 = .ok (.bipush 40, 2) := by decide +kernel
theorem dX6_receiveAll_5 : decode cX6_receiveAll 5 = .ok (.invokestatic 57, 3) := by decide +kernel
theorem dX6_receiveAll_8 : decode cX6_receiveAll 8 = .ok (.ifCond .eq 7, 3) := by decide +kernel
theorem dX6_receiveAll_11 : decode cX6_receiveAll 11 = .ok (.iconst 0, 1) := by decide +kernel
theorem dX6_receiveAll_12 : decode cX6_receiveAll 12 = .ok (.goto 4, 3) := by decide +kernel
theorem dX6_receiveAll_15 : decode cX6_receiveAll 15 = .ok (.iconst 1, 1) := by decide +kernel
theorem dX6_receiveAll_16 : decode cX6_receiveAll 16 = .ok (.invokevirtual 65, 3) := by decide +kernel
theorem dX6_receiveAll_19 : decode cX6_receiveAll 19 = .ok (.ifCond .eq 5, 3) := by decide +kernel
theorem dX6_receiveAll_22 : decode cX6_receiveAll 22 = .ok (.iconst 0, 1) := by decide +kernel
theorem dX6_receiveAll_23 : decode cX6_receiveAll 23 = .ok (.ireturn, 1) := by decide +kernel
theorem dX6_receiveAll_24 : decode cX6_receiveAll 24 = .ok (.iconst 0, 1) := by decide +kernel
theorem dX6_receiveAll_25 : decode cX6_receiveAll 25 = .ok (.istore_n 3, 1) := by decide +kernel
theorem dX6_receiveAll_26 : decode cX6_receiveAll 26 = .ok (.iload_n 3, 1) := by decide +kernel
theorem dX6_receiveAll_27 : decode cX6_receiveAll 27 = .ok (.iload_n 2, 1) := by decide +kernel
theorem dX6_receiveAll_28 : decode cX6_receiveAll 28 = .ok (.if_icmp .ge 42, 3) := by decide +kernel
theorem dX6_receiveAll_31 : decode cX6_receiveAll 31 = .ok (.aload_n 0, 1) := by decide +kernel
theorem dX6_receiveAll_32 : decode cX6_receiveAll 32 = .ok (.iload_n 1, 1) := by decide +kernel
theorem dX6_receiveAll_33 : decode cX6_receiveAll 33 = .ok (.iload_n 3, 1) := by decide +kernel
theorem dX6_receiveAll_34 : decode cX6_receiveAll 34 = .ok (.iadd, 1) := by decide +kernel
theorem dX6_receiveAll_35 : decode cX6_receiveAll 35 = .ok (.aload_n 0, 1) := by decide +kernel
theorem dX6_receiveAll_36 : decode cX6_receiveAll 36 = .ok (.iload_n 1, 1) := by decide +kernel
theorem dX6_receiveAll_37 : decode cX6_receiveAll 37 = .ok (.iload_n 3, 1) := by decide +kernel
theorem dX6_receiveAll_38 : decode cX6_receiveAll 38 = .ok (.iadd, 1) := by decide +kernel
theorem dX6_receiveAll_39 : decode cX6_receiveAll 39 = .ok (.invokevirtual 134, 3) := by decide +kernel
theorem dX6_receiveAll_42 : decode cX6_receiveAll 42 = .ok (.invokevirtual 141, 3) := by decide +kernel
theorem dX6_receiveAll_45 : decode cX6_receiveAll 45 = .ok (.ifCond .ne 25, 3) := by decide +kernel
theorem dX6_receiveAll_48 : decode cX6_receiveAll 48 = .ok (.aload_n 0, 1) := by decide +kernel
theorem dX6_receiveAll_49 : decode cX6_receiveAll 49 = .ok (.iload_n 1, 1) := by decide +kernel
theorem dX6_receiveAll_50 : decode cX6_receiveAll 50 = .ok (.iload_n 3, 1) := by decide +kernel
theorem dX6_receiveAll_51 : decode cX6_receiveAll 51 = .ok (.iadd, 1) := by decide +kernel
theorem dX6_receiveAll_52 : decode cX6_receiveAll 52 = .ok (.aload_n 0, 1) := by decide +kernel
theorem dX6_receiveAll_53 : decode cX6_receiveAll 53 = .ok (.iload_n 1, 1) := by decide +kernel
theorem dX6_receiveAll_54 : decode cX6_receiveAll 54 = .ok (.iload_n 3, 1) := by decide +kernel
theorem dX6_receiveAll_55 : decode cX6_receiveAll 55 = .ok (.iadd, 1) := by decide +kernel
theorem dX6_receiveAll_56 : decode cX6_receiveAll 56 = .ok (.invokevirtual 134, 3) := by decide +kernel
theorem dX6_receiveAll_59 : decode cX6_receiveAll 59 = .ok (.invokevirtual 144, 3) := by decide +kernel
theorem dX6_receiveAll_62 : decode cX6_receiveAll 62 = .ok (.istore 4, 2) := by decide +kernel
theorem dX6_receiveAll_64 : decode cX6_receiveAll 64 = .ok (.iinc 3 1, 3) := by decide +kernel
theorem dX6_receiveAll_67 : decode cX6_receiveAll 67 = .ok (.goto (-41), 3) := by decide +kernel
theorem dX6_receiveAll_70 : decode cX6_receiveAll 70 = .ok (.iload_n 3, 1) := by decide +kernel
theorem dX6_receiveAll_71 : decode cX6_receiveAll 71 = .ok (.ireturn, 1) := by decide +kernel
set_option maxRecDepth 20000 in
theorem ggX6_equations_X6_told : GoodIn wsX6_equations wsX6_told := goodIn_r _ [6, 7, 8, 9, 10, 11, 12, 13, 14, 15, 16, 17, 18, 19, 20, 21, 22, 23, 24, 25, 26, 27, 28, 29] (by decide +kernel) (by decide +kernel)
set_option maxRecDepth 20000 in
theorem gX6_equations_X6_told : GoodIn wsX6_equations (wsV RX6 128 RX6 yX6_told wsX6_told) := goodIn_app (goodIn_of _ (by decide +kernel)) ggX6_equations_X6_told
theorem dX6_equations_0 : decode cX6_equations 0 = .ok (.aload_n 0, 1) := by decide +kernel
theorem dX6_equations_1 : decode cX6_equations 1 = .ok (.aload_n 0, 1) := by decide +kernel
theorem dX6_equations_2 : decode cX6_equations 2 = .ok (.getfield 68, 3) := by decide +kernel
theorem dX6_equations_5 : decode cX6_equations 5 = .ok (.invokevirtual 128, 3) := by decide +kernel
theorem dX6_equations_8 : decode cX6_equations 8 = .ok (.ireturn, 1) := by decide +kernel
set_option maxRecDepth 20000 in
theorem ggX6_rank_X6_rankOf : GoodIn wsX6_rank wsX6_rankOf := goodIn_r _ [5, 6, 7, 13, 14, 15, 16, 17, 18, 19, 20, 21, 22, 23, 24, 25, 26, 27, 28, 29, 30, 31, 32, 33, 34] (by decide +kernel) (by decide +kernel)
set_option maxRecDepth 20000 in
theorem gX6_rank_X6_rankOf : GoodIn wsX6_rank (wsV RX6 148 RX6 yX6_rankOf wsX6_rankOf) := goodIn_app (goodIn_of _ (by decide +kernel)) ggX6_rank_X6_rankOf
set_option maxRecDepth 20000 in
theorem ggX6_rank_X6_told : GoodIn wsX6_rank wsX6_told := goodIn_r _ [11, 12, 13, 14, 15, 16, 17, 18, 19, 20, 21, 22, 23, 24, 25, 26, 27, 28, 29, 30, 31, 32, 33, 34] (by decide +kernel) (by decide +kernel)
set_option maxRecDepth 20000 in
theorem gX6_rank_X6_told : GoodIn wsX6_rank (wsV RX6 128 RX6 yX6_told wsX6_told) := goodIn_app (goodIn_of _ (by decide +kernel)) ggX6_rank_X6_told
theorem dX6_rank_0 : decode cX6_rank 0 = .ok (.aload_n 0, 1) := by decide +kernel
theorem dX6_rank_1 : decode cX6_rank 1 = .ok (.aload_n 0, 1) := by decide +kernel
theorem dX6_rank_2 : decode cX6_rank 2 = .ok (.invokevirtual 148, 3) := by decide +kernel
theorem dX6_rank_5 : decode cX6_rank 5 = .ok (.invokevirtual 128, 3) := by decide +kernel
theorem dX6_rank_8 : decode cX6_rank 8 = .ok (.ireturn, 1) := by decide +kernel
set_option maxRecDepth 20000 in
theorem ggX6_peeled_X6_told : GoodIn wsX6_peeled wsX6_told := goodIn_r _ [6, 7, 8, 9, 10, 11, 12, 13, 14, 15, 16, 17, 18, 19, 20, 21, 22, 23, 24, 25, 26, 27, 28, 29] (by decide +kernel) (by decide +kernel)
set_option maxRecDepth 20000 in
theorem gX6_peeled_X6_told : GoodIn wsX6_peeled (wsV RX6 128 RX6 yX6_told wsX6_told) := goodIn_app (goodIn_of _ (by decide +kernel)) ggX6_peeled_X6_told
theorem dX6_peeled_0 : decode cX6_peeled 0 = .ok (.aload_n 0, 1) := by decide +kernel
theorem dX6_peeled_1 : decode cX6_peeled 1 = .ok (.aload_n 0, 1) := by decide +kernel
theorem dX6_peeled_2 : decode cX6_peeled 2 = .ok (.getfield 74, 3) := by decide +kernel
theorem dX6_peeled_5 : decode cX6_peeled 5 = .ok (.invokevirtual 128, 3) := by decide +kernel
theorem dX6_peeled_8 : decode cX6_peeled 8 = .ok (.ireturn, 1) := by decide +kernel
set_option maxRecDepth 20000 in
theorem ggX6_peeledAt_X6_within : GoodIn wsX6_peeledAt wsX6_within := goodIn_r _ [6] (by decide +kernel) (by decide +kernel)
set_option maxRecDepth 20000 in
theorem gX6_peeledAt_X6_within : GoodIn wsX6_peeledAt (va_wsS RX6 57 yX6_within wsX6_within) := goodIn_app (goodIn_of _ (by decide +kernel)) ggX6_peeledAt_X6_within
set_option maxRecDepth 20000 in
theorem ggX6_peeledAt_X6_refused : GoodIn wsX6_peeledAt wsX6_refused := goodIn_r _ [10, 11, 12, 13, 14, 15, 16, 17, 18, 19, 20, 21, 22, 23, 24, 25, 26, 27, 28, 29, 30, 31, 32, 33] (by decide +kernel) (by decide +kernel)
set_option maxRecDepth 20000 in
theorem gX6_peeledAt_X6_refused : GoodIn wsX6_peeledAt (wsV RX6 65 RX6 yX6_refused wsX6_refused) := goodIn_app (goodIn_of _ (by decide +kernel)) ggX6_peeledAt_X6_refused
theorem dX6_peeledAt_0 : decode cX6_peeledAt 0 = .ok (.aload_n 0, 1) := by decide +kernel
theorem dX6_peeledAt_1 : decode cX6_peeledAt 1 = .ok (.iload_n 1, 1) := by decide +kernel
theorem dX6_peeledAt_2 : decode cX6_peeledAt 2 = .ok (.iconst 0, 1) := by decide +kernel
theorem dX6_peeledAt_3 : decode cX6_peeledAt 3 = .ok (.aload_n 0, 1) := by decide +kernel
theorem dX6_peeledAt_4 : decode cX6_peeledAt 4 = .ok (.getfield 74, 3) := by decide +kernel
theorem dX6_peeledAt_7 : decode cX6_peeledAt 7 = .ok (.iconst 1, 1) := by decide +kernel
theorem dX6_peeledAt_8 : decode cX6_peeledAt 8 = .ok (.isub, 1) := by decide +kernel
theorem dX6_peeledAt_9 : decode cX6_peeledAt 9 = .ok (.invokestatic 57, 3) := by decide +kernel
theorem dX6_peeledAt_12 : decode cX6_peeledAt 12 = .ok (.ifCond .eq 7, 3) := by decide +kernel
theorem dX6_peeledAt_15 : decode cX6_peeledAt 15 = .ok (.iconst 0, 1) := by decide +kernel
theorem dX6_peeledAt_16 : decode cX6_peeledAt 16 = .ok (.goto 4, 3) := by decide +kernel
theorem dX6_peeledAt_19 : decode cX6_peeledAt 19 = .ok (.iconst 1, 1) := by decide +kernel
theorem dX6_peeledAt_20 : decode cX6_peeledAt 20 = .ok (.invokevirtual 65, 3) := by decide +kernel
theorem dX6_peeledAt_23 : decode cX6_peeledAt 23 = .ok (.ifCond .eq 7, 3) := by decide +kernel
theorem dX6_peeledAt_26 : decode cX6_peeledAt 26 = .ok (.iconst 0, 1) := by decide +kernel
theorem dX6_peeledAt_27 : decode cX6_peeledAt 27 = .ok (.goto 9, 3) := by decide +kernel
theorem dX6_peeledAt_30 : decode cX6_peeledAt 30 = .ok (.aload_n 0, 1) := by decide +kernel
theorem dX6_peeledAt_31 : decode cX6_peeledAt 31 = .ok (.getfield 30, 3) := by decide +kernel
theorem dX6_peeledAt_34 : decode cX6_peeledAt 34 = .ok (.iload_n 1, 1) := by decide +kernel
theorem dX6_peeledAt_35 : decode cX6_peeledAt 35 = .ok (.iaload, 1) := by decide +kernel
theorem dX6_peeledAt_36 : decode cX6_peeledAt 36 = .ok (.ireturn, 1) := by decide +kernel
set_option maxRecDepth 20000 in
theorem ggX6_peeledBy_X6_noBlock : GoodIn wsX6_peeledBy wsX6_noBlock := goodIn_r _ [6, 7, 8, 9, 5, 10, 11, 12, 13, 14, 15, 16, 17, 18, 19, 20, 21, 22, 23, 24, 25, 26, 27, 28, 29, 30, 31, 32, 33, 34, 35, 36, 37, 38, 39, 40, 41] (by decide +kernel) (by decide +kernel)
set_option maxRecDepth 20000 in
theorem gX6_peeledBy_X6_noBlock : GoodIn wsX6_peeledBy (wsV RX6 131 RX6 yX6_noBlock wsX6_noBlock) := goodIn_app (goodIn_of _ (by decide +kernel)) ggX6_peeledBy_X6_noBlock
theorem dX6_peeledBy_0 : decode cX6_peeledBy 0 = .ok (.aload_n 0, 1) := by decide +kernel
theorem dX6_peeledBy_1 : decode cX6_peeledBy 1 = .ok (.iload_n 1, 1) := by decide +kernel
theorem dX6_peeledBy_2 : decode cX6_peeledBy 2 = .ok (.invokevirtual 131, 3) := by decide +kernel
theorem dX6_peeledBy_5 : decode cX6_peeledBy 5 = .ok (.ifCond .eq 7, 3) := by decide +kernel
theorem dX6_peeledBy_8 : decode cX6_peeledBy 8 = .ok (.iconst 0, 1) := by decide +kernel
theorem dX6_peeledBy_9 : decode cX6_peeledBy 9 = .ok (.goto 9, 3) := by decide +kernel
theorem dX6_peeledBy_12 : decode cX6_peeledBy 12 = .ok (.aload_n 0, 1) := by decide +kernel
theorem dX6_peeledBy_13 : decode cX6_peeledBy 13 = .ok (.getfield 33, 3) := by decide +kernel
theorem dX6_peeledBy_16 : decode cX6_peeledBy 16 = .ok (.iload_n 1, 1) := by decide +kernel
theorem dX6_peeledBy_17 : decode cX6_peeledBy 17 = .ok (.iaload, 1) := by decide +kernel
theorem dX6_peeledBy_18 : decode cX6_peeledBy 18 = .ok (.ireturn, 1) := by decide +kernel
set_option maxRecDepth 20000 in
theorem ggX6_determined_X6_determinedMany : GoodIn wsX6_determined wsX6_determinedMany := goodIn_r _ [5, 6, 7, 13, 14, 15, 16, 17, 18, 19, 20, 21, 22, 23, 24, 25, 26, 27, 28, 29, 30, 31, 32, 33, 34] (by decide +kernel) (by decide +kernel)
set_option maxRecDepth 20000 in
theorem gX6_determined_X6_determinedMany : GoodIn wsX6_determined (wsV RX6 151 RX6 yX6_determinedMany wsX6_determinedMany) := goodIn_app (goodIn_of _ (by decide +kernel)) ggX6_determined_X6_determinedMany
set_option maxRecDepth 20000 in
theorem ggX6_determined_X6_told : GoodIn wsX6_determined wsX6_told := goodIn_r _ [11, 12, 13, 14, 15, 16, 17, 18, 19, 20, 21, 22, 23, 24, 25, 26, 27, 28, 29, 30, 31, 32, 33, 34] (by decide +kernel) (by decide +kernel)
set_option maxRecDepth 20000 in
theorem gX6_determined_X6_told : GoodIn wsX6_determined (wsV RX6 128 RX6 yX6_told wsX6_told) := goodIn_app (goodIn_of _ (by decide +kernel)) ggX6_determined_X6_told
theorem dX6_determined_0 : decode cX6_determined 0 = .ok (.aload_n 0, 1) := by decide +kernel
theorem dX6_determined_1 : decode cX6_determined 1 = .ok (.aload_n 0, 1) := by decide +kernel
theorem dX6_determined_2 : decode cX6_determined 2 = .ok (.invokevirtual 151, 3) := by decide +kernel
theorem dX6_determined_5 : decode cX6_determined 5 = .ok (.invokevirtual 128, 3) := by decide +kernel
theorem dX6_determined_8 : decode cX6_determined 8 = .ok (.ireturn, 1) := by decide +kernel
theorem dX6_isKnown_0 : decode cX6_isKnown 0 = .ok (.aload_n 0, 1) := by decide +kernel
theorem dX6_isKnown_1 : decode cX6_isKnown 1 = .ok (.getfield 36, 3) := by decide +kernel
theorem dX6_isKnown_4 : decode cX6_isKnown 4 = .ok (.iload_n 1, 1) := by decide +kernel
theorem dX6_isKnown_5 : decode cX6_isKnown 5 = .ok (.laload, 1) := by decide +kernel
theorem dX6_isKnown_6 : decode cX6_isKnown 6 = .ok (.lconst 1, 1) := by decide +kernel
theorem dX6_isKnown_7 : decode cX6_isKnown 7 = .ok (.iload_n 1, 1) := by decide +kernel
theorem dX6_isKnown_8 : decode cX6_isKnown 8 = .ok (.lshl, 1) := by decide +kernel
theorem dX6_isKnown_9 : decode cX6_isKnown 9 = .ok (.lcmp, 1) := by decide +kernel
theorem dX6_isKnown_10 : decode cX6_isKnown 10 = .ok (.ifCond .ne 7, 3) := by decide +kernel
theorem dX6_isKnown_13 : decode cX6_isKnown 13 = .ok (.iconst 1, 1) := by decide +kernel
theorem dX6_isKnown_14 : decode cX6_isKnown 14 = .ok (.goto 4, 3) := by decide +kernel
theorem dX6_isKnown_17 : decode cX6_isKnown 17 = .ok (.iconst 0, 1) := by decide +kernel
theorem dX6_isKnown_18 : decode cX6_isKnown 18 = .ok (.ireturn, 1) := by decide +kernel
set_option maxRecDepth 20000 in
theorem ggX6_isDetermined_X6_noBlock : GoodIn wsX6_isDetermined wsX6_noBlock := goodIn_r _ [5, 6, 7, 8, 4, 9, 10, 11, 12, 13, 14, 15, 16, 17, 18, 24, 25, 26, 27, 28, 29, 30, 31, 32, 33, 34, 35, 36, 37, 38, 39, 40, 41, 42, 43, 44, 45] (by decide +kernel) (by decide +kernel)
set_option maxRecDepth 20000 in
theorem gX6_isDetermined_X6_noBlock : GoodIn wsX6_isDetermined (wsV RX6 131 RX6 yX6_noBlock wsX6_noBlock) := goodIn_app (goodIn_of _ (by decide +kernel)) ggX6_isDetermined_X6_noBlock
set_option maxRecDepth 20000 in
theorem ggX6_isDetermined_X6_isKnown : GoodIn wsX6_isDetermined wsX6_isKnown := goodIn_r _ [22, 23, 24, 25, 26, 27, 28, 29, 30, 31, 32, 33, 34, 35, 36, 37, 38, 39, 40, 41, 42, 43, 44, 45] (by decide +kernel) (by decide +kernel)
set_option maxRecDepth 20000 in
theorem gX6_isDetermined_X6_isKnown : GoodIn wsX6_isDetermined (wsV RX6 154 RX6 yX6_isKnown wsX6_isKnown) := goodIn_app (goodIn_of _ (by decide +kernel)) ggX6_isDetermined_X6_isKnown
theorem dX6_isDetermined_0 : decode cX6_isDetermined 0 = .ok (.aload_n 0, 1) := by decide +kernel
theorem dX6_isDetermined_1 : decode cX6_isDetermined 1 = .ok (.iload_n 1, 1) := by decide +kernel
theorem dX6_isDetermined_2 : decode cX6_isDetermined 2 = .ok (.invokevirtual 131, 3) := by decide +kernel
theorem dX6_isDetermined_5 : decode cX6_isDetermined 5 = .ok (.ifCond .ne 15, 3) := by decide +kernel
theorem dX6_isDetermined_8 : decode cX6_isDetermined 8 = .ok (.aload_n 0, 1) := by decide +kernel
theorem dX6_isDetermined_9 : decode cX6_isDetermined 9 = .ok (.iload_n 1, 1) := by decide +kernel
theorem dX6_isDetermined_10 : decode cX6_isDetermined 10 = .ok (.invokevirtual 154, 3) := by decide +kernel
theorem dX6_isDetermined_13 : decode cX6_isDetermined 13 = .ok (.ifCond .eq 7, 3) := by decide +kernel
theorem dX6_isDetermined_16 : decode cX6_isDetermined 16 = .ok (.iconst 1, 1) := by decide +kernel
theorem dX6_isDetermined_17 : decode cX6_isDetermined 17 = .ok (.goto 4, 3) := by decide +kernel
theorem dX6_isDetermined_20 : decode cX6_isDetermined 20 = .ok (.iconst 0, 1) := by decide +kernel
theorem dX6_isDetermined_21 : decode cX6_isDetermined 21 = .ok (.ireturn, 1) := by decide +kernel
set_option maxRecDepth 20000 in
theorem ggX6_recovered_X6_isBlock : GoodIn wsX6_recovered wsX6_isBlock := goodIn_r _ [6, 7, 8, 9, 5, 10, 21, 22, 23, 24, 25, 26, 27, 28, 29, 30, 31, 32, 33, 34, 35, 36, 37, 38, 39, 40, 41, 42] (by decide +kernel) (by decide +kernel)
set_option maxRecDepth 20000 in
theorem gX6_recovered_X6_isBlock : GoodIn wsX6_recovered (wsV RX6 61 RX6 yX6_isBlock wsX6_isBlock) := goodIn_app (goodIn_of _ (by decide +kernel)) ggX6_recovered_X6_isBlock
set_option maxRecDepth 20000 in
theorem ggX6_recovered_X6_isKnown : GoodIn wsX6_recovered wsX6_isKnown := goodIn_r _ [14, 15, 21, 22, 23, 24, 25, 26, 27, 28, 29, 30, 31, 32, 33, 34, 35, 36, 37, 38, 39, 40, 41, 42] (by decide +kernel) (by decide +kernel)
set_option maxRecDepth 20000 in
theorem gX6_recovered_X6_isKnown : GoodIn wsX6_recovered (wsV RX6 154 RX6 yX6_isKnown wsX6_isKnown) := goodIn_app (goodIn_of _ (by decide +kernel)) ggX6_recovered_X6_isKnown
set_option maxRecDepth 20000 in
theorem ggX6_recovered_X6_refused : GoodIn wsX6_recovered wsX6_refused := goodIn_r _ [19, 20, 21, 22, 23, 24, 25, 26, 27, 28, 29, 30, 31, 32, 33, 34, 35, 36, 37, 38, 39, 40, 41, 42] (by decide +kernel) (by decide +kernel)
set_option maxRecDepth 20000 in
theorem gX6_recovered_X6_refused : GoodIn wsX6_recovered (wsV RX6 65 RX6 yX6_refused wsX6_refused) := goodIn_app (goodIn_of _ (by decide +kernel)) ggX6_recovered_X6_refused
theorem dX6_recovered_0 : decode cX6_recovered 0 = .ok (.aload_n 0, 1) := by decide +kernel
theorem dX6_recovered_1 : decode cX6_recovered 1 = .ok (.aload_n 0, 1) := by decide +kernel
theorem dX6_recovered_2 : decode cX6_recovered 2 = .ok (.iload_n 1, 1) := by decide +kernel
theorem dX6_recovered_3 : decode cX6_recovered 3 = .ok (.invokevirtual 61, 3) := by decide +kernel
theorem dX6_recovered_6 : decode cX6_recovered 6 = .ok (.ifCond .ne 7, 3) := by decide +kernel
theorem dX6_recovered_9 : decode cX6_recovered 9 = .ok (.iconst 1, 1) := by decide +kernel
theorem dX6_recovered_10 : decode cX6_recovered 10 = .ok (.goto 16, 3) := by decide +kernel
theorem dX6_recovered_13 : decode cX6_recovered 13 = .ok (.aload_n 0, 1) := by decide +kernel
theorem dX6_recovered_14 : decode cX6_recovered 14 = .ok (.iload_n 1, 1) := by decide +kernel
theorem dX6_recovered_15 : decode cX6_recovered 15 = .ok (.invokevirtual 154, 3) := by decide +kernel
theorem dX6_recovered_18 : decode cX6_recovered 18 = .ok (.ifCond .ne 7, 3) := by decide +kernel
theorem dX6_recovered_21 : decode cX6_recovered 21 = .ok (.iconst 2, 1) := by decide +kernel
theorem dX6_recovered_22 : decode cX6_recovered 22 = .ok (.goto 4, 3) := by decide +kernel
theorem dX6_recovered_25 : decode cX6_recovered 25 = .ok (.iconst 0, 1) := by decide +kernel
theorem dX6_recovered_26 : decode cX6_recovered 26 = .ok (.invokevirtual 65, 3) := by decide +kernel
theorem dX6_recovered_29 : decode cX6_recovered 29 = .ok (.ifCond .eq 7, 3) := by decide +kernel
theorem dX6_recovered_32 : decode cX6_recovered 32 = .ok (.iconst 0, 1) := by decide +kernel
theorem dX6_recovered_33 : decode cX6_recovered 33 = .ok (.goto 9, 3) := by decide +kernel
theorem dX6_recovered_36 : decode cX6_recovered 36 = .ok (.aload_n 0, 1) := by decide +kernel
theorem dX6_recovered_37 : decode cX6_recovered 37 = .ok (.getfield 39, 3) := by decide +kernel
theorem dX6_recovered_40 : decode cX6_recovered 40 = .ok (.iload_n 1, 1) := by decide +kernel
theorem dX6_recovered_41 : decode cX6_recovered 41 = .ok (.iaload, 1) := by decide +kernel
theorem dX6_recovered_42 : decode cX6_recovered 42 = .ok (.ireturn, 1) := by decide +kernel
set_option maxRecDepth 20000 in
theorem ggX6_helps_X6_maskOf : GoodIn wsX6_helps wsX6_maskOf := goodIn_r _ [6, 7, 8, 9, 10, 11, 5, 12, 13, 14, 15, 16, 17, 18, 19, 20, 21, 29, 30, 31, 32, 33, 34, 35, 36, 37, 38, 39, 40, 41, 42, 43, 44, 45, 46, 47, 48, 49, 50] (by decide +kernel) (by decide +kernel)
set_option maxRecDepth 20000 in
theorem gX6_helps_X6_maskOf : GoodIn wsX6_helps (wsV RX6 137 RX6 yX6_maskOf wsX6_maskOf) := goodIn_app (goodIn_of _ (by decide +kernel)) ggX6_helps_X6_maskOf
set_option maxRecDepth 20000 in
theorem ggX6_helps_X6_reduce : GoodIn wsX6_helps wsX6_reduce := goodIn_r _ [25, 1, 26, 15, 27, 28, 29, 30, 31, 32, 33, 34, 35, 36, 37, 38, 39, 40, 41, 42, 43, 44, 45, 46, 47, 48, 49, 50] (by decide +kernel) (by decide +kernel)
set_option maxRecDepth 20000 in
theorem gX6_helps_X6_reduce : GoodIn wsX6_helps (wsV RX6 112 RX6 yX6_reduce wsX6_reduce) := goodIn_app (goodIn_of _ (by decide +kernel)) ggX6_helps_X6_reduce
theorem dX6_helps_0 : decode cX6_helps 0 = .ok (.aload_n 0, 1) := by decide +kernel
theorem dX6_helps_1 : decode cX6_helps 1 = .ok (.aload_n 0, 1) := by decide +kernel
theorem dX6_helps_2 : decode cX6_helps 2 = .ok (.iload_n 1, 1) := by decide +kernel
theorem dX6_helps_3 : decode cX6_helps 3 = .ok (.invokevirtual 137, 3) := by decide +kernel
theorem dX6_helps_6 : decode cX6_helps 6 = .ok (.iconst 0, 1) := by decide +kernel
theorem dX6_helps_7 : decode cX6_helps 7 = .ok (.invokevirtual 112, 3) := by decide +kernel
theorem dX6_helps_10 : decode cX6_helps 10 = .ok (.aload_n 0, 1) := by decide +kernel
theorem dX6_helps_11 : decode cX6_helps 11 = .ok (.getfield 106, 3) := by decide +kernel
theorem dX6_helps_14 : decode cX6_helps 14 = .ok (.lconst 0, 1) := by decide +kernel
theorem dX6_helps_15 : decode cX6_helps 15 = .ok (.lcmp, 1) := by decide +kernel
theorem dX6_helps_16 : decode cX6_helps 16 = .ok (.ifCond .eq 7, 3) := by decide +kernel
theorem dX6_helps_19 : decode cX6_helps 19 = .ok (.iconst 1, 1) := by decide +kernel
theorem dX6_helps_20 : decode cX6_helps 20 = .ok (.goto 4, 3) := by decide +kernel
theorem dX6_helps_23 : decode cX6_helps 23 = .ok (.iconst 0, 1) := by decide +kernel
theorem dX6_helps_24 : decode cX6_helps 24 = .ok (.ireturn, 1) := by decide +kernel
set_option maxRecDepth 20000 in
theorem ggX6_wouldHelp_X6_helps : GoodIn wsX6_wouldHelp wsX6_helps := goodIn_r _ [6, 7, 8, 9, 10, 5, 11, 12, 13, 14, 15, 16, 17, 18, 19, 20, 21, 22, 23, 24, 25, 26, 27, 28, 29, 30, 31, 32, 33, 34, 35, 36, 37, 38, 39, 40, 41, 42, 43, 44, 45, 46, 47, 48, 49, 50, 51, 52, 53, 54, 55] (by decide +kernel) (by decide +kernel)
set_option maxRecDepth 20000 in
theorem gX6_wouldHelp_X6_helps : GoodIn wsX6_wouldHelp (wsV RX6 157 RX6 yX6_helps wsX6_helps) := goodIn_app (goodIn_of _ (by decide +kernel)) ggX6_wouldHelp_X6_helps
theorem dX6_wouldHelp_0 : decode cX6_wouldHelp 0 = .ok (.aload_n 0, 1) := by decide +kernel
theorem dX6_wouldHelp_1 : decode cX6_wouldHelp 1 = .ok (.iconst 0, 1) := by decide +kernel
theorem dX6_wouldHelp_2 : decode cX6_wouldHelp 2 = .ok (.putfield 54, 3) := by decide +kernel
theorem dX6_wouldHelp_5 : decode cX6_wouldHelp 5 = .ok (.aload_n 0, 1) := by decide +kernel
theorem dX6_wouldHelp_6 : decode cX6_wouldHelp 6 = .ok (.iload_n 1, 1) := by decide +kernel
theorem dX6_wouldHelp_7 : decode cX6_wouldHelp 7 = .ok (.invokevirtual 157, 3) := by decide +kernel
theorem dX6_wouldHelp_10 : decode cX6_wouldHelp 10 = .ok (.ireturn, 1) := by decide +kernel
set_option maxRecDepth 20000 in
theorem ggX6_wouldDetermine_X6_determinedMany : GoodIn wsX6_wouldDetermine wsX6_determinedMany := goodIn_r _ [10, 11, 3, 40, 41, 42, 43, 44, 45, 46, 47, 48, 49, 50, 51, 52, 53, 54, 55, 56, 57, 58, 59, 60, 61] (by decide +kernel) (by decide +kernel)
set_option maxRecDepth 20000 in
theorem gX6_wouldDetermine_X6_determinedMany : GoodIn wsX6_wouldDetermine (wsV RX6 151 RX6 yX6_determinedMany wsX6_determinedMany) := goodIn_app (goodIn_of _ (by decide +kernel)) ggX6_wouldDetermine_X6_determinedMany
set_option maxRecDepth 20000 in
theorem ggX6_wouldDetermine_X6_maskOf : GoodIn wsX6_wouldDetermine wsX6_maskOf := goodIn_r _ [15, 16, 17, 18, 19, 20, 9, 21, 22, 23, 11, 24, 25, 26, 27, 28, 29, 40, 41, 42, 43, 44, 45, 46, 47, 48, 49, 50, 51, 52, 53, 54, 55, 56, 57, 58, 59, 60, 61] (by decide +kernel) (by decide +kernel)
set_option maxRecDepth 20000 in
theorem gX6_wouldDetermine_X6_maskOf : GoodIn wsX6_wouldDetermine (wsV RX6 137 RX6 yX6_maskOf wsX6_maskOf) := goodIn_app (goodIn_of _ (by decide +kernel)) ggX6_wouldDetermine_X6_maskOf
set_option maxRecDepth 20000 in
theorem ggX6_wouldDetermine_X6_reduce : GoodIn wsX6_wouldDetermine wsX6_reduce := goodIn_r _ [33, 34, 35, 11, 3, 5, 40, 41, 42, 43, 44, 45, 46, 47, 48, 49, 50, 51, 52, 53, 54, 55, 56, 57, 58, 59, 60, 61] (by decide +kernel) (by decide +kernel)
set_option maxRecDepth 20000 in
theorem gX6_wouldDetermine_X6_reduce : GoodIn wsX6_wouldDetermine (wsV RX6 112 RX6 yX6_reduce wsX6_reduce) := goodIn_app (goodIn_of _ (by decide +kernel)) ggX6_wouldDetermine_X6_reduce
set_option maxRecDepth 20000 in
theorem ggX6_wouldDetermine_X6_layRow : GoodIn wsX6_wouldDetermine wsX6_layRow := goodIn_r _ [39, 34, 11, 3, 5, 35, 40, 41, 42, 43, 44, 45, 46, 47, 48, 49, 50, 51, 52, 53, 54, 55, 56, 57, 58, 59, 60, 61] (by decide +kernel) (by decide +kernel)
set_option maxRecDepth 20000 in
theorem gX6_wouldDetermine_X6_layRow : GoodIn wsX6_wouldDetermine (wsV RX6 116 RX6 yX6_layRow wsX6_layRow) := goodIn_app (goodIn_of _ (by decide +kernel)) ggX6_wouldDetermine_X6_layRow
theorem dX6_wouldDetermine_0 : decode cX6_wouldDetermine 0 = .ok (.aload_n 0, 1) := by decide +kernel
theorem dX6_wouldDetermine_1 : decode cX6_wouldDetermine 1 = .ok (.iconst 0, 1) := by decide +kernel
theorem dX6_wouldDetermine_2 : decode cX6_wouldDetermine 2 = .ok (.putfield 54, 3) := by decide +kernel
theorem dX6_wouldDetermine_5 : decode cX6_wouldDetermine 5 = .ok (.aload_n 0, 1) := by decide +kernel
theorem dX6_wouldDetermine_6 : decode cX6_wouldDetermine 6 = .ok (.invokevirtual 151, 3) := by decide +kernel
theorem dX6_wouldDetermine_9 : decode cX6_wouldDetermine 9 = .ok (.istore_n 2, 1) := by decide +kernel
theorem dX6_wouldDetermine_10 : decode cX6_wouldDetermine 10 = .ok (.iconst 0, 1) := by decide +kernel
theorem dX6_wouldDetermine_11 : decode cX6_wouldDetermine 11 = .ok (.istore_n 3, 1) := by decide +kernel
theorem dX6_wouldDetermine_12 : decode cX6_wouldDetermine 12 = .ok (.iload_n 3, 1) := by decide +kernel
theorem dX6_wouldDetermine_13 : decode cX6_wouldDetermine 13 = .ok (.bipush 38, 2) := by decide +kernel
theorem dX6_wouldDetermine_15 : decode cX6_wouldDetermine 15 = .ok (.if_icmp .ge 33, 3) := by decide +kernel
theorem dX6_wouldDetermine_18 : decode cX6_wouldDetermine 18 = .ok (.aload_n 0, 1) := by decide +kernel
theorem dX6_wouldDetermine_19 : decode cX6_wouldDetermine 19 = .ok (.getfield 42, 3) := by decide +kernel
theorem dX6_wouldDetermine_22 : decode cX6_wouldDetermine 22 = .ok (.iload_n 3, 1) := by decide +kernel
theorem dX6_wouldDetermine_23 : decode cX6_wouldDetermine 23 = .ok (.aload_n 0, 1) := by decide +kernel
theorem dX6_wouldDetermine_24 : decode cX6_wouldDetermine 24 = .ok (.getfield 36, 3) := by decide +kernel
theorem dX6_wouldDetermine_27 : decode cX6_wouldDetermine 27 = .ok (.iload_n 3, 1) := by decide +kernel
theorem dX6_wouldDetermine_28 : decode cX6_wouldDetermine 28 = .ok (.laload, 1) := by decide +kernel
theorem dX6_wouldDetermine_29 : decode cX6_wouldDetermine 29 = .ok (.lastore, 1) := by decide +kernel
theorem dX6_wouldDetermine_30 : decode cX6_wouldDetermine 30 = .ok (.aload_n 0, 1) := by decide +kernel
theorem dX6_wouldDetermine_31 : decode cX6_wouldDetermine 31 = .ok (.getfield 45, 3) := by decide +kernel
theorem dX6_wouldDetermine_34 : decode cX6_wouldDetermine 34 = .ok (.iload_n 3, 1) := by decide +kernel
theorem dX6_wouldDetermine_35 : decode cX6_wouldDetermine 35 = .ok (.aload_n 0, 1) := by decide +kernel
theorem dX6_wouldDetermine_36 : decode cX6_wouldDetermine 36 = .ok (.getfield 39, 3) := by decide +kernel
theorem dX6_wouldDetermine_39 : decode cX6_wouldDetermine 39 = .ok (.iload_n 3, 1) := by decide +kernel
theorem dX6_wouldDetermine_40 : decode cX6_wouldDetermine 40 = .ok (.iaload, 1) := by decide +kernel
theorem dX6_wouldDetermine_41 : decode cX6_wouldDetermine 41 = .ok (.iastore, 1) := by decide +kernel
theorem dX6_wouldDetermine_42 : decode cX6_wouldDetermine 42 = .ok (.iinc 3 1, 3) := by decide +kernel
theorem dX6_wouldDetermine_45 : decode cX6_wouldDetermine 45 = .ok (.goto (-33), 3) := by decide +kernel
theorem dX6_wouldDetermine_48 : decode cX6_wouldDetermine 48 = .ok (.aload_n 0, 1) := by decide +kernel
theorem dX6_wouldDetermine_49 : decode cX6_wouldDetermine 49 = .ok (.aload_n 0, 1) := by decide +kernel
theorem dX6_wouldDetermine_50 : decode cX6_wouldDetermine 50 = .ok (.iload_n 1, 1) := by decide +kernel
theorem dX6_wouldDetermine_51 : decode cX6_wouldDetermine 51 = .ok (.invokevirtual 137, 3) := by decide +kernel
theorem dX6_wouldDetermine_54 : decode cX6_wouldDetermine 54 = .ok (.iconst 0, 1) := by decide +kernel
theorem dX6_wouldDetermine_55 : decode cX6_wouldDetermine 55 = .ok (.invokevirtual 112, 3) := by decide +kernel
theorem dX6_wouldDetermine_58 : decode cX6_wouldDetermine 58 = .ok (.aload_n 0, 1) := by decide +kernel
theorem dX6_wouldDetermine_59 : decode cX6_wouldDetermine 59 = .ok (.invokevirtual 116, 3) := by decide +kernel
theorem dX6_wouldDetermine_62 : decode cX6_wouldDetermine 62 = .ok (.aload_n 0, 1) := by decide +kernel
theorem dX6_wouldDetermine_63 : decode cX6_wouldDetermine 63 = .ok (.invokevirtual 151, 3) := by decide +kernel
theorem dX6_wouldDetermine_66 : decode cX6_wouldDetermine 66 = .ok (.istore_n 3, 1) := by decide +kernel
theorem dX6_wouldDetermine_67 : decode cX6_wouldDetermine 67 = .ok (.iconst 0, 1) := by decide +kernel
theorem dX6_wouldDetermine_68 : decode cX6_wouldDetermine 68 = .ok (.istore 4, 2) := by decide +kernel
theorem dX6_wouldDetermine_70 : decode cX6_wouldDetermine 70 = .ok (.iload 4, 2) := by decide +kernel
theorem dX6_wouldDetermine_72 : decode cX6_wouldDetermine 72 = .ok (.bipush 38, 2) := by decide +kernel
theorem dX6_wouldDetermine_74 : decode cX6_wouldDetermine 74 = .ok (.if_icmp .ge 37, 3) := by decide +kernel
theorem dX6_wouldDetermine_77 : decode cX6_wouldDetermine 77 = .ok (.aload_n 0, 1) := by decide +kernel
theorem dX6_wouldDetermine_78 : decode cX6_wouldDetermine 78 = .ok (.getfield 36, 3) := by decide +kernel
theorem dX6_wouldDetermine_81 : decode cX6_wouldDetermine 81 = .ok (.iload 4, 2) := by decide +kernel
theorem dX6_wouldDetermine_83 : decode cX6_wouldDetermine 83 = .ok (.aload_n 0, 1) := by decide +kernel
theorem dX6_wouldDetermine_84 : decode cX6_wouldDetermine 84 = .ok (.getfield 42, 3) := by decide +kernel
theorem dX6_wouldDetermine_87 : decode cX6_wouldDetermine 87 = .ok (.iload 4, 2) := by decide +kernel
theorem dX6_wouldDetermine_89 : decode cX6_wouldDetermine 89 = .ok (.laload, 1) := by decide +kernel
theorem dX6_wouldDetermine_90 : decode cX6_wouldDetermine 90 = .ok (.lastore, 1) := by decide +kernel
theorem dX6_wouldDetermine_91 : decode cX6_wouldDetermine 91 = .ok (.aload_n 0, 1) := by decide +kernel
theorem dX6_wouldDetermine_92 : decode cX6_wouldDetermine 92 = .ok (.getfield 39, 3) := by decide +kernel
theorem dX6_wouldDetermine_95 : decode cX6_wouldDetermine 95 = .ok (.iload 4, 2) := by decide +kernel
theorem dX6_wouldDetermine_97 : decode cX6_wouldDetermine 97 = .ok (.aload_n 0, 1) := by decide +kernel
theorem dX6_wouldDetermine_98 : decode cX6_wouldDetermine 98 = .ok (.getfield 45, 3) := by decide +kernel
theorem dX6_wouldDetermine_101 : decode cX6_wouldDetermine 101 = .ok (.iload 4, 2) := by decide +kernel
theorem dX6_wouldDetermine_103 : decode cX6_wouldDetermine 103 = .ok (.iaload, 1) := by decide +kernel
theorem dX6_wouldDetermine_104 : decode cX6_wouldDetermine 104 = .ok (.iastore, 1) := by decide +kernel
theorem dX6_wouldDetermine_105 : decode cX6_wouldDetermine 105 = .ok (.iinc 4 1, 3) := by decide +kernel
theorem dX6_wouldDetermine_108 : decode cX6_wouldDetermine 108 = .ok (.goto (-38), 3) := by decide +kernel
theorem dX6_wouldDetermine_111 : decode cX6_wouldDetermine 111 = .ok (.iload_n 3, 1) := by decide +kernel
theorem dX6_wouldDetermine_112 : decode cX6_wouldDetermine 112 = .ok (.iload_n 2, 1) := by decide +kernel
theorem dX6_wouldDetermine_113 : decode cX6_wouldDetermine 113 = .ok (.isub, 1) := by decide +kernel
theorem dX6_wouldDetermine_114 : decode cX6_wouldDetermine 114 = .ok (.ireturn, 1) := by decide +kernel
set_option maxRecDepth 20000 in
theorem ggX6_nextHelpful_X6_helps : GoodIn wsX6_nextHelpful wsX6_helps := goodIn_r _ [6, 7, 8, 9, 10, 5, 11, 12, 13, 14, 15, 16, 17, 18, 19, 20, 21, 22, 23, 24, 25, 26, 27, 28, 29, 30, 31, 32, 33, 34, 35, 36, 37, 38, 39, 40, 41, 42, 43, 44, 45, 46, 47, 48, 49, 50, 51, 52, 53, 54, 55] (by decide +kernel) (by decide +kernel)
set_option maxRecDepth 20000 in
theorem gX6_nextHelpful_X6_helps : GoodIn wsX6_nextHelpful (wsV RX6 157 RX6 yX6_helps wsX6_helps) := goodIn_app (goodIn_of _ (by decide +kernel)) ggX6_nextHelpful_X6_helps
theorem dX6_nextHelpful_0 : decode cX6_nextHelpful 0 = .ok (.aload_n 0, 1) := by decide +kernel
theorem dX6_nextHelpful_1 : decode cX6_nextHelpful 1 = .ok (.iconst 0, 1) := by decide +kernel
theorem dX6_nextHelpful_2 : decode cX6_nextHelpful 2 = .ok (.putfield 54, 3) := by decide +kernel
theorem dX6_nextHelpful_5 : decode cX6_nextHelpful 5 = .ok (.iconst 0, 1) := by decide +kernel
theorem dX6_nextHelpful_6 : decode cX6_nextHelpful 6 = .ok (.istore_n 2, 1) := by decide +kernel
theorem dX6_nextHelpful_7 : decode cX6_nextHelpful 7 = .ok (.iload_n 2, 1) := by decide +kernel
theorem dX6_nextHelpful_8 : decode cX6_nextHelpful 8 = .ok (.sipush 500, 3) := by decide +kernel
theorem dX6_nextHelpful_11 : decode cX6_nextHelpful 11 = .ok (.if_icmp .ge 21, 3) := by decide +kernel
theorem dX6_nextHelpful_14 : decode cX6_nextHelpful 14 = .ok (.aload_n 0, 1) := by decide +kernel
theorem dX6_nextHelpful_15 : decode cX6_nextHelpful 15 = .ok (.iload_n 1, 1) := by decide +kernel
theorem dX6_nextHelpful_16 : decode cX6_nextHelpful 16 = .ok (.iload_n 2, 1) := by decide +kernel
theorem dX6_nextHelpful_17 : decode cX6_nextHelpful 17 = .ok (.iadd, 1) := by decide +kernel
theorem dX6_nextHelpful_18 : decode cX6_nextHelpful 18 = .ok (.invokevirtual 157, 3) := by decide +kernel
theorem dX6_nextHelpful_21 : decode cX6_nextHelpful 21 = .ok (.ifCond .eq 5, 3) := by decide +kernel
theorem dX6_nextHelpful_24 : decode cX6_nextHelpful 24 = .ok (.iload_n 2, 1) := by decide +kernel
theorem dX6_nextHelpful_25 : decode cX6_nextHelpful 25 = .ok (.ireturn, 1) := by decide +kernel
theorem dX6_nextHelpful_26 : decode cX6_nextHelpful 26 = .ok (.iinc 2 1, 3) := by decide +kernel
theorem dX6_nextHelpful_29 : decode cX6_nextHelpful 29 = .ok (.goto (-22), 3) := by decide +kernel
theorem dX6_nextHelpful_32 : decode cX6_nextHelpful 32 = .ok (.iconst (-1), 1) := by decide +kernel
theorem dX6_nextHelpful_33 : decode cX6_nextHelpful 33 = .ok (.ireturn, 1) := by decide +kernel
set_option maxRecDepth 20000 in
theorem ggX6_missing_X6_rankOf : GoodIn wsX6_missing wsX6_rankOf := goodIn_r _ [6, 1, 7, 13, 14, 15, 16, 17, 18, 19, 20, 21, 22, 23, 24, 25, 26, 27, 28, 29, 30, 31, 32, 33, 34] (by decide +kernel) (by decide +kernel)
set_option maxRecDepth 20000 in
theorem gX6_missing_X6_rankOf : GoodIn wsX6_missing (wsV RX6 148 RX6 yX6_rankOf wsX6_rankOf) := goodIn_app (goodIn_of _ (by decide +kernel)) ggX6_missing_X6_rankOf
set_option maxRecDepth 20000 in
theorem ggX6_missing_X6_told : GoodIn wsX6_missing wsX6_told := goodIn_r _ [11, 12, 13, 14, 15, 16, 17, 18, 19, 20, 21, 22, 23, 24, 25, 26, 27, 28, 29, 30, 31, 32, 33, 34] (by decide +kernel) (by decide +kernel)
set_option maxRecDepth 20000 in
theorem gX6_missing_X6_told : GoodIn wsX6_missing (wsV RX6 128 RX6 yX6_told wsX6_told) := goodIn_app (goodIn_of _ (by decide +kernel)) ggX6_missing_X6_told
theorem dX6_missing_0 : decode cX6_missing 0 = .ok (.aload_n 0, 1) := by decide +kernel
theorem dX6_missing_1 : decode cX6_missing 1 = .ok (.aload_n 0, 1) := by decide +kernel
theorem dX6_missing_2 : decode cX6_missing 2 = .ok (.getfield 17, 3) := by decide +kernel
theorem dX6_missing_5 : decode cX6_missing 5 = .ok (.aload_n 0, 1) := by decide +kernel
theorem dX6_missing_6 : decode cX6_missing 6 = .ok (.invokevirtual 148, 3) := by decide +kernel
theorem dX6_missing_9 : decode cX6_missing 9 = .ok (.isub, 1) := by decide +kernel
theorem dX6_missing_10 : decode cX6_missing 10 = .ok (.invokevirtual 128, 3) := by decide +kernel
theorem dX6_missing_13 : decode cX6_missing 13 = .ok (.ireturn, 1) := by decide +kernel
set_option maxRecDepth 20000 in
theorem ggL_start_X5_start : GoodIn wsL_start wsX5_start := goodIn_ca (goodIn_r _ [6, 7, 8, 9, 10, 11, 5, 12, 13, 14, 15, 16, 17, 18, 19, 20, 21, 22, 23, 24, 25, 26, 27, 28, 29, 30, 31, 32, 33, 34, 35, 36, 37, 38, 39, 40, 41, 42, 43, 44, 45, 46, 47, 48, 49, 50, 51, 52, 53, 54, 55, 56, 57, 58, 59, 60, 61, 62, 63, 64, 65, 66, 67, 68, 69, 70, 71, 72, 73, 74, 75, 76, 77, 78, 79, 80, 81, 82, 83, 84, 85, 86, 87, 88, 89, 90, 91, 92, 93, 94, 95, 96, 97, 98, 99, 100, 101, 102, 103, 104, 105, 106, 107, 108, 109, 110, 111, 112, 113, 114, 115, 116, 117, 118, 119, 120] (by decide +kernel) (by decide +kernel)) (goodIn_sub (fun _ h => List.mem_cons_of_mem _ (List.mem_append_right _ h)) (by decide +kernel))
set_option maxRecDepth 20000 in
theorem gL_start_X5_start : GoodIn wsL_start (wsV RL 7 RX5 yX5_start wsX5_start) := goodIn_app (goodIn_of _ (by decide +kernel)) ggL_start_X5_start

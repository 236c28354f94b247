theorem dX6_cast_82 : decode cX6_cast 82 = .ok (.iload 7, 2) := by decide +kernel
theorem dX6_cast_84 : decode cX6_cast 84 = .ok (.ifCond .eq 75, 3) := by decide +kernel
theorem dX6_cast_87 : decode cX6_cast 87 = .ok (.aload_n 0, 1) := by decide +kernel
theorem dX6_cast_88 : decode cX6_cast 88 = .ok (.bipush 12, 2) := by decide +kernel
theorem dX6_cast_90 : decode cX6_cast 90 = .ok (.invokevirtual 219, 3) := by decide +kernel
theorem dX6_cast_93 : decode cX6_cast 93 = .ok (.aload_n 0, 1) := by decide +kernel
theorem dX6_cast_94 : decode cX6_cast 94 = .ok (.aload_n 0, 1) := by decide +kernel
theorem dX6_cast_95 : decode cX6_cast 95 = .ok (.aload_n 0, 1) := by decide +kernel
theorem dX6_cast_96 : decode cX6_cast 96 = .ok (.getfield 109, 3) := by decide +kernel
theorem dX6_cast_99 : decode cX6_cast 99 = .ok (.invokevirtual 112, 3) := by decide +kernel
theorem dX6_cast_102 : decode cX6_cast 102 = .ok (.putfield 243, 3) := by decide +kernel
theorem dX6_cast_105 : decode cX6_cast 105 = .ok (.iload 4, 2) := by decide +kernel
theorem dX6_cast_107 : decode cX6_cast 107 = .ok (.iconst (-1), 1) := by decide +kernel
theorem dX6_cast_108 : decode cX6_cast 108 = .ok (.if_icmp .eq 12, 3) := by decide +kernel
theorem dX6_cast_111 : decode cX6_cast 111 = .ok (.aload_n 0, 1) := by decide +kernel
theorem dX6_cast_112 : decode cX6_cast 112 = .ok (.getfield 243, 3) := by decide +kernel
theorem dX6_cast_115 : decode cX6_cast 115 = .ok (.iload 5, 2) := by decide +kernel
theorem dX6_cast_117 : decode cX6_cast 117 = .ok (.if_icmp .le 7, 3) := by decide +kernel
theorem dX6_cast_120 : decode cX6_cast 120 = .ok (.iconst 1, 1) := by decide +kernel
theorem dX6_cast_121 : decode cX6_cast 121 = .ok (.goto 4, 3) := by decide +kernel
theorem dX6_cast_124 : decode cX6_cast 124 = .ok (.iconst 0, 1) := by decide +kernel
theorem dX6_cast_125 : decode cX6_cast 125 = .ok (.istore 8, 2) := by decide +kernel
theorem dX6_cast_127 : decode cX6_cast 127 = .ok (.iload 8, 2) := by decide +kernel
theorem dX6_cast_129 : decode cX6_cast 129 = .ok (.ifCond .eq 10, 3) := by decide +kernel
theorem dX6_cast_132 : decode cX6_cast 132 = .ok (.aload_n 0, 1) := by decide +kernel
theorem dX6_cast_133 : decode cX6_cast 133 = .ok (.getfield 237, 3) := by decide +kernel
theorem dX6_cast_136 : decode cX6_cast 136 = .ok (.goto 5, 3) := by decide +kernel
theorem dX6_cast_139 : decode cX6_cast 139 = .ok (.iload 4, 2) := by decide +kernel
theorem dX6_cast_141 : decode cX6_cast 141 = .ok (.istore 4, 2) := by decide +kernel
theorem dX6_cast_143 : decode cX6_cast 143 = .ok (.iload 8, 2) := by decide +kernel
theorem dX6_cast_145 : decode cX6_cast 145 = .ok (.ifCond .eq 10, 3) := by decide +kernel
theorem dX6_cast_148 : decode cX6_cast 148 = .ok (.aload_n 0, 1) := by decide +kernel
theorem dX6_cast_149 : decode cX6_cast 149 = .ok (.getfield 243, 3) := by decide +kernel
theorem dX6_cast_152 : decode cX6_cast 152 = .ok (.goto 5, 3) := by decide +kernel
theorem dX6_cast_155 : decode cX6_cast 155 = .ok (.iload 5, 2) := by decide +kernel
theorem dX6_cast_157 : decode cX6_cast 157 = .ok (.istore 5, 2) := by decide +kernel
theorem dX6_cast_159 : decode cX6_cast 159 = .ok (.aload_n 0, 1) := by decide +kernel
theorem dX6_cast_160 : decode cX6_cast 160 = .ok (.invokevirtual 222, 3) := by decide +kernel
theorem dX6_cast_163 : decode cX6_cast 163 = .ok (.iinc 6 1, 3) := by decide +kernel
theorem dX6_cast_166 : decode cX6_cast 166 = .ok (.goto (-99), 3) := by decide +kernel
theorem dX6_cast_169 : decode cX6_cast 169 = .ok (.iload_n 2, 1) := by decide +kernel
theorem dX6_cast_170 : decode cX6_cast 170 = .ok (.ifCond .ne 8, 3) := by decide +kernel
theorem dX6_cast_173 : decode cX6_cast 173 = .ok (.iload 4, 2) := by decide +kernel
theorem dX6_cast_175 : decode cX6_cast 175 = .ok (.goto 5, 3) := by decide +kernel
theorem dX6_cast_178 : decode cX6_cast 178 = .ok (.iload 5, 2) := by decide +kernel
theorem dX6_cast_180 : decode cX6_cast 180 = .ok (.ireturn, 1) := by decide +kernel
theorem dX6_lowest_0 : decode cX6_lowest 0 = .ok (.lload_n 0, 1) := by decide +kernel
theorem dX6_lowest_1 : decode cX6_lowest 1 = .ok (.lconst 0, 1) := by decide +kernel
theorem dX6_lowest_2 : decode cX6_lowest 2 = .ok (.lcmp, 1) := by decide +kernel
theorem dX6_lowest_3 : decode cX6_lowest 3 = .ok (.ifCond .ge 8, 3) := by decide +kernel
theorem dX6_lowest_6 : decode cX6_lowest 6 = .ok (.lload_n 0, 1) := by decide +kernel
theorem dX6_lowest_7 : decode cX6_lowest 7 = .ok (.lneg, 1) := by decide +kernel
theorem dX6_lowest_8 : decode cX6_lowest 8 = .ok (.goto 4, 3) := by decide +kernel
theorem dX6_lowest_11 : decode cX6_lowest 11 = .ok (.lload_n 0, 1) := by decide +kernel
theorem dX6_lowest_12 : decode cX6_lowest 12 = .ok (.lstore 5, 2) := by decide +kernel
theorem dX6_lowest_14 : decode cX6_lowest 14 = .ok (.lload_n 2, 1) := by decide +kernel
theorem dX6_lowest_15 : decode cX6_lowest 15 = .ok (.lstore 7, 2) := by decide +kernel
theorem dX6_lowest_17 : decode cX6_lowest 17 = .ok (.lload 7, 2) := by decide +kernel
theorem dX6_lowest_19 : decode cX6_lowest 19 = .ok (.lconst 0, 1) := by decide +kernel
theorem dX6_lowest_20 : decode cX6_lowest 20 = .ok (.lcmp, 1) := by decide +kernel
theorem dX6_lowest_21 : decode cX6_lowest 21 = .ok (.ifCond .eq 21, 3) := by decide +kernel
theorem dX6_lowest_24 : decode cX6_lowest 24 = .ok (.lload 5, 2) := by decide +kernel
theorem dX6_lowest_26 : decode cX6_lowest 26 = .ok (.lload 7, 2) := by decide +kernel
theorem dX6_lowest_28 : decode cX6_lowest 28 = .ok (.lrem, 1) := by decide +kernel
theorem dX6_lowest_29 : decode cX6_lowest 29 = .ok (.lstore 9, 2) := by decide +kernel
theorem dX6_lowest_31 : decode cX6_lowest 31 = .ok (.lload 7, 2) := by decide +kernel
theorem dX6_lowest_33 : decode cX6_lowest 33 = .ok (.lstore 5, 2) := by decide +kernel
theorem dX6_lowest_35 : decode cX6_lowest 35 = .ok (.lload 9, 2) := by decide +kernel
theorem dX6_lowest_37 : decode cX6_lowest 37 = .ok (.lstore 7, 2) := by decide +kernel
theorem dX6_lowest_39 : decode cX6_lowest 39 = .ok (.goto (-22), 3) := by decide +kernel
theorem dX6_lowest_42 : decode cX6_lowest 42 = .ok (.iload 4, 2) := by decide +kernel
theorem dX6_lowest_44 : decode cX6_lowest 44 = .ok (.ifCond .ne 7, 3) := by decide +kernel
theorem dX6_lowest_47 : decode cX6_lowest 47 = .ok (.lload_n 0, 1) := by decide +kernel
theorem dX6_lowest_48 : decode cX6_lowest 48 = .ok (.goto 4, 3) := by decide +kernel
theorem dX6_lowest_51 : decode cX6_lowest 51 = .ok (.lload_n 2, 1) := by decide +kernel
theorem dX6_lowest_52 : decode cX6_lowest 52 = .ok (.lload 5, 2) := by decide +kernel
theorem dX6_lowest_54 : decode cX6_lowest 54 = .ok (.ldiv, 1) := by decide +kernel
theorem dX6_lowest_55 : decode cX6_lowest 55 = .ok (.lreturn, 1) := by decide +kernel
set_option maxRecDepth 20000 in
theorem ggX6_mean_X6_in : GoodIn wsX6_mean wsX6_in := goodIn_r _ [6] rfl (by decide +kernel)
set_option maxRecDepth 20000 in
theorem gX6_mean_X6_in : GoodIn wsX6_mean (va_wsS RX6 81 yX6_in wsX6_in) := goodIn_app (goodIn_of _ (by decide +kernel)) ggX6_mean_X6_in
set_option maxRecDepth 20000 in
theorem ggX6_mean_X6_verdictOf : GoodIn wsX6_mean wsX6_verdictOf := goodIn_r _ [10, 11, 18, 19, 20, 21, 22, 23, 24, 25, 26, 27, 28, 29, 30, 31, 32, 33, 34, 35, 36, 37, 38, 39, 40, 41, 42, 43, 44, 45, 46, 47, 48, 49, 50, 51, 52, 53, 54, 55] rfl (by decide +kernel)
set_option maxRecDepth 20000 in
theorem gX6_mean_X6_verdictOf : GoodIn wsX6_mean (wsV RX6 112 RX6 yX6_verdictOf wsX6_verdictOf) := goodIn_app (goodIn_of _ (by decide +kernel)) ggX6_mean_X6_verdictOf
set_option maxRecDepth 20000 in
theorem ggX6_mean_X6_onesOf : GoodIn wsX6_mean wsX6_onesOf := goodIn_r _ [14] rfl (by decide +kernel)
set_option maxRecDepth 20000 in
theorem gX6_mean_X6_onesOf : GoodIn wsX6_mean (va_wsS RX6 177 yX6_onesOf wsX6_onesOf) := goodIn_app (goodIn_of _ (by decide +kernel)) ggX6_mean_X6_onesOf
set_option maxRecDepth 20000 in
theorem ggX6_mean_X6_lowest : GoodIn wsX6_mean wsX6_lowest := goodIn_r _ [17] rfl (by decide +kernel)
set_option maxRecDepth 20000 in
theorem gX6_mean_X6_lowest : GoodIn wsX6_mean (va_wsS RX6 246 yX6_lowest wsX6_lowest) := goodIn_app (goodIn_of _ (by decide +kernel)) ggX6_mean_X6_lowest
theorem dX6_mean_0 : decode cX6_mean 0 = .ok (.iload_n 1, 1) := by decide +kernel
theorem dX6_mean_1 : decode cX6_mean 1 = .ok (.iconst 0, 1) := by decide +kernel
theorem dX6_mean_2 : decode cX6_mean 2 = .ok (.iconst 1, 1) := by decide +kernel
theorem dX6_mean_3 : decode cX6_mean 3 = .ok (.invokestatic 81, 3) := by decide +kernel
theorem dX6_mean_6 : decode cX6_mean 6 = .ok (.ifCond .eq 34, 3) := by decide +kernel
theorem dX6_mean_9 : decode cX6_mean 9 = .ok (.aload_n 0, 1) := by decide +kernel
theorem dX6_mean_10 : decode cX6_mean 10 = .ok (.getfield 109, 3) := by decide +kernel
theorem dX6_mean_13 : decode cX6_mean 13 = .ok (.ifCond .eq 27, 3) := by decide +kernel
theorem dX6_mean_16 : decode cX6_mean 16 = .ok (.aload_n 0, 1) := by decide +kernel
theorem dX6_mean_17 : decode cX6_mean 17 = .ok (.aload_n 0, 1) := by decide +kernel
theorem dX6_mean_18 : decode cX6_mean 18 = .ok (.getfield 109, 3) := by decide +kernel
theorem dX6_mean_21 : decode cX6_mean 21 = .ok (.invokevirtual 112, 3) := by decide +kernel
theorem dX6_mean_24 : decode cX6_mean 24 = .ok (.i2l, 1) := by decide +kernel
theorem dX6_mean_25 : decode cX6_mean 25 = .ok (.aload_n 0, 1) := by decide +kernel
theorem dX6_mean_26 : decode cX6_mean 26 = .ok (.getfield 109, 3) := by decide +kernel
theorem dX6_mean_29 : decode cX6_mean 29 = .ok (.invokestatic 177, 3) := by decide +kernel
theorem dX6_mean_32 : decode cX6_mean 32 = .ok (.i2l, 1) := by decide +kernel
theorem dX6_mean_33 : decode cX6_mean 33 = .ok (.iload_n 1, 1) := by decide +kernel
theorem dX6_mean_34 : decode cX6_mean 34 = .ok (.invokestatic 246, 3) := by decide +kernel
theorem dX6_mean_37 : decode cX6_mean 37 = .ok (.goto 6, 3) := by decide +kernel
theorem dX6_mean_40 : decode cX6_mean 40 = .ok (.ldc2_w 250, 3) := by decide +kernel
theorem dX6_mean_43 : decode cX6_mean 43 = .ok (.lreturn, 1) := by decide +kernel
set_option maxRecDepth 20000 in
theorem ggX6_sheetWrong_X6_in : GoodIn wsX6_sheetWrong wsX6_in := goodIn_r _ [6] rfl (by decide +kernel)
set_option maxRecDepth 20000 in
theorem gX6_sheetWrong_X6_in : GoodIn wsX6_sheetWrong (va_wsS RX6 81 yX6_in wsX6_in) := goodIn_app (goodIn_of _ (by decide +kernel)) ggX6_sheetWrong_X6_in
theorem dX6_sheetWrong_0 : decode cX6_sheetWrong 0 = .ok (.iload_n 1, 1) := by decide +kernel
theorem dX6_sheetWrong_1 : decode cX6_sheetWrong 1 = .ok (.iconst 0, 1) := by decide +kernel
theorem dX6_sheetWrong_2 : decode cX6_sheetWrong 2 = .ok (.iconst 3, 1) := by decide +kernel
theorem dX6_sheetWrong_3 : decode cX6_sheetWrong 3 = .ok (.invokestatic 81, 3) := by decide +kernel
theorem dX6_sheetWrong_6 : decode cX6_sheetWrong 6 = .ok (.ifCond .ne 6, 3) := by decide +kernel
theorem dX6_sheetWrong_9 : decode cX6_sheetWrong 9 = .ok (.bipush (-2), 2) := by decide +kernel
theorem dX6_sheetWrong_11 : decode cX6_sheetWrong 11 = .ok (.ireturn, 1) := by decide +kernel
theorem dX6_sheetWrong_12 : decode cX6_sheetWrong 12 = .ok (.aload_n 0, 1) := by decide +kernel
theorem dX6_sheetWrong_13 : decode cX6_sheetWrong 13 = .ok (.getfield 43, 3) := by decide +kernel
theorem dX6_sheetWrong_16 : decode cX6_sheetWrong 16 = .ok (.iload_n 1, 1) := by decide +kernel
theorem dX6_sheetWrong_17 : decode cX6_sheetWrong 17 = .ok (.iaload, 1) := by decide +kernel
theorem dX6_sheetWrong_18 : decode cX6_sheetWrong 18 = .ok (.iconst (-1), 1) := by decide +kernel
theorem dX6_sheetWrong_19 : decode cX6_sheetWrong 19 = .ok (.if_icmp .ne 6, 3) := by decide +kernel
theorem dX6_sheetWrong_22 : decode cX6_sheetWrong 22 = .ok (.bipush (-11), 2) := by decide +kernel
theorem dX6_sheetWrong_24 : decode cX6_sheetWrong 24 = .ok (.ireturn, 1) := by decide +kernel
theorem dX6_sheetWrong_25 : decode cX6_sheetWrong 25 = .ok (.aload_n 0, 1) := by decide +kernel
theorem dX6_sheetWrong_26 : decode cX6_sheetWrong 26 = .ok (.getfield 46, 3) := by decide +kernel
theorem dX6_sheetWrong_29 : decode cX6_sheetWrong 29 = .ok (.iload_n 1, 1) := by decide +kernel
theorem dX6_sheetWrong_30 : decode cX6_sheetWrong 30 = .ok (.iaload, 1) := by decide +kernel
theorem dX6_sheetWrong_31 : decode cX6_sheetWrong 31 = .ok (.bipush 20, 2) := by decide +kernel
theorem dX6_sheetWrong_33 : decode cX6_sheetWrong 33 = .ok (.if_icmp .le 8, 3) := by decide +kernel
theorem dX6_sheetWrong_36 : decode cX6_sheetWrong 36 = .ok (.bipush (-2), 2) := by decide +kernel
theorem dX6_sheetWrong_38 : decode cX6_sheetWrong 38 = .ok (.goto 4, 3) := by decide +kernel
theorem dX6_sheetWrong_41 : decode cX6_sheetWrong 41 = .ok (.iconst 0, 1) := by decide +kernel
theorem dX6_sheetWrong_42 : decode cX6_sheetWrong 42 = .ok (.ireturn, 1) := by decide +kernel
set_option maxRecDepth 20000 in
theorem ggX6_unlike_X6_keeps : GoodIn wsX6_unlike wsX6_keeps := goodIn_r _ [8, 9, 10, 11, 3, 12, 66, 67, 68, 69, 70, 71, 72, 73, 74, 75, 76, 77, 78, 79, 80, 81, 82, 83, 84, 85, 86, 87, 88, 89, 90, 91, 92, 93, 94, 95, 96, 97, 98, 99, 100, 101, 102, 103] rfl (by decide +kernel)
set_option maxRecDepth 20000 in
theorem gX6_unlike_X6_keeps : GoodIn wsX6_unlike (wsV RX6 216 RX6 yX6_keeps wsX6_keeps) := goodIn_app (goodIn_of _ (by decide +kernel)) ggX6_unlike_X6_keeps
set_option maxRecDepth 20000 in
theorem ggX6_unlike_X6_hourOf : GoodIn wsX6_unlike wsX6_hourOf := goodIn_r _ [16, 12, 11, 3, 10, 17, 18, 19, 7, 20, 21, 22, 23, 24, 25, 26, 27, 28, 29, 30, 31, 32, 33, 34, 35, 36, 37, 38, 39, 40, 41, 42, 43, 44, 45, 46, 47, 48, 49, 50, 51, 52, 53, 54, 55, 56, 57, 58, 59, 60, 61, 66, 67, 68, 69, 70, 71, 72, 73, 74, 75, 76, 77, 78, 79, 80, 81, 82, 83, 84, 85, 86, 87, 88, 89, 90, 91, 92, 93, 94, 95, 96, 97, 98, 99, 100, 101, 102, 103] rfl (by decide +kernel)
set_option maxRecDepth 20000 in
theorem gX6_unlike_X6_hourOf : GoodIn wsX6_unlike (wsV RX6 213 RX6 yX6_hourOf wsX6_hourOf) := goodIn_app (goodIn_of _ (by decide +kernel)) ggX6_unlike_X6_hourOf
set_option maxRecDepth 20000 in
theorem ggX6_unlike_X6_onesOf : GoodIn wsX6_unlike wsX6_onesOf := goodIn_r _ [45] rfl (by decide +kernel)
set_option maxRecDepth 20000 in
theorem gX6_unlike_X6_onesOf : GoodIn wsX6_unlike (va_wsS RX6 177 yX6_onesOf wsX6_onesOf) := goodIn_app (goodIn_of _ (by decide +kernel)) ggX6_unlike_X6_onesOf
set_option maxRecDepth 20000 in
theorem ggX6_unlike_X6_lays : GoodIn wsX6_unlike wsX6_lays := goodIn_r _ [65, 10, 9, 11, 3, 12, 66, 67, 68, 69, 70, 71, 72, 73, 74, 75, 76, 77, 78, 79, 80, 81, 82, 83, 84, 85, 86, 87, 88, 89, 90, 91, 92, 93, 94, 95, 96, 97, 98, 99, 100, 101, 102, 103] rfl (by decide +kernel)
set_option maxRecDepth 20000 in
theorem gX6_unlike_X6_lays : GoodIn wsX6_unlike (wsV RX6 222 RX6 yX6_lays wsX6_lays) := goodIn_app (goodIn_of _ (by decide +kernel)) ggX6_unlike_X6_lays
theorem dX6_unlike_0 : decode cX6_unlike 0 = .ok (.iconst (-1), 1) := by decide +kernel
theorem dX6_unlike_1 : decode cX6_unlike 1 = .ok (.istore_n 2, 1) := by decide +kernel
theorem dX6_unlike_2 : decode cX6_unlike 2 = .ok (.aload_n 0, 1) := by decide +kernel
theorem dX6_unlike_3 : decode cX6_unlike 3 = .ok (.invokevirtual 216, 3) := by decide +kernel
theorem dX6_unlike_6 : decode cX6_unlike 6 = .ok (.iconst 0, 1) := by decide +kernel
theorem dX6_unlike_7 : decode cX6_unlike 7 = .ok (.istore_n 3, 1) := by decide +kernel
theorem dX6_unlike_8 : decode cX6_unlike 8 = .ok (.iload_n 3, 1) := by decide +kernel
theorem dX6_unlike_9 : decode cX6_unlike 9 = .ok (.aload_n 0, 1) := by decide +kernel
theorem dX6_unlike_10 : decode cX6_unlike 10 = .ok (.getfield 46, 3) := by decide +kernel
theorem dX6_unlike_13 : decode cX6_unlike 13 = .ok (.iload_n 1, 1) := by decide +kernel
theorem dX6_unlike_14 : decode cX6_unlike 14 = .ok (.iaload, 1) := by decide +kernel
theorem dX6_unlike_15 : decode cX6_unlike 15 = .ok (.if_icmp .ge 46, 3) := by decide +kernel
theorem dX6_unlike_18 : decode cX6_unlike 18 = .ok (.iload_n 2, 1) := by decide +kernel
theorem dX6_unlike_19 : decode cX6_unlike 19 = .ok (.iconst (-1), 1) := by decide +kernel
theorem dX6_unlike_20 : decode cX6_unlike 20 = .ok (.if_icmp .ne 41, 3) := by decide +kernel
theorem dX6_unlike_23 : decode cX6_unlike 23 = .ok (.aload_n 0, 1) := by decide +kernel
theorem dX6_unlike_24 : decode cX6_unlike 24 = .ok (.invokevirtual 213, 3) := by decide +kernel
theorem dX6_unlike_27 : decode cX6_unlike 27 = .ok (.pop, 1) := by decide +kernel
theorem dX6_unlike_28 : decode cX6_unlike 28 = .ok (.aload_n 0, 1) := by decide +kernel
theorem dX6_unlike_29 : decode cX6_unlike 29 = .ok (.getfield 49, 3) := by decide +kernel
theorem dX6_unlike_32 : decode cX6_unlike 32 = .ok (.bipush 40, 2) := by decide +kernel
theorem dX6_unlike_34 : decode cX6_unlike 34 = .ok (.iload_n 1, 1) := by decide +kernel
theorem dX6_unlike_35 : decode cX6_unlike 35 = .ok (.imul, 1) := by decide +kernel
theorem dX6_unlike_36 : decode cX6_unlike 36 = .ok (.iload_n 3, 1) := by decide +kernel
theorem dX6_unlike_37 : decode cX6_unlike 37 = .ok (.iadd, 1) := by decide +kernel
theorem dX6_unlike_38 : decode cX6_unlike 38 = .ok (.iaload, 1) := by decide +kernel
theorem dX6_unlike_39 : decode cX6_unlike 39 = .ok (.aload_n 0, 1) := by decide +kernel
theorem dX6_unlike_40 : decode cX6_unlike 40 = .ok (.getfield 109, 3) := by decide +kernel
theorem dX6_unlike_43 : decode cX6_unlike 43 = .ok (.invokestatic 177, 3) := by decide +kernel
theorem dX6_unlike_46 : decode cX6_unlike 46 = .ok (.if_icmp .ne 7, 3) := by decide +kernel
theorem dX6_unlike_49 : decode cX6_unlike 49 = .ok (.iconst (-1), 1) := by decide +kernel
theorem dX6_unlike_50 : decode cX6_unlike 50 = .ok (.goto 4, 3) := by decide +kernel
theorem dX6_unlike_53 : decode cX6_unlike 53 = .ok (.iload_n 3, 1) := by decide +kernel
theorem dX6_unlike_54 : decode cX6_unlike 54 = .ok (.istore_n 2, 1) := by decide +kernel
theorem dX6_unlike_55 : decode cX6_unlike 55 = .ok (.iinc 3 1, 3) := by decide +kernel
theorem dX6_unlike_58 : decode cX6_unlike 58 = .ok (.goto (-50), 3) := by decide +kernel
theorem dX6_unlike_61 : decode cX6_unlike 61 = .ok (.aload_n 0, 1) := by decide +kernel
theorem dX6_unlike_62 : decode cX6_unlike 62 = .ok (.invokevirtual 222, 3) := by decide +kernel
theorem dX6_unlike_65 : decode cX6_unlike 65 = .ok (.iload_n 2, 1) := by decide +kernel
theorem dX6_unlike_66 : decode cX6_unlike 66 = .ok (.ireturn, 1) := by decide +kernel
set_option maxRecDepth 20000 in
theorem ggX6_judge_X6_sheetWrong : GoodIn wsX6_judge wsX6_sheetWrong := goodIn_r _ [5, 6, 7, 8, 9, 4, 10, 75, 76, 77, 78, 79, 80, 81, 82, 83, 84, 85, 86, 87, 88, 89, 90, 91, 92, 93, 94, 95, 96, 97, 98, 99, 100, 101, 102, 103, 104, 105, 106, 107, 108, 109, 110, 111, 112] rfl (by decide +kernel)
set_option maxRecDepth 20000 in
theorem gX6_judge_X6_sheetWrong : GoodIn wsX6_judge (wsV RX6 252 RX6 yX6_sheetWrong wsX6_sheetWrong) := goodIn_app (goodIn_of _ (by decide +kernel)) ggX6_judge_X6_sheetWrong
set_option maxRecDepth 20000 in
theorem ggX6_judge_X6_unlike : GoodIn wsX6_judge wsX6_unlike := goodIn_r _ [14, 7, 15, 16, 17, 18, 19, 4, 20, 21, 22, 23, 24, 25, 26, 27, 28, 29, 30, 31, 32, 8, 9, 10, 33, 34, 35, 36, 37, 38, 39, 40, 41, 42, 43, 44, 45, 46, 47, 48, 49, 50, 51, 52, 53, 54, 55, 56, 57, 58, 59, 60, 61, 62, 63, 64, 65, 66, 67, 68, 69, 70, 71, 72, 73, 74, 75, 76, 77, 78, 79, 80, 81, 82, 83, 84, 85, 86, 87, 88, 89, 90, 91, 92, 93, 94, 95, 96, 97, 98, 99, 100, 101, 102, 103, 104, 105, 106, 107, 108, 109, 110, 111, 112] rfl (by decide +kernel)
set_option maxRecDepth 20000 in
theorem gX6_judge_X6_unlike : GoodIn wsX6_judge (wsV RX6 255 RX6 yX6_unlike wsX6_unlike) := goodIn_app (goodIn_of _ (by decide +kernel)) ggX6_judge_X6_unlike
theorem dX6_judge_0 : decode cX6_judge 0 = .ok (.aload_n 0, 1) := by decide +kernel
theorem dX6_judge_1 : decode cX6_judge 1 = .ok (.iload_n 1, 1) := by decide +kernel
theorem dX6_judge_2 : decode cX6_judge 2 = .ok (.invokevirtual 252, 3) := by decide +kernel
theorem dX6_judge_5 : decode cX6_judge 5 = .ok (.istore_n 2, 1) := by decide +kernel
theorem dX6_judge_6 : decode cX6_judge 6 = .ok (.iload_n 2, 1) := by decide +kernel
theorem dX6_judge_7 : decode cX6_judge 7 = .ok (.ifCond .ne 11, 3) := by decide +kernel
theorem dX6_judge_10 : decode cX6_judge 10 = .ok (.aload_n 0, 1) := by decide +kernel
theorem dX6_judge_11 : decode cX6_judge 11 = .ok (.iload_n 1, 1) := by decide +kernel
theorem dX6_judge_12 : decode cX6_judge 12 = .ok (.invokevirtual 255, 3) := by decide +kernel
theorem dX6_judge_15 : decode cX6_judge 15 = .ok (.goto 4, 3) := by decide +kernel
theorem dX6_judge_18 : decode cX6_judge 18 = .ok (.iload_n 2, 1) := by decide +kernel
theorem dX6_judge_19 : decode cX6_judge 19 = .ok (.ireturn, 1) := by decide +kernel
set_option maxRecDepth 20000 in
theorem ggX6_kinds_X6_sheetWrong : GoodIn wsX6_kinds wsX6_sheetWrong := goodIn_r _ [7, 8, 9, 10, 11, 6, 12, 80, 81, 82, 83, 84, 85, 86, 87, 88, 89, 90, 91, 92, 93, 94, 95, 96, 97, 98, 99, 100, 101, 102, 103, 104, 105, 106, 107, 108, 109, 110, 111, 112, 113, 114, 115, 116, 117] rfl (by decide +kernel)
set_option maxRecDepth 20000 in
theorem gX6_kinds_X6_sheetWrong : GoodIn wsX6_kinds (wsV RX6 252 RX6 yX6_sheetWrong wsX6_sheetWrong) := goodIn_app (goodIn_of _ (by decide +kernel)) ggX6_kinds_X6_sheetWrong
set_option maxRecDepth 20000 in
theorem ggX6_kinds_X6_isOne : GoodIn wsX6_kinds wsX6_isOne := goodIn_r _ [16, 17, 10, 11, 6, 12, 80, 81, 82, 83, 84, 85, 86, 87, 88, 89, 90, 91, 92, 93, 94, 95, 96, 97, 98, 99, 100, 101, 102, 103, 104, 105, 106, 107, 108, 109, 110, 111, 112, 113, 114, 115, 116, 117] rfl (by decide +kernel)
set_option maxRecDepth 20000 in
theorem gX6_kinds_X6_isOne : GoodIn wsX6_kinds (wsV RX6 183 RX6 yX6_isOne wsX6_isOne) := goodIn_app (goodIn_of _ (by decide +kernel)) ggX6_kinds_X6_isOne
set_option maxRecDepth 20000 in
theorem ggX6_kinds_X6_in : GoodIn wsX6_kinds wsX6_in := goodIn_r _ [12] rfl (by decide +kernel)
set_option maxRecDepth 20000 in
theorem gX6_kinds_X6_in : GoodIn wsX6_kinds (va_wsS RX6 81 yX6_in wsX6_in) := goodIn_app (goodIn_of _ (by decide +kernel)) ggX6_kinds_X6_in
set_option maxRecDepth 20000 in
theorem ggX6_kinds_X6_unlike : GoodIn wsX6_kinds wsX6_unlike := goodIn_r _ [21, 9, 22, 23, 24, 25, 26, 6, 27, 28, 29, 30, 31, 32, 33, 34, 35, 36, 37, 38, 39, 10, 11, 12, 40, 41, 42, 43, 44, 45, 46, 47, 48, 49, 50, 51, 1, 2, 52, 53, 54, 55, 56, 57, 58, 59, 60, 61, 62, 63, 64, 65, 66, 67, 68, 69, 70, 71, 72, 73, 74, 75, 76, 77, 78, 79, 80, 81, 82, 83, 84, 85, 86, 87, 88, 89, 90, 91, 92, 93, 94, 95, 96, 97, 98, 99, 100, 101, 102, 103, 104, 105, 106, 107, 108, 109, 110, 111, 112, 113, 114, 115, 116, 117] rfl (by decide +kernel)
set_option maxRecDepth 20000 in
theorem gX6_kinds_X6_unlike : GoodIn wsX6_kinds (wsV RX6 255 RX6 yX6_unlike wsX6_unlike) := goodIn_app (goodIn_of _ (by decide +kernel)) ggX6_kinds_X6_unlike
theorem dX6_kinds_0 : decode cX6_kinds 0 = .ok (.aload_n 0, 1) := by decide +kernel
theorem dX6_kinds_1 : decode cX6_kinds 1 = .ok (.iload_n 1, 1) := by decide +kernel
theorem dX6_kinds_2 : decode cX6_kinds 2 = .ok (.invokevirtual 252, 3) := by decide +kernel
theorem dX6_kinds_5 : decode cX6_kinds 5 = .ok (.istore 4, 2) := by decide +kernel
theorem dX6_kinds_7 : decode cX6_kinds 7 = .ok (.iload 4, 2) := by decide +kernel
theorem dX6_kinds_9 : decode cX6_kinds 9 = .ok (.ifCond .eq 6, 3) := by decide +kernel
theorem dX6_kinds_12 : decode cX6_kinds 12 = .ok (.iload 4, 2) := by decide +kernel
theorem dX6_kinds_14 : decode cX6_kinds 14 = .ok (.ireturn, 1) := by decide +kernel
theorem dX6_kinds_15 : decode cX6_kinds 15 = .ok (.aload_n 0, 1) := by decide +kernel
theorem dX6_kinds_16 : decode cX6_kinds 16 = .ok (.iload_n 2, 1) := by decide +kernel
theorem dX6_kinds_17 : decode cX6_kinds 17 = .ok (.invokevirtual 183, 3) := by decide +kernel
theorem dX6_kinds_20 : decode cX6_kinds 20 = .ok (.ifCond .ne 6, 3) := by decide +kernel
theorem dX6_kinds_23 : decode cX6_kinds 23 = .ok (.bipush (-5), 2) := by decide +kernel
theorem dX6_kinds_25 : decode cX6_kinds 25 = .ok (.ireturn, 1) := by decide +kernel
theorem dX6_kinds_26 : decode cX6_kinds 26 = .ok (.iload_n 3, 1) := by decide +kernel
theorem dX6_kinds_27 : decode cX6_kinds 27 = .ok (.iconst 0, 1) := by decide +kernel
theorem dX6_kinds_28 : decode cX6_kinds 28 = .ok (.iconst 1, 1) := by decide +kernel
theorem dX6_kinds_29 : decode cX6_kinds 29 = .ok (.invokestatic 81, 3) := by decide +kernel
theorem dX6_kinds_32 : decode cX6_kinds 32 = .ok (.ifCond .ne 6, 3) := by decide +kernel
theorem dX6_kinds_35 : decode cX6_kinds 35 = .ok (.bipush (-7), 2) := by decide +kernel
theorem dX6_kinds_37 : decode cX6_kinds 37 = .ok (.ireturn, 1) := by decide +kernel
theorem dX6_kinds_38 : decode cX6_kinds 38 = .ok (.aload_n 0, 1) := by decide +kernel
theorem dX6_kinds_39 : decode cX6_kinds 39 = .ok (.getfield 7, 3) := by decide +kernel
theorem dX6_kinds_42 : decode cX6_kinds 42 = .ok (.iload_n 2, 1) := by decide +kernel
theorem dX6_kinds_43 : decode cX6_kinds 43 = .ok (.iaload, 1) := by decide +kernel
theorem dX6_kinds_44 : decode cX6_kinds 44 = .ok (.istore 5, 2) := by decide +kernel
theorem dX6_kinds_46 : decode cX6_kinds 46 = .ok (.aload_n 0, 1) := by decide +kernel
theorem dX6_kinds_47 : decode cX6_kinds 47 = .ok (.getfield 13, 3) := by decide +kernel
theorem dX6_kinds_50 : decode cX6_kinds 50 = .ok (.iload_n 2, 1) := by decide +kernel
theorem dX6_kinds_51 : decode cX6_kinds 51 = .ok (.iaload, 1) := by decide +kernel
theorem dX6_kinds_52 : decode cX6_kinds 52 = .ok (.istore 6, 2) := by decide +kernel
theorem dX6_kinds_54 : decode cX6_kinds 54 = .ok (.iconst 0, 1) := by decide +kernel
theorem dX6_kinds_55 : decode cX6_kinds 55 = .ok (.istore 7, 2) := by decide +kernel
theorem dX6_kinds_57 : decode cX6_kinds 57 = .ok (.iconst 0, 1) := by decide +kernel
theorem dX6_kinds_58 : decode cX6_kinds 58 = .ok (.istore 8, 2) := by decide +kernel
theorem dX6_kinds_60 : decode cX6_kinds 60 = .ok (.iload 8, 2) := by decide +kernel
theorem dX6_kinds_62 : decode cX6_kinds 62 = .ok (.iload_n 3, 1) := by decide +kernel
theorem dX6_kinds_63 : decode cX6_kinds 63 = .ok (.ifCond .ne 8, 3) := by decide +kernel
theorem dX6_kinds_66 : decode cX6_kinds 66 = .ok (.bipush 6, 2) := by decide +kernel
theorem dX6_kinds_68 : decode cX6_kinds 68 = .ok (.goto 5, 3) := by decide +kernel
theorem dX6_kinds_71 : decode cX6_kinds 71 = .ok (.bipush 10, 2) := by decide +kernel
theorem dX6_kinds_73 : decode cX6_kinds 73 = .ok (.if_icmp .ge 66, 3) := by decide +kernel
theorem dX6_kinds_76 : decode cX6_kinds 76 = .ok (.aload_n 0, 1) := by decide +kernel
theorem dX6_kinds_77 : decode cX6_kinds 77 = .ok (.getfield 7, 3) := by decide +kernel
theorem dX6_kinds_80 : decode cX6_kinds 80 = .ok (.iload_n 2, 1) := by decide +kernel
theorem dX6_kinds_81 : decode cX6_kinds 81 = .ok (.iload_n 3, 1) := by decide +kernel
theorem dX6_kinds_82 : decode cX6_kinds 82 = .ok (.ifCond .ne 8, 3) := by decide +kernel
theorem dX6_kinds_85 : decode cX6_kinds 85 = .ok (.iload 8, 2) := by decide +kernel
theorem dX6_kinds_87 : decode cX6_kinds 87 = .ok (.goto 5, 3) := by decide +kernel
theorem dX6_kinds_90 : decode cX6_kinds 90 = .ok (.iload 5, 2) := by decide +kernel
theorem dX6_kinds_92 : decode cX6_kinds 92 = .ok (.iastore, 1) := by decide +kernel
theorem dX6_kinds_93 : decode cX6_kinds 93 = .ok (.aload_n 0, 1) := by decide +kernel
theorem dX6_kinds_94 : decode cX6_kinds 94 = .ok (.getfield 13, 3) := by decide +kernel
theorem dX6_kinds_97 : decode cX6_kinds 97 = .ok (.iload_n 2, 1) := by decide +kernel
theorem dX6_kinds_98 : decode cX6_kinds 98 = .ok (.iload_n 3, 1) := by decide +kernel
theorem dX6_kinds_99 : decode cX6_kinds 99 = .ok (.iconst 1, 1) := by decide +kernel
theorem dX6_kinds_100 : decode cX6_kinds 100 = .ok (.if_icmp .ne 8, 3) := by decide +kernel
theorem dX6_kinds_103 : decode cX6_kinds 103 = .ok (.iload 8, 2) := by decide +kernel
theorem dX6_kinds_105 : decode cX6_kinds 105 = .ok (.goto 5, 3) := by decide +kernel
theorem dX6_kinds_108 : decode cX6_kinds 108 = .ok (.iload 6, 2) := by decide +kernel
theorem dX6_kinds_110 : decode cX6_kinds 110 = .ok (.iastore, 1) := by decide +kernel
theorem dX6_kinds_111 : decode cX6_kinds 111 = .ok (.iload 7, 2) := by decide +kernel
theorem dX6_kinds_113 : decode cX6_kinds 113 = .ok (.aload_n 0, 1) := by decide +kernel
theorem dX6_kinds_114 : decode cX6_kinds 114 = .ok (.iload_n 1, 1) := by decide +kernel
theorem dX6_kinds_115 : decode cX6_kinds 115 = .ok (.invokevirtual 255, 3) := by decide +kernel
theorem dX6_kinds_118 : decode cX6_kinds 118 = .ok (.iconst (-1), 1) := by decide +kernel
theorem dX6_kinds_119 : decode cX6_kinds 119 = .ok (.if_icmp .ne 10, 3) := by decide +kernel
theorem dX6_kinds_122 : decode cX6_kinds 122 = .ok (.iconst 1, 1) := by decide +kernel
theorem dX6_kinds_123 : decode cX6_kinds 123 = .ok (.iload 8, 2) := by decide +kernel
theorem dX6_kinds_125 : decode cX6_kinds 125 = .ok (.ishl, 1) := by decide +kernel
theorem dX6_kinds_126 : decode cX6_kinds 126 = .ok (.goto 4, 3) := by decide +kernel
theorem dX6_kinds_129 : decode cX6_kinds 129 = .ok (.iconst 0, 1) := by decide +kernel
theorem dX6_kinds_130 : decode cX6_kinds 130 = .ok (.ior, 1) := by decide +kernel
theorem dX6_kinds_131 : decode cX6_kinds 131 = .ok (.istore 7, 2) := by decide +kernel
theorem dX6_kinds_133 : decode cX6_kinds 133 = .ok (.iinc 8 1, 3) := by decide +kernel
theorem dX6_kinds_136 : decode cX6_kinds 136 = .ok (.goto (-76), 3) := by decide +kernel
theorem dX6_kinds_139 : decode cX6_kinds 139 = .ok (.aload_n 0, 1) := by decide +kernel
theorem dX6_kinds_140 : decode cX6_kinds 140 = .ok (.getfield 7, 3) := by decide +kernel
theorem dX6_kinds_143 : decode cX6_kinds 143 = .ok (.iload_n 2, 1) := by decide +kernel
theorem dX6_kinds_144 : decode cX6_kinds 144 = .ok (.iload 5, 2) := by decide +kernel
theorem dX6_kinds_146 : decode cX6_kinds 146 = .ok (.iastore, 1) := by decide +kernel
theorem dX6_kinds_147 : decode cX6_kinds 147 = .ok (.aload_n 0, 1) := by decide +kernel
theorem dX6_kinds_148 : decode cX6_kinds 148 = .ok (.getfield 13, 3) := by decide +kernel
theorem dX6_kinds_151 : decode cX6_kinds 151 = .ok (.iload_n 2, 1) := by decide +kernel
theorem dX6_kinds_152 : decode cX6_kinds 152 = .ok (.iload 6, 2) := by decide +kernel
theorem dX6_kinds_154 : decode cX6_kinds 154 = .ok (.iastore, 1) := by decide +kernel
theorem dX6_kinds_155 : decode cX6_kinds 155 = .ok (.iload 7, 2) := by decide +kernel
theorem dX6_kinds_157 : decode cX6_kinds 157 = .ok (.ireturn, 1) := by decide +kernel
set_option maxRecDepth 20000 in
theorem ggX6_faces_X6_sheetWrong : GoodIn wsX6_faces wsX6_sheetWrong := goodIn_r _ [6, 7, 8, 9, 10, 5, 11, 80, 81, 82, 83, 84, 85, 86, 87, 88, 89, 90, 91, 92, 93, 94, 95, 96, 97, 98, 99, 100, 101, 102, 103, 104, 105, 106, 107, 108, 109, 110, 111, 112, 113, 114, 115, 116, 117] rfl (by decide +kernel)
set_option maxRecDepth 20000 in
theorem gX6_faces_X6_sheetWrong : GoodIn wsX6_faces (wsV RX6 252 RX6 yX6_sheetWrong wsX6_sheetWrong) := goodIn_app (goodIn_of _ (by decide +kernel)) ggX6_faces_X6_sheetWrong
set_option maxRecDepth 20000 in
theorem ggX6_faces_X6_isOne : GoodIn wsX6_faces wsX6_isOne := goodIn_r _ [15, 16, 9, 10, 5, 11, 80, 81, 82, 83, 84, 85, 86, 87, 88, 89, 90, 91, 92, 93, 94, 95, 96, 97, 98, 99, 100, 101, 102, 103, 104, 105, 106, 107, 108, 109, 110, 111, 112, 113, 114, 115, 116, 117] rfl (by decide +kernel)
set_option maxRecDepth 20000 in
theorem gX6_faces_X6_isOne : GoodIn wsX6_faces (wsV RX6 183 RX6 yX6_isOne wsX6_isOne) := goodIn_app (goodIn_of _ (by decide +kernel)) ggX6_faces_X6_isOne
set_option maxRecDepth 20000 in
theorem ggX6_faces_X6_in : GoodIn wsX6_faces wsX6_in := goodIn_r _ [11] rfl (by decide +kernel)

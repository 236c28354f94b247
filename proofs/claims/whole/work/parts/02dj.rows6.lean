theorem dX6_turn_75 : decode cX6_turn 75 = .ok (.istore 6, 2) := by decide +kernel
theorem dX6_turn_77 : decode cX6_turn 77 = .ok (.iload 6, 2) := by decide +kernel
theorem dX6_turn_79 : decode cX6_turn 79 = .ok (.ifCond .eq 36, 3) := by decide +kernel
theorem dX6_turn_82 : decode cX6_turn 82 = .ok (.aload_n 0, 1) := by decide +kernel
theorem dX6_turn_83 : decode cX6_turn 83 = .ok (.aload_n 0, 1) := by decide +kernel
theorem dX6_turn_84 : decode cX6_turn 84 = .ok (.getfield 109, 3) := by decide +kernel
theorem dX6_turn_87 : decode cX6_turn 87 = .ok (.iload 5, 2) := by decide +kernel
theorem dX6_turn_89 : decode cX6_turn 89 = .ok (.ior, 1) := by decide +kernel
theorem dX6_turn_90 : decode cX6_turn 90 = .ok (.invokevirtual 112, 3) := by decide +kernel
theorem dX6_turn_93 : decode cX6_turn 93 = .ok (.ifCond .le 7, 3) := by decide +kernel
theorem dX6_turn_96 : decode cX6_turn 96 = .ok (.iconst 1, 1) := by decide +kernel
theorem dX6_turn_97 : decode cX6_turn 97 = .ok (.goto 4, 3) := by decide +kernel
theorem dX6_turn_100 : decode cX6_turn 100 = .ok (.iconst 0, 1) := by decide +kernel
theorem dX6_turn_101 : decode cX6_turn 101 = .ok (.iload_n 2, 1) := by decide +kernel
theorem dX6_turn_102 : decode cX6_turn 102 = .ok (.if_icmp .eq 13, 3) := by decide +kernel
theorem dX6_turn_105 : decode cX6_turn 105 = .ok (.iload 5, 2) := by decide +kernel
theorem dX6_turn_107 : decode cX6_turn 107 = .ok (.istore_n 3, 1) := by decide +kernel
theorem dX6_turn_108 : decode cX6_turn 108 = .ok (.iload 5, 2) := by decide +kernel
theorem dX6_turn_110 : decode cX6_turn 110 = .ok (.invokestatic 177, 3) := by decide +kernel
theorem dX6_turn_113 : decode cX6_turn 113 = .ok (.istore 4, 2) := by decide +kernel
theorem dX6_turn_115 : decode cX6_turn 115 = .ok (.iinc 5 1, 3) := by decide +kernel
theorem dX6_turn_118 : decode cX6_turn 118 = .ok (.goto (-81), 3) := by decide +kernel
theorem dX6_turn_121 : decode cX6_turn 121 = .ok (.iload_n 1, 1) := by decide +kernel
theorem dX6_turn_122 : decode cX6_turn 122 = .ok (.ifCond .ne 7, 3) := by decide +kernel
theorem dX6_turn_125 : decode cX6_turn 125 = .ok (.iload_n 3, 1) := by decide +kernel
theorem dX6_turn_126 : decode cX6_turn 126 = .ok (.goto 5, 3) := by decide +kernel
theorem dX6_turn_129 : decode cX6_turn 129 = .ok (.iload 4, 2) := by decide +kernel
theorem dX6_turn_131 : decode cX6_turn 131 = .ok (.ireturn, 1) := by decide +kernel
set_option maxRecDepth 20000 in
theorem ggX6_admittedBehind_X6_keeps : GoodIn wsX6_admittedBehind wsX6_keeps := goodIn_r _ [6, 7, 8, 9, 1, 10, 68, 69, 70, 71, 72, 73, 74, 75, 76, 77, 78, 79, 80, 81, 82, 83, 84, 85, 86, 87, 88, 89, 90, 91, 92, 93, 94, 95, 96, 97, 98, 99, 100, 101, 102, 103, 104, 105] rfl (by decide +kernel)
set_option maxRecDepth 20000 in
theorem gX6_admittedBehind_X6_keeps : GoodIn wsX6_admittedBehind (wsV RX6 216 RX6 yX6_keeps wsX6_keeps) := goodIn_app (goodIn_of _ (by decide +kernel)) ggX6_admittedBehind_X6_keeps
set_option maxRecDepth 20000 in
theorem ggX6_admittedBehind_X6_goes : GoodIn wsX6_admittedBehind wsX6_goes := goodIn_r _ [14, 15, 16, 17, 5, 18, 10, 9, 1, 8, 19, 20, 21, 22, 23, 24, 25, 26, 27, 28, 29, 30, 31, 32, 33, 34, 35, 36, 37, 38, 39, 40, 41, 42, 43, 44, 45, 46, 47, 48, 49, 50, 51, 52, 53, 54, 55, 56, 57, 58, 59, 60, 61, 62, 63, 68, 69, 70, 71, 72, 73, 74, 75, 76, 77, 78, 79, 80, 81, 82, 83, 84, 85, 86, 87, 88, 89, 90, 91, 92, 93, 94, 95, 96, 97, 98, 99, 100, 101, 102, 103, 104, 105] rfl (by decide +kernel)
set_option maxRecDepth 20000 in
theorem gX6_admittedBehind_X6_goes : GoodIn wsX6_admittedBehind (wsV RX6 219 RX6 yX6_goes wsX6_goes) := goodIn_app (goodIn_of _ (by decide +kernel)) ggX6_admittedBehind_X6_goes
set_option maxRecDepth 20000 in
theorem ggX6_admittedBehind_X6_onesOf : GoodIn wsX6_admittedBehind wsX6_onesOf := goodIn_r _ [47] rfl (by decide +kernel)
set_option maxRecDepth 20000 in
theorem gX6_admittedBehind_X6_onesOf : GoodIn wsX6_admittedBehind (va_wsS RX6 177 yX6_onesOf wsX6_onesOf) := goodIn_app (goodIn_of _ (by decide +kernel)) ggX6_admittedBehind_X6_onesOf
set_option maxRecDepth 20000 in
theorem ggX6_admittedBehind_X6_lays : GoodIn wsX6_admittedBehind wsX6_lays := goodIn_r _ [67, 8, 7, 9, 1, 10, 68, 69, 70, 71, 72, 73, 74, 75, 76, 77, 78, 79, 80, 81, 82, 83, 84, 85, 86, 87, 88, 89, 90, 91, 92, 93, 94, 95, 96, 97, 98, 99, 100, 101, 102, 103, 104, 105] rfl (by decide +kernel)
set_option maxRecDepth 20000 in
theorem gX6_admittedBehind_X6_lays : GoodIn wsX6_admittedBehind (wsV RX6 222 RX6 yX6_lays wsX6_lays) := goodIn_app (goodIn_of _ (by decide +kernel)) ggX6_admittedBehind_X6_lays
theorem dX6_admittedBehind_0 : decode cX6_admittedBehind 0 = .ok (.aload_n 0, 1) := by decide +kernel
theorem dX6_admittedBehind_1 : decode cX6_admittedBehind 1 = .ok (.invokevirtual 216, 3) := by decide +kernel
theorem dX6_admittedBehind_4 : decode cX6_admittedBehind 4 = .ok (.aload_n 0, 1) := by decide +kernel
theorem dX6_admittedBehind_5 : decode cX6_admittedBehind 5 = .ok (.iload_n 1, 1) := by decide +kernel
theorem dX6_admittedBehind_6 : decode cX6_admittedBehind 6 = .ok (.invokevirtual 219, 3) := by decide +kernel
theorem dX6_admittedBehind_9 : decode cX6_admittedBehind 9 = .ok (.aload_n 0, 1) := by decide +kernel
theorem dX6_admittedBehind_10 : decode cX6_admittedBehind 10 = .ok (.getfield 109, 3) := by decide +kernel
theorem dX6_admittedBehind_13 : decode cX6_admittedBehind 13 = .ok (.invokestatic 177, 3) := by decide +kernel
theorem dX6_admittedBehind_16 : decode cX6_admittedBehind 16 = .ok (.istore_n 2, 1) := by decide +kernel
theorem dX6_admittedBehind_17 : decode cX6_admittedBehind 17 = .ok (.aload_n 0, 1) := by decide +kernel
theorem dX6_admittedBehind_18 : decode cX6_admittedBehind 18 = .ok (.invokevirtual 222, 3) := by decide +kernel
theorem dX6_admittedBehind_21 : decode cX6_admittedBehind 21 = .ok (.iload_n 2, 1) := by decide +kernel
theorem dX6_admittedBehind_22 : decode cX6_admittedBehind 22 = .ok (.ireturn, 1) := by decide +kernel
set_option maxRecDepth 20000 in
theorem ggX6_gallant_X6_in : GoodIn wsX6_gallant wsX6_in := goodIn_r _ [5] rfl (by decide +kernel)
set_option maxRecDepth 20000 in
theorem gX6_gallant_X6_in : GoodIn wsX6_gallant (va_wsS RX6 81 yX6_in wsX6_in) := goodIn_app (goodIn_of _ (by decide +kernel)) ggX6_gallant_X6_in
set_option maxRecDepth 20000 in
theorem ggX6_gallant_X6_admittedBehind : GoodIn wsX6_gallant wsX6_admittedBehind := goodIn_r _ [9, 10, 11, 12, 13, 4, 14, 15, 16, 17, 18, 19, 20, 21, 22, 23, 24, 25, 26, 27, 28, 29, 30, 2, 3, 5, 31, 32, 33, 34, 35, 36, 37, 1, 38, 39, 40, 41, 42, 43, 44, 45, 46, 47, 48, 49, 50, 51, 52, 53, 54, 55, 56, 57, 58, 59, 60, 61, 62, 63, 64, 65, 66, 67, 68, 69, 70, 71, 72, 73, 74, 75, 76, 77, 78, 79, 80, 81, 82, 83, 84, 85, 86, 87, 88, 89, 90, 91, 92, 93, 94, 95, 96, 97, 98, 99, 100, 101, 102, 103, 104, 105, 106, 107, 108, 109] rfl (by decide +kernel)
set_option maxRecDepth 20000 in
theorem gX6_gallant_X6_admittedBehind : GoodIn wsX6_gallant (wsV RX6 234 RX6 yX6_admittedBehind wsX6_admittedBehind) := goodIn_app (goodIn_of _ (by decide +kernel)) ggX6_gallant_X6_admittedBehind
theorem dX6_gallant_0 : decode cX6_gallant 0 = .ok (.iload_n 1, 1) := by decide +kernel
theorem dX6_gallant_1 : decode cX6_gallant 1 = .ok (.iconst 0, 1) := by decide +kernel
theorem dX6_gallant_2 : decode cX6_gallant 2 = .ok (.bipush 40, 2) := by decide +kernel
theorem dX6_gallant_4 : decode cX6_gallant 4 = .ok (.invokestatic 81, 3) := by decide +kernel
theorem dX6_gallant_7 : decode cX6_gallant 7 = .ok (.ifCond .eq 12, 3) := by decide +kernel
theorem dX6_gallant_10 : decode cX6_gallant 10 = .ok (.iload_n 2, 1) := by decide +kernel
theorem dX6_gallant_11 : decode cX6_gallant 11 = .ok (.iconst 0, 1) := by decide +kernel
theorem dX6_gallant_12 : decode cX6_gallant 12 = .ok (.iconst 1, 1) := by decide +kernel
theorem dX6_gallant_13 : decode cX6_gallant 13 = .ok (.invokestatic 81, 3) := by decide +kernel
theorem dX6_gallant_16 : decode cX6_gallant 16 = .ok (.ifCond .ne 6, 3) := by decide +kernel
theorem dX6_gallant_19 : decode cX6_gallant 19 = .ok (.bipush (-2), 2) := by decide +kernel
theorem dX6_gallant_21 : decode cX6_gallant 21 = .ok (.ireturn, 1) := by decide +kernel
theorem dX6_gallant_22 : decode cX6_gallant 22 = .ok (.iconst (-1), 1) := by decide +kernel
theorem dX6_gallant_23 : decode cX6_gallant 23 = .ok (.istore_n 3, 1) := by decide +kernel
theorem dX6_gallant_24 : decode cX6_gallant 24 = .ok (.aload_n 0, 1) := by decide +kernel
theorem dX6_gallant_25 : decode cX6_gallant 25 = .ok (.iload_n 1, 1) := by decide +kernel
theorem dX6_gallant_26 : decode cX6_gallant 26 = .ok (.invokevirtual 234, 3) := by decide +kernel
theorem dX6_gallant_29 : decode cX6_gallant 29 = .ok (.istore 4, 2) := by decide +kernel
theorem dX6_gallant_31 : decode cX6_gallant 31 = .ok (.iconst 0, 1) := by decide +kernel
theorem dX6_gallant_32 : decode cX6_gallant 32 = .ok (.istore 5, 2) := by decide +kernel
theorem dX6_gallant_34 : decode cX6_gallant 34 = .ok (.iload 5, 2) := by decide +kernel
theorem dX6_gallant_36 : decode cX6_gallant 36 = .ok (.bipush 6, 2) := by decide +kernel
theorem dX6_gallant_38 : decode cX6_gallant 38 = .ok (.if_icmp .ge 73, 3) := by decide +kernel
theorem dX6_gallant_41 : decode cX6_gallant 41 = .ok (.aload_n 0, 1) := by decide +kernel
theorem dX6_gallant_42 : decode cX6_gallant 42 = .ok (.getfield 25, 3) := by decide +kernel
theorem dX6_gallant_45 : decode cX6_gallant 45 = .ok (.iload 5, 2) := by decide +kernel
theorem dX6_gallant_47 : decode cX6_gallant 47 = .ok (.iaload, 1) := by decide +kernel
theorem dX6_gallant_48 : decode cX6_gallant 48 = .ok (.istore 6, 2) := by decide +kernel
theorem dX6_gallant_50 : decode cX6_gallant 50 = .ok (.aload_n 0, 1) := by decide +kernel
theorem dX6_gallant_51 : decode cX6_gallant 51 = .ok (.getfield 25, 3) := by decide +kernel
theorem dX6_gallant_54 : decode cX6_gallant 54 = .ok (.iload 5, 2) := by decide +kernel
theorem dX6_gallant_56 : decode cX6_gallant 56 = .ok (.bipush 99, 2) := by decide +kernel
theorem dX6_gallant_58 : decode cX6_gallant 58 = .ok (.iastore, 1) := by decide +kernel
theorem dX6_gallant_59 : decode cX6_gallant 59 = .ok (.aload_n 0, 1) := by decide +kernel
theorem dX6_gallant_60 : decode cX6_gallant 60 = .ok (.iload_n 1, 1) := by decide +kernel
theorem dX6_gallant_61 : decode cX6_gallant 61 = .ok (.invokevirtual 234, 3) := by decide +kernel
theorem dX6_gallant_64 : decode cX6_gallant 64 = .ok (.istore 7, 2) := by decide +kernel
theorem dX6_gallant_66 : decode cX6_gallant 66 = .ok (.aload_n 0, 1) := by decide +kernel
theorem dX6_gallant_67 : decode cX6_gallant 67 = .ok (.getfield 25, 3) := by decide +kernel
theorem dX6_gallant_70 : decode cX6_gallant 70 = .ok (.iload 5, 2) := by decide +kernel
theorem dX6_gallant_72 : decode cX6_gallant 72 = .ok (.iload 6, 2) := by decide +kernel
theorem dX6_gallant_74 : decode cX6_gallant 74 = .ok (.iastore, 1) := by decide +kernel
theorem dX6_gallant_75 : decode cX6_gallant 75 = .ok (.iload 7, 2) := by decide +kernel
theorem dX6_gallant_77 : decode cX6_gallant 77 = .ok (.iload 4, 2) := by decide +kernel
theorem dX6_gallant_79 : decode cX6_gallant 79 = .ok (.if_icmp .le 8, 3) := by decide +kernel
theorem dX6_gallant_82 : decode cX6_gallant 82 = .ok (.iload 5, 2) := by decide +kernel
theorem dX6_gallant_84 : decode cX6_gallant 84 = .ok (.goto 4, 3) := by decide +kernel
theorem dX6_gallant_87 : decode cX6_gallant 87 = .ok (.iload_n 3, 1) := by decide +kernel
theorem dX6_gallant_88 : decode cX6_gallant 88 = .ok (.istore_n 3, 1) := by decide +kernel
theorem dX6_gallant_89 : decode cX6_gallant 89 = .ok (.iload 7, 2) := by decide +kernel
theorem dX6_gallant_91 : decode cX6_gallant 91 = .ok (.iload 4, 2) := by decide +kernel
theorem dX6_gallant_93 : decode cX6_gallant 93 = .ok (.if_icmp .le 8, 3) := by decide +kernel
theorem dX6_gallant_96 : decode cX6_gallant 96 = .ok (.iload 7, 2) := by decide +kernel
theorem dX6_gallant_98 : decode cX6_gallant 98 = .ok (.goto 5, 3) := by decide +kernel
theorem dX6_gallant_101 : decode cX6_gallant 101 = .ok (.iload 4, 2) := by decide +kernel
theorem dX6_gallant_103 : decode cX6_gallant 103 = .ok (.istore 4, 2) := by decide +kernel
theorem dX6_gallant_105 : decode cX6_gallant 105 = .ok (.iinc 5 1, 3) := by decide +kernel
theorem dX6_gallant_108 : decode cX6_gallant 108 = .ok (.goto (-74), 3) := by decide +kernel
theorem dX6_gallant_111 : decode cX6_gallant 111 = .ok (.iload_n 2, 1) := by decide +kernel
theorem dX6_gallant_112 : decode cX6_gallant 112 = .ok (.ifCond .ne 7, 3) := by decide +kernel
theorem dX6_gallant_115 : decode cX6_gallant 115 = .ok (.iload_n 3, 1) := by decide +kernel
theorem dX6_gallant_116 : decode cX6_gallant 116 = .ok (.goto 5, 3) := by decide +kernel
theorem dX6_gallant_119 : decode cX6_gallant 119 = .ok (.iload 4, 2) := by decide +kernel
theorem dX6_gallant_121 : decode cX6_gallant 121 = .ok (.ireturn, 1) := by decide +kernel
set_option maxRecDepth 20000 in
theorem ggX6_castBy_X6_within : GoodIn wsX6_castBy wsX6_within := goodIn_r _ [6] rfl (by decide +kernel)
set_option maxRecDepth 20000 in
theorem gX6_castBy_X6_within : GoodIn wsX6_castBy (va_wsS RX6 85 yX6_within wsX6_within) := goodIn_app (goodIn_of _ (by decide +kernel)) ggX6_castBy_X6_within
set_option maxRecDepth 20000 in
theorem ggX6_castBy_X6_can : GoodIn wsX6_castBy wsX6_can := goodIn_r _ [10, 11, 12, 13, 14, 5, 15, 16, 17, 18, 19, 20, 21, 22, 23, 3, 4, 6, 76, 77, 78, 79, 80, 81, 82, 83, 84, 85, 86, 87, 88, 89, 90, 91, 92, 93, 94, 95, 96, 97, 98, 99, 100, 101, 102, 103, 104, 105, 106, 107, 108, 109, 110, 111, 112, 113] rfl (by decide +kernel)
set_option maxRecDepth 20000 in
theorem gX6_castBy_X6_can : GoodIn wsX6_castBy (wsV RX6 231 RX6 yX6_can wsX6_can) := goodIn_app (goodIn_of _ (by decide +kernel)) ggX6_castBy_X6_can
set_option maxRecDepth 20000 in
theorem ggX6_castBy_X6_dropOf : GoodIn wsX6_castBy wsX6_dropOf := goodIn_r _ [27, 20, 28, 29, 30, 5, 31, 11, 32, 33, 34, 35, 36, 37, 38, 39, 40, 41, 42, 43, 12, 13, 14, 15, 16, 17, 18, 19, 21, 22, 23, 3, 4, 6, 44, 45, 46, 47, 48, 49, 50, 51, 52, 53, 54, 55, 56, 57, 58, 59, 60, 61, 62, 76, 77, 78, 79, 80, 81, 82, 83, 84, 85, 86, 87, 88, 89, 90, 91, 92, 93, 94, 95, 96, 97, 98, 99, 100, 101, 102, 103, 104, 105, 106, 107, 108, 109, 110, 111, 112, 113] rfl (by decide +kernel)
set_option maxRecDepth 20000 in
theorem gX6_castBy_X6_dropOf : GoodIn wsX6_castBy (wsV RX6 210 RX6 yX6_dropOf wsX6_dropOf) := goodIn_app (goodIn_of _ (by decide +kernel)) ggX6_castBy_X6_dropOf
set_option maxRecDepth 20000 in
theorem ggX6_castBy_X6_hourOf : GoodIn wsX6_castBy wsX6_hourOf := goodIn_r _ [66, 42, 20, 43, 11, 16, 17, 18, 5, 19, 21, 22, 23, 3, 4, 6, 67, 68, 69, 70, 71, 72, 73, 74, 75, 32, 33, 37, 38, 39, 40, 41, 34, 35, 36, 12, 13, 14, 15, 44, 45, 46, 47, 48, 49, 50, 51, 52, 53, 54, 55, 76, 77, 78, 79, 80, 81, 82, 83, 84, 85, 86, 87, 88, 89, 90, 91, 92, 93, 94, 95, 96, 97, 98, 99, 100, 101, 102, 103, 104, 105, 106, 107, 108, 109, 110, 111, 112, 113] rfl (by decide +kernel)
set_option maxRecDepth 20000 in
theorem gX6_castBy_X6_hourOf : GoodIn wsX6_castBy (wsV RX6 213 RX6 yX6_hourOf wsX6_hourOf) := goodIn_app (goodIn_of _ (by decide +kernel)) ggX6_castBy_X6_hourOf
theorem dX6_castBy_0 : decode cX6_castBy 0 = .ok (.iconst 1, 1) := by decide +kernel
theorem dX6_castBy_1 : decode cX6_castBy 1 = .ok (.istore_n 3, 1) := by decide +kernel
theorem dX6_castBy_2 : decode cX6_castBy 2 = .ok (.iconst 1, 1) := by decide +kernel
theorem dX6_castBy_3 : decode cX6_castBy 3 = .ok (.istore 4, 2) := by decide +kernel
theorem dX6_castBy_5 : decode cX6_castBy 5 = .ok (.iload 4, 2) := by decide +kernel
theorem dX6_castBy_7 : decode cX6_castBy 7 = .ok (.iload_n 2, 1) := by decide +kernel
theorem dX6_castBy_8 : decode cX6_castBy 8 = .ok (.if_icmp .ge 14, 3) := by decide +kernel
theorem dX6_castBy_11 : decode cX6_castBy 11 = .ok (.iload_n 3, 1) := by decide +kernel
theorem dX6_castBy_12 : decode cX6_castBy 12 = .ok (.bipush 7, 2) := by decide +kernel
theorem dX6_castBy_14 : decode cX6_castBy 14 = .ok (.imul, 1) := by decide +kernel
theorem dX6_castBy_15 : decode cX6_castBy 15 = .ok (.istore_n 3, 1) := by decide +kernel
theorem dX6_castBy_16 : decode cX6_castBy 16 = .ok (.iinc 4 1, 3) := by decide +kernel
theorem dX6_castBy_19 : decode cX6_castBy 19 = .ok (.goto (-14), 3) := by decide +kernel
theorem dX6_castBy_22 : decode cX6_castBy 22 = .ok (.iload_n 1, 1) := by decide +kernel
theorem dX6_castBy_23 : decode cX6_castBy 23 = .ok (.istore 4, 2) := by decide +kernel
theorem dX6_castBy_25 : decode cX6_castBy 25 = .ok (.iconst 0, 1) := by decide +kernel
theorem dX6_castBy_26 : decode cX6_castBy 26 = .ok (.istore 5, 2) := by decide +kernel
theorem dX6_castBy_28 : decode cX6_castBy 28 = .ok (.iconst 1, 1) := by decide +kernel
theorem dX6_castBy_29 : decode cX6_castBy 29 = .ok (.istore 6, 2) := by decide +kernel
theorem dX6_castBy_31 : decode cX6_castBy 31 = .ok (.iconst 0, 1) := by decide +kernel
theorem dX6_castBy_32 : decode cX6_castBy 32 = .ok (.istore 7, 2) := by decide +kernel
theorem dX6_castBy_34 : decode cX6_castBy 34 = .ok (.aload_n 0, 1) := by decide +kernel
theorem dX6_castBy_35 : decode cX6_castBy 35 = .ok (.iconst 0, 1) := by decide +kernel
theorem dX6_castBy_36 : decode cX6_castBy 36 = .ok (.putfield 237, 3) := by decide +kernel
theorem dX6_castBy_39 : decode cX6_castBy 39 = .ok (.iconst 0, 1) := by decide +kernel
theorem dX6_castBy_40 : decode cX6_castBy 40 = .ok (.istore 8, 2) := by decide +kernel
theorem dX6_castBy_42 : decode cX6_castBy 42 = .ok (.iload 8, 2) := by decide +kernel
theorem dX6_castBy_44 : decode cX6_castBy 44 = .ok (.iload_n 2, 1) := by decide +kernel
theorem dX6_castBy_45 : decode cX6_castBy 45 = .ok (.if_icmp .ge 162, 3) := by decide +kernel
theorem dX6_castBy_48 : decode cX6_castBy 48 = .ok (.iload 6, 2) := by decide +kernel
theorem dX6_castBy_50 : decode cX6_castBy 50 = .ok (.ifCond .eq 157, 3) := by decide +kernel
theorem dX6_castBy_53 : decode cX6_castBy 53 = .ok (.iload 4, 2) := by decide +kernel
theorem dX6_castBy_55 : decode cX6_castBy 55 = .ok (.iload_n 3, 1) := by decide +kernel
theorem dX6_castBy_56 : decode cX6_castBy 56 = .ok (.idiv, 1) := by decide +kernel
theorem dX6_castBy_57 : decode cX6_castBy 57 = .ok (.iconst 0, 1) := by decide +kernel
theorem dX6_castBy_58 : decode cX6_castBy 58 = .ok (.bipush 6, 2) := by decide +kernel
theorem dX6_castBy_60 : decode cX6_castBy 60 = .ok (.invokestatic 85, 3) := by decide +kernel
theorem dX6_castBy_63 : decode cX6_castBy 63 = .ok (.iconst 1, 1) := by decide +kernel
theorem dX6_castBy_64 : decode cX6_castBy 64 = .ok (.isub, 1) := by decide +kernel
theorem dX6_castBy_65 : decode cX6_castBy 65 = .ok (.istore 9, 2) := by decide +kernel
theorem dX6_castBy_67 : decode cX6_castBy 67 = .ok (.iload 4, 2) := by decide +kernel
theorem dX6_castBy_69 : decode cX6_castBy 69 = .ok (.iload_n 3, 1) := by decide +kernel
theorem dX6_castBy_70 : decode cX6_castBy 70 = .ok (.irem, 1) := by decide +kernel
theorem dX6_castBy_71 : decode cX6_castBy 71 = .ok (.istore 4, 2) := by decide +kernel
theorem dX6_castBy_73 : decode cX6_castBy 73 = .ok (.iload_n 3, 1) := by decide +kernel
theorem dX6_castBy_74 : decode cX6_castBy 74 = .ok (.iconst 1, 1) := by decide +kernel
theorem dX6_castBy_75 : decode cX6_castBy 75 = .ok (.if_icmp .le 10, 3) := by decide +kernel
theorem dX6_castBy_78 : decode cX6_castBy 78 = .ok (.iload_n 3, 1) := by decide +kernel
theorem dX6_castBy_79 : decode cX6_castBy 79 = .ok (.bipush 7, 2) := by decide +kernel
theorem dX6_castBy_81 : decode cX6_castBy 81 = .ok (.idiv, 1) := by decide +kernel
theorem dX6_castBy_82 : decode cX6_castBy 82 = .ok (.goto 4, 3) := by decide +kernel
theorem dX6_castBy_85 : decode cX6_castBy 85 = .ok (.iconst 1, 1) := by decide +kernel
theorem dX6_castBy_86 : decode cX6_castBy 86 = .ok (.istore_n 3, 1) := by decide +kernel
theorem dX6_castBy_87 : decode cX6_castBy 87 = .ok (.iload 7, 2) := by decide +kernel
theorem dX6_castBy_89 : decode cX6_castBy 89 = .ok (.iload 9, 2) := by decide +kernel
theorem dX6_castBy_91 : decode cX6_castBy 91 = .ok (.iconst (-1), 1) := by decide +kernel
theorem dX6_castBy_92 : decode cX6_castBy 92 = .ok (.if_icmp .ne 7, 3) := by decide +kernel
theorem dX6_castBy_95 : decode cX6_castBy 95 = .ok (.iconst 1, 1) := by decide +kernel
theorem dX6_castBy_96 : decode cX6_castBy 96 = .ok (.goto 4, 3) := by decide +kernel
theorem dX6_castBy_99 : decode cX6_castBy 99 = .ok (.iconst 0, 1) := by decide +kernel
theorem dX6_castBy_100 : decode cX6_castBy 100 = .ok (.ior, 1) := by decide +kernel
theorem dX6_castBy_101 : decode cX6_castBy 101 = .ok (.istore 7, 2) := by decide +kernel
theorem dX6_castBy_103 : decode cX6_castBy 103 = .ok (.iload 9, 2) := by decide +kernel
theorem dX6_castBy_105 : decode cX6_castBy 105 = .ok (.iconst (-1), 1) := by decide +kernel
theorem dX6_castBy_106 : decode cX6_castBy 106 = .ok (.if_icmp .ne 9, 3) := by decide +kernel
theorem dX6_castBy_109 : decode cX6_castBy 109 = .ok (.iconst 1, 1) := by decide +kernel
theorem dX6_castBy_110 : decode cX6_castBy 110 = .ok (.istore 6, 2) := by decide +kernel
theorem dX6_castBy_112 : decode cX6_castBy 112 = .ok (.goto 89, 3) := by decide +kernel
theorem dX6_castBy_115 : decode cX6_castBy 115 = .ok (.iload 7, 2) := by decide +kernel
theorem dX6_castBy_117 : decode cX6_castBy 117 = .ok (.ifCond .ne 26, 3) := by decide +kernel
theorem dX6_castBy_120 : decode cX6_castBy 120 = .ok (.iload 9, 2) := by decide +kernel
theorem dX6_castBy_122 : decode cX6_castBy 122 = .ok (.aload_n 0, 1) := by decide +kernel
theorem dX6_castBy_123 : decode cX6_castBy 123 = .ok (.getfield 78, 3) := by decide +kernel
theorem dX6_castBy_126 : decode cX6_castBy 126 = .ok (.if_icmp .ge 17, 3) := by decide +kernel
theorem dX6_castBy_129 : decode cX6_castBy 129 = .ok (.iload 5, 2) := by decide +kernel
theorem dX6_castBy_131 : decode cX6_castBy 131 = .ok (.iload 9, 2) := by decide +kernel
theorem dX6_castBy_133 : decode cX6_castBy 133 = .ok (.ishr, 1) := by decide +kernel
theorem dX6_castBy_134 : decode cX6_castBy 134 = .ok (.iconst 1, 1) := by decide +kernel
theorem dX6_castBy_135 : decode cX6_castBy 135 = .ok (.iand, 1) := by decide +kernel
theorem dX6_castBy_136 : decode cX6_castBy 136 = .ok (.ifCond .ne 7, 3) := by decide +kernel
theorem dX6_castBy_139 : decode cX6_castBy 139 = .ok (.iconst 1, 1) := by decide +kernel
theorem dX6_castBy_140 : decode cX6_castBy 140 = .ok (.goto 4, 3) := by decide +kernel
theorem dX6_castBy_143 : decode cX6_castBy 143 = .ok (.iconst 0, 1) := by decide +kernel
theorem dX6_castBy_144 : decode cX6_castBy 144 = .ok (.istore 6, 2) := by decide +kernel
theorem dX6_castBy_146 : decode cX6_castBy 146 = .ok (.iload 6, 2) := by decide +kernel
theorem dX6_castBy_148 : decode cX6_castBy 148 = .ok (.ifCond .eq 11, 3) := by decide +kernel
theorem dX6_castBy_151 : decode cX6_castBy 151 = .ok (.aload_n 0, 1) := by decide +kernel
theorem dX6_castBy_152 : decode cX6_castBy 152 = .ok (.iload 9, 2) := by decide +kernel
theorem dX6_castBy_154 : decode cX6_castBy 154 = .ok (.invokevirtual 231, 3) := by decide +kernel
theorem dX6_castBy_157 : decode cX6_castBy 157 = .ok (.istore 6, 2) := by decide +kernel
theorem dX6_castBy_159 : decode cX6_castBy 159 = .ok (.iload 6, 2) := by decide +kernel
theorem dX6_castBy_161 : decode cX6_castBy 161 = .ok (.ifCond .eq 40, 3) := by decide +kernel
theorem dX6_castBy_164 : decode cX6_castBy 164 = .ok (.aload_n 0, 1) := by decide +kernel
theorem dX6_castBy_165 : decode cX6_castBy 165 = .ok (.iload 9, 2) := by decide +kernel
theorem dX6_castBy_167 : decode cX6_castBy 167 = .ok (.invokevirtual 210, 3) := by decide +kernel
theorem dX6_castBy_170 : decode cX6_castBy 170 = .ok (.pop, 1) := by decide +kernel
theorem dX6_castBy_171 : decode cX6_castBy 171 = .ok (.aload_n 0, 1) := by decide +kernel
theorem dX6_castBy_172 : decode cX6_castBy 172 = .ok (.invokevirtual 213, 3) := by decide +kernel
theorem dX6_castBy_175 : decode cX6_castBy 175 = .ok (.pop, 1) := by decide +kernel
theorem dX6_castBy_176 : decode cX6_castBy 176 = .ok (.iload 5, 2) := by decide +kernel
theorem dX6_castBy_178 : decode cX6_castBy 178 = .ok (.iconst 1, 1) := by decide +kernel
theorem dX6_castBy_179 : decode cX6_castBy 179 = .ok (.iload 9, 2) := by decide +kernel
theorem dX6_castBy_181 : decode cX6_castBy 181 = .ok (.ishl, 1) := by decide +kernel
theorem dX6_castBy_182 : decode cX6_castBy 182 = .ok (.ior, 1) := by decide +kernel
theorem dX6_castBy_183 : decode cX6_castBy 183 = .ok (.istore 5, 2) := by decide +kernel
theorem dX6_castBy_185 : decode cX6_castBy 185 = .ok (.aload_n 0, 1) := by decide +kernel
theorem dX6_castBy_186 : decode cX6_castBy 186 = .ok (.bipush 10, 2) := by decide +kernel
theorem dX6_castBy_188 : decode cX6_castBy 188 = .ok (.aload_n 0, 1) := by decide +kernel
theorem dX6_castBy_189 : decode cX6_castBy 189 = .ok (.getfield 237, 3) := by decide +kernel
theorem dX6_castBy_192 : decode cX6_castBy 192 = .ok (.imul, 1) := by decide +kernel
theorem dX6_castBy_193 : decode cX6_castBy 193 = .ok (.iload 9, 2) := by decide +kernel
theorem dX6_castBy_195 : decode cX6_castBy 195 = .ok (.iadd, 1) := by decide +kernel
theorem dX6_castBy_196 : decode cX6_castBy 196 = .ok (.iconst 1, 1) := by decide +kernel
theorem dX6_castBy_197 : decode cX6_castBy 197 = .ok (.iadd, 1) := by decide +kernel
theorem dX6_castBy_198 : decode cX6_castBy 198 = .ok (.putfield 237, 3) := by decide +kernel
theorem dX6_castBy_201 : decode cX6_castBy 201 = .ok (.iinc 8 1, 3) := by decide +kernel
theorem dX6_castBy_204 : decode cX6_castBy 204 = .ok (.goto (-162), 3) := by decide +kernel
theorem dX6_castBy_207 : decode cX6_castBy 207 = .ok (.iload 6, 2) := by decide +kernel
theorem dX6_castBy_209 : decode cX6_castBy 209 = .ok (.ireturn, 1) := by decide +kernel
set_option maxRecDepth 20000 in
theorem ggX6_cast_X6_in : GoodIn wsX6_cast wsX6_in := goodIn_r _ [7] rfl (by decide +kernel)
set_option maxRecDepth 20000 in
theorem gX6_cast_X6_in : GoodIn wsX6_cast (va_wsS RX6 81 yX6_in wsX6_in) := goodIn_app (goodIn_of _ (by decide +kernel)) ggX6_cast_X6_in
set_option maxRecDepth 20000 in
theorem ggX6_cast_X6_keeps : GoodIn wsX6_cast wsX6_keeps := goodIn_r _ [11, 12, 13, 14, 1, 15, 99, 100, 101, 102, 103, 104, 105, 106, 107, 108, 109, 110, 111, 112, 113, 114, 115, 116, 117, 118, 119, 120, 121, 122, 123, 124, 125, 126, 127, 128, 129, 130, 131, 132, 133, 134, 135, 136] rfl (by decide +kernel)
set_option maxRecDepth 20000 in
theorem gX6_cast_X6_keeps : GoodIn wsX6_cast (wsV RX6 216 RX6 yX6_keeps wsX6_keeps) := goodIn_app (goodIn_of _ (by decide +kernel)) ggX6_cast_X6_keeps
set_option maxRecDepth 20000 in
theorem ggX6_cast_X6_castBy : GoodIn wsX6_cast wsX6_castBy := goodIn_r _ [19, 3, 20, 21, 22, 6, 23, 24, 25, 26, 27, 13, 28, 29, 30, 31, 32, 33, 34, 35, 14, 4, 5, 7, 36, 37, 38, 39, 40, 41, 42, 43, 44, 45, 46, 47, 48, 49, 50, 51, 52, 53, 15, 1, 54, 55, 56, 57, 58, 59, 60, 61, 62, 63, 64, 65, 66, 67, 68, 69, 70, 71, 72, 73, 74, 75, 76, 77, 78, 79, 80, 81, 82, 83, 84, 85, 99, 100, 101, 102, 103, 104, 105, 106, 107, 108, 109, 110, 111, 112, 113, 114, 115, 116, 117, 118, 119, 120, 121, 122, 123, 124, 125, 126, 127, 128, 129, 130, 131, 132, 133, 134, 135, 136] rfl (by decide +kernel)
set_option maxRecDepth 20000 in
theorem gX6_cast_X6_castBy : GoodIn wsX6_cast (wsV RX6 240 RX6 yX6_castBy wsX6_castBy) := goodIn_app (goodIn_of _ (by decide +kernel)) ggX6_cast_X6_castBy
set_option maxRecDepth 20000 in
theorem ggX6_cast_X6_goes : GoodIn wsX6_cast wsX6_goes := goodIn_r _ [89, 73, 74, 75, 6, 76, 15, 14, 1, 13, 32, 33, 34, 35, 4, 5, 7, 21, 22, 23, 77, 78, 79, 80, 81, 82, 83, 84, 85, 44, 45, 49, 50, 51, 52, 53, 46, 47, 48, 28, 29, 30, 31, 54, 55, 56, 57, 58, 59, 60, 61, 62, 63, 64, 65, 99, 100, 101, 102, 103, 104, 105, 106, 107, 108, 109, 110, 111, 112, 113, 114, 115, 116, 117, 118, 119, 120, 121, 122, 123, 124, 125, 126, 127, 128, 129, 130, 131, 132, 133, 134, 135, 136] rfl (by decide +kernel)
set_option maxRecDepth 20000 in
theorem gX6_cast_X6_goes : GoodIn wsX6_cast (wsV RX6 219 RX6 yX6_goes wsX6_goes) := goodIn_app (goodIn_of _ (by decide +kernel)) ggX6_cast_X6_goes
set_option maxRecDepth 20000 in
theorem ggX6_cast_X6_verdictOf : GoodIn wsX6_cast wsX6_verdictOf := goodIn_r _ [93, 94, 99, 100, 101, 102, 103, 104, 105, 106, 107, 108, 109, 110, 111, 112, 113, 114, 115, 116, 117, 118, 119, 120, 121, 122, 123, 124, 125, 126, 127, 128, 129, 130, 131, 132, 133, 134, 135, 136] rfl (by decide +kernel)
set_option maxRecDepth 20000 in
theorem gX6_cast_X6_verdictOf : GoodIn wsX6_cast (wsV RX6 112 RX6 yX6_verdictOf wsX6_verdictOf) := goodIn_app (goodIn_of _ (by decide +kernel)) ggX6_cast_X6_verdictOf
set_option maxRecDepth 20000 in
theorem ggX6_cast_X6_lays : GoodIn wsX6_cast wsX6_lays := goodIn_r _ [98, 13, 12, 14, 1, 15, 99, 100, 101, 102, 103, 104, 105, 106, 107, 108, 109, 110, 111, 112, 113, 114, 115, 116, 117, 118, 119, 120, 121, 122, 123, 124, 125, 126, 127, 128, 129, 130, 131, 132, 133, 134, 135, 136] rfl (by decide +kernel)
set_option maxRecDepth 20000 in
theorem gX6_cast_X6_lays : GoodIn wsX6_cast (wsV RX6 222 RX6 yX6_lays wsX6_lays) := goodIn_app (goodIn_of _ (by decide +kernel)) ggX6_cast_X6_lays
theorem dX6_cast_0 : decode cX6_cast 0 = .ok (.iload_n 1, 1) := by decide +kernel
theorem dX6_cast_1 : decode cX6_cast 1 = .ok (.iconst 0, 1) := by decide +kernel
theorem dX6_cast_2 : decode cX6_cast 2 = .ok (.iconst 3, 1) := by decide +kernel
theorem dX6_cast_3 : decode cX6_cast 3 = .ok (.invokestatic 81, 3) := by decide +kernel
theorem dX6_cast_6 : decode cX6_cast 6 = .ok (.ifCond .eq 12, 3) := by decide +kernel
theorem dX6_cast_9 : decode cX6_cast 9 = .ok (.iload_n 2, 1) := by decide +kernel
theorem dX6_cast_10 : decode cX6_cast 10 = .ok (.iconst 0, 1) := by decide +kernel
theorem dX6_cast_11 : decode cX6_cast 11 = .ok (.iconst 1, 1) := by decide +kernel
theorem dX6_cast_12 : decode cX6_cast 12 = .ok (.invokestatic 81, 3) := by decide +kernel
theorem dX6_cast_15 : decode cX6_cast 15 = .ok (.ifCond .ne 7, 3) := by decide +kernel
theorem dX6_cast_18 : decode cX6_cast 18 = .ok (.sipush (-5000), 3) := by decide +kernel
theorem dX6_cast_21 : decode cX6_cast 21 = .ok (.ireturn, 1) := by decide +kernel
theorem dX6_cast_22 : decode cX6_cast 22 = .ok (.iload_n 1, 1) := by decide +kernel
theorem dX6_cast_23 : decode cX6_cast 23 = .ok (.ifCond .ne 7, 3) := by decide +kernel
theorem dX6_cast_26 : decode cX6_cast 26 = .ok (.iconst 1, 1) := by decide +kernel
theorem dX6_cast_27 : decode cX6_cast 27 = .ok (.goto 26, 3) := by decide +kernel
theorem dX6_cast_30 : decode cX6_cast 30 = .ok (.iload_n 1, 1) := by decide +kernel
theorem dX6_cast_31 : decode cX6_cast 31 = .ok (.iconst 1, 1) := by decide +kernel
theorem dX6_cast_32 : decode cX6_cast 32 = .ok (.if_icmp .ne 8, 3) := by decide +kernel
theorem dX6_cast_35 : decode cX6_cast 35 = .ok (.bipush 7, 2) := by decide +kernel
theorem dX6_cast_37 : decode cX6_cast 37 = .ok (.goto 16, 3) := by decide +kernel
theorem dX6_cast_40 : decode cX6_cast 40 = .ok (.iload_n 1, 1) := by decide +kernel
theorem dX6_cast_41 : decode cX6_cast 41 = .ok (.iconst 2, 1) := by decide +kernel
theorem dX6_cast_42 : decode cX6_cast 42 = .ok (.if_icmp .ne 8, 3) := by decide +kernel
theorem dX6_cast_45 : decode cX6_cast 45 = .ok (.bipush 49, 2) := by decide +kernel
theorem dX6_cast_47 : decode cX6_cast 47 = .ok (.goto 6, 3) := by decide +kernel
theorem dX6_cast_50 : decode cX6_cast 50 = .ok (.sipush 343, 3) := by decide +kernel
theorem dX6_cast_53 : decode cX6_cast 53 = .ok (.istore_n 3, 1) := by decide +kernel
theorem dX6_cast_54 : decode cX6_cast 54 = .ok (.iconst (-1), 1) := by decide +kernel
theorem dX6_cast_55 : decode cX6_cast 55 = .ok (.istore 4, 2) := by decide +kernel
theorem dX6_cast_57 : decode cX6_cast 57 = .ok (.iconst 0, 1) := by decide +kernel
theorem dX6_cast_58 : decode cX6_cast 58 = .ok (.istore 5, 2) := by decide +kernel
theorem dX6_cast_60 : decode cX6_cast 60 = .ok (.aload_n 0, 1) := by decide +kernel
theorem dX6_cast_61 : decode cX6_cast 61 = .ok (.invokevirtual 216, 3) := by decide +kernel
theorem dX6_cast_64 : decode cX6_cast 64 = .ok (.iconst 0, 1) := by decide +kernel
theorem dX6_cast_65 : decode cX6_cast 65 = .ok (.istore 6, 2) := by decide +kernel
theorem dX6_cast_67 : decode cX6_cast 67 = .ok (.iload 6, 2) := by decide +kernel
theorem dX6_cast_69 : decode cX6_cast 69 = .ok (.iload_n 3, 1) := by decide +kernel
theorem dX6_cast_70 : decode cX6_cast 70 = .ok (.if_icmp .ge 99, 3) := by decide +kernel
theorem dX6_cast_73 : decode cX6_cast 73 = .ok (.aload_n 0, 1) := by decide +kernel
theorem dX6_cast_74 : decode cX6_cast 74 = .ok (.iload 6, 2) := by decide +kernel
theorem dX6_cast_76 : decode cX6_cast 76 = .ok (.iload_n 1, 1) := by decide +kernel
theorem dX6_cast_77 : decode cX6_cast 77 = .ok (.invokevirtual 240, 3) := by decide +kernel
theorem dX6_cast_80 : decode cX6_cast 80 = .ok (.istore 7, 2) := by decide +kernel
